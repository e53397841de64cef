theorem vdX7_tagReason : yX7_tagReason.cls = RX7 ∧ yX7_tagReason.cls ≠ "java/lang/invoke/MethodHandle" ∧ yX7_tagReason.cls ≠ "java/lang/invoke/VarHandle" ∧ (parseMethodDescriptor yX7_tagReason.desc).map (fun d => d.parameters.length) = some 2 := by decide +kernel
theorem vdX7_moveReason : yX7_moveReason.cls = RX7 ∧ yX7_moveReason.cls ≠ "java/lang/invoke/MethodHandle" ∧ yX7_moveReason.cls ≠ "java/lang/invoke/VarHandle" ∧ (parseMethodDescriptor yX7_moveReason.desc).map (fun d => d.parameters.length) = some 2 := by decide +kernel
theorem vdX7_file : yX7_file.cls = RX7 ∧ yX7_file.cls ≠ "java/lang/invoke/MethodHandle" ∧ yX7_file.cls ≠ "java/lang/invoke/VarHandle" ∧ (parseMethodDescriptor yX7_file.desc).map (fun d => d.parameters.length) = some 2 := by decide +kernel
theorem vdX7_writeReason : yX7_writeReason.cls = RX7 ∧ yX7_writeReason.cls ≠ "java/lang/invoke/MethodHandle" ∧ yX7_writeReason.cls ≠ "java/lang/invoke/VarHandle" ∧ (parseMethodDescriptor yX7_writeReason.desc).map (fun d => d.parameters.length) = some 2 := by decide +kernel
theorem vdX7_room : yX7_room.cls = RX7 ∧ yX7_room.cls ≠ "java/lang/invoke/MethodHandle" ∧ yX7_room.cls ≠ "java/lang/invoke/VarHandle" ∧ (parseMethodDescriptor yX7_room.desc).map (fun d => d.parameters.length) = some 1 := by decide +kernel
theorem vdX7_greatest : yX7_greatest.cls = RX7 ∧ yX7_greatest.cls ≠ "java/lang/invoke/MethodHandle" ∧ yX7_greatest.cls ≠ "java/lang/invoke/VarHandle" ∧ (parseMethodDescriptor yX7_greatest.desc).map (fun d => d.parameters.length) = some 1 := by decide +kernel
theorem vdX7_used : yX7_used.cls = RX7 ∧ yX7_used.cls ≠ "java/lang/invoke/MethodHandle" ∧ yX7_used.cls ≠ "java/lang/invoke/VarHandle" ∧ (parseMethodDescriptor yX7_used.desc).map (fun d => d.parameters.length) = some 2 := by decide +kernel
theorem vdX7_counted : yX7_counted.cls = RX7 ∧ yX7_counted.cls ≠ "java/lang/invoke/MethodHandle" ∧ yX7_counted.cls ≠ "java/lang/invoke/VarHandle" ∧ (parseMethodDescriptor yX7_counted.desc).map (fun d => d.parameters.length) = some 2 := by decide +kernel
theorem vdX7_limit : yX7_limit.cls = RX7 ∧ yX7_limit.cls ≠ "java/lang/invoke/MethodHandle" ∧ yX7_limit.cls ≠ "java/lang/invoke/VarHandle" ∧ (parseMethodDescriptor yX7_limit.desc).map (fun d => d.parameters.length) = some 3 := by decide +kernel
theorem vdX7_state : yX7_state.cls = RX7 ∧ yX7_state.cls ≠ "java/lang/invoke/MethodHandle" ∧ yX7_state.cls ≠ "java/lang/invoke/VarHandle" ∧ (parseMethodDescriptor yX7_state.desc).map (fun d => d.parameters.length) = some 2 := by decide +kernel
theorem vdX7_graceLeft : yX7_graceLeft.cls = RX7 ∧ yX7_graceLeft.cls ≠ "java/lang/invoke/MethodHandle" ∧ yX7_graceLeft.cls ≠ "java/lang/invoke/VarHandle" ∧ (parseMethodDescriptor yX7_graceLeft.desc).map (fun d => d.parameters.length) = some 2 := by decide +kernel
theorem vdX7_giftOf : yX7_giftOf.cls = RX7 ∧ yX7_giftOf.cls ≠ "java/lang/invoke/MethodHandle" ∧ yX7_giftOf.cls ≠ "java/lang/invoke/VarHandle" ∧ (parseMethodDescriptor yX7_giftOf.desc).map (fun d => d.parameters.length) = some 2 := by decide +kernel
theorem vdX7_nextEvent : yX7_nextEvent.cls = RX7 ∧ yX7_nextEvent.cls ≠ "java/lang/invoke/MethodHandle" ∧ yX7_nextEvent.cls ≠ "java/lang/invoke/VarHandle" ∧ (parseMethodDescriptor yX7_nextEvent.desc).map (fun d => d.parameters.length) = some 0 := by decide +kernel
theorem vdX7_walked : yX7_walked.cls = RX7 ∧ yX7_walked.cls ≠ "java/lang/invoke/MethodHandle" ∧ yX7_walked.cls ≠ "java/lang/invoke/VarHandle" ∧ (parseMethodDescriptor yX7_walked.desc).map (fun d => d.parameters.length) = some 1 := by decide +kernel
set_option maxHeartbeats 1000000 in
set_option maxRecDepth 100000 in
theorem mxX7_tagReason (lL : Launch) (hst0 : lL.stackTraces = false) (G : GG) (o : Nat → Nat) (ν σ : Int → Int) (π : Nat → Int → Int) (δ τ ω : Int → Int) (f : Int) (t : Int) (hI : In σ) (hf : -2147483648 ≤ f ∧ f < 2147483648) (ht : -2147483648 ≤ t ∧ t < 2147483648) (hbad : ¬ ((kxTagR σ f t) = 0)) : vx_Met lL yX7_tagReason wsX7_tagReason ({ frames := 7, cells := 1, slots := 6, locals := 135 } : Room) (va_Pc [.ref (o 0), .int (iI f), .int (iI t)] (fun U => QT G o ν σ π δ τ ω U.heap ∧ KK G U ∧ KX FF0 U U.heap)) (fun _ _ _ _ => False) (XCe (exq xI xA xI (kxTagR σ f t))) 1 6 FF0 := by
  refine z_metX (P := (fun H : Heap => QT G o ν σ π δ τ ω H)) (by decide) rfl (Nat.le_of_ble_eq_true rfl) (fun pp ee ss mm below meth cC E hml hown hts hlocks htab hQ hK hX ls hl => ?_)
  have hl : lv_has ls 3 [(0, .ref (o 0)), (1, .int (iI f)), (2, .int (iI t))] := hl
  have hcs : 0 ≤ (({ frames := 7, cells := 1, slots := 6, locals := 135 } : Room)).cells ∧ 0 ≤ (({ frames := 7, cells := 1, slots := 6, locals := 135 } : Room)).slots := ⟨Nat.zero_le _, Nat.zero_le _⟩
  have hin6 : ∀ w ∈ wsX60, w ∈ wsX7_tagReason := fun w h => List.mem_cons_of_mem _ (List.mem_append_left _ (List.mem_append_left _ (List.mem_append_left _ (List.mem_append_left _ (List.mem_append_left _ (List.mem_append_left _ (List.mem_append_right _ (h))))))))
  have hin7 : ∀ w ∈ wsX70, w ∈ wsX7_tagReason := fun w h => List.mem_cons_of_mem _ (List.mem_append_left _ (List.mem_append_left _ (List.mem_append_left _ (List.mem_append_left _ (List.mem_append_left _ (List.mem_append_left _ (List.mem_append_left _ (List.mem_append_right _ (h)))))))))
  have hF := hI.F
  have hMm := hI.M
  have hGn := hI.Gn
  have hTi := hI.ti
  have hGr := hI.gr
  refine lv_aload_n (pc := 0) E.1 E.2 dX7_tagReason_0 rfl (lv_at hl 0 rfl) ?_
  refine lv_iload_n (pc := 1) E.1 E.2 dX7_tagReason_1 rfl (lv_at hl 1 rfl) ?_
  by_cases hc2 : 0 ≤ f ∧ f < σ 2
  · refine z_rVv (pc := 2) (As := [.int (iI f)]) (rest := []) E hml hown hts (mX7_needFolder lL G o ν σ π δ τ ω f hI (by omega) (by omega)) (cwV 1 hts gX7_tagReason_X7_needFolder rfl rfl rfl vdX7_needFolder ⟨Nat.le_of_ble_eq_true rfl, Nat.le_of_ble_eq_true rfl⟩) (oB.recv hK hQ.ob rfl) hQ hK rfl hl.1 rfl dX7_tagReason_2 hcs (Nat.le_of_ble_eq_true rfl) ?_
    refine lv_iload_n (pc := 5) E.1 E.2 dX7_tagReason_5 rfl (lv_at hl 2 rfl) ?_
    refine z_iconst (pc := 6) E dX7_tagReason_6 ?_
    refine z_bipush (pc := 7) E (by decide) dX7_tagReason_7 ?_
    by_cases hc9 : (-1) ≤ t ∧ t ≤ 7
    · refine z_rSv (pc := 9) (P := fun _ => True) (As := [.int (iI t), .int (iI (-1)), .int (iI 7)]) (rest := []) E hml hown hts (mX7_needRange lL G t (-1) 7 (by omega) (by omega) (by omega) (by omega)) (va_cwS 3 hts gX7_tagReason_X7_needRange rfl rfl rfl vdX7_needRange.2 ⟨Nat.le_of_ble_eq_true rfl, Nat.le_of_ble_eq_true rfl⟩) trivial hK rfl hl.1 rfl dX7_tagReason_9 hcs (Nat.le_of_ble_eq_true rfl) ?_
      refine lv_aload_n (pc := 12) E.1 E.2 dX7_tagReason_12 rfl (lv_at hl 0 rfl) ?_
      refine g7_0 (pc := 13) E hts hin7 hown hK hQ.ob (hts _ (List.mem_of_getElem? (i := 1) rfl)) dX7_tagReason_13 ?_
      refine lv_iload_n (pc := 16) E.1 E.2 dX7_tagReason_16 rfl (lv_at hl 1 rfl) ?_
      refine lv_aload_n (pc := 17) E.1 E.2 dX7_tagReason_17 rfl (lv_at hl 0 rfl) ?_
      refine g7_0 (pc := 18) E hts hin7 hown hK hQ.ob (hts _ (List.mem_of_getElem? (i := 1) rfl)) dX7_tagReason_18 ?_
      refine g6_0 (pc := 21) E hts hin6 hown hK hQ.nob (hts _ (List.mem_of_getElem? (i := 2) rfl)) dX7_tagReason_21 ?_
      refine lv_iload_n (pc := 24) E.1 E.2 dX7_tagReason_24 rfl (lv_at hl 1 rfl) ?_
      refine lv_iload_n (pc := 25) E.1 E.2 dX7_tagReason_25 rfl (lv_at hl 2 rfl) ?_
      refine z_rVi (pc := 26) (As := [.int (iI f), .int (iI t)]) (rest := [.int (iI f), .ref (o 1)]) E hml hown hts (mX3_projectIfTagged lL G (fun k => o (1 + (1 + k))) σ f t hI (by omega) (by omega)) (cwV 2 hts gX7_tagReason_X3_projectIfTagged rfl rfl rfl vdX3_projectIfTagged ⟨Nat.le_of_ble_eq_true rfl, Nat.le_of_ble_eq_true rfl⟩) (oB.recv hK hQ.foo rfl) hQ.now.fo hK rfl hl.1 rfl dX7_tagReason_26 hcs (Nat.le_of_ble_eq_true rfl) ?_
      have hpw := hI.pwb (f := f) (t := t) (by omega) (by omega)
      refine z_rVi (pc := 29) (As := [.int (iI f), .int (iI (pwS σ f t))]) (rest := []) E hml hown hts (mX6_openReason lL G (fun k => o (1 + k)) σ f (pwS σ f t) hI (by omega) (by omega)) (cwV 2 hts gX7_tagReason_X6_openReason rfl rfl rfl vdX6_openReason ⟨Nat.le_of_ble_eq_true rfl, Nat.le_of_ble_eq_true rfl⟩) (oB.recv hK hQ.nob rfl) hQ.now hK rfl hl.1 rfl dX7_tagReason_29 hcs (Nat.le_of_ble_eq_true rfl) ?_
      exact absurd (show (kxTagR σ f t) = 0 by (unfold kxTagR; (repeat' split) <;> first | rfl | omega | (exfalso; omega) | contradiction | grind)) hbad
    exact z_badS (pc := 9) (P := fun _ => True) (As := [.int (iI t), .int (iI (-1)), .int (iI 7)]) (rest := []) E hml hown hts (mxX7_needRange lL hst0 G t (-1) 7 (by omega) (by omega) (by omega) hc9) (va_cwS 3 hts gX7_tagReason_X7_needRange rfl rfl rfl vdX7_needRange.2 ⟨Nat.le_of_ble_eq_true rfl, Nat.le_of_ble_eq_true rfl⟩) trivial hK hX rfl hl.1 rfl dX7_tagReason_9 ⟨Nat.le_of_ble_eq_true rfl, Nat.le_of_ble_eq_true rfl⟩ (Nat.le_of_ble_eq_true rfl) (by rw [show (kxTagR σ f t) = 2 by (unfold kxTagR; (repeat' split) <;> first | rfl | omega | (exfalso; omega) | contradiction | grind)]; rfl) htab hlocks
  exact z_badV (pc := 2) (As := [.int (iI f)]) (rest := []) E hml hown hts (mxX7_needFolder lL hst0 G o ν σ π δ τ ω f hI (by omega) hc2) (cwV 1 hts gX7_tagReason_X7_needFolder rfl rfl rfl vdX7_needFolder ⟨Nat.le_of_ble_eq_true rfl, Nat.le_of_ble_eq_true rfl⟩) (oB.recv hK hQ.ob rfl) hQ hK hX rfl hl.1 rfl dX7_tagReason_2 ⟨Nat.le_of_ble_eq_true rfl, Nat.le_of_ble_eq_true rfl⟩ (Nat.le_of_ble_eq_true rfl) (by rw [show (kxTagR σ f t) = 1 by (unfold kxTagR; (repeat' split) <;> first | rfl | omega | (exfalso; omega) | contradiction | grind)]; rfl) htab hlocks
set_option maxHeartbeats 1000000 in
set_option maxRecDepth 100000 in
theorem mX7_tagReason (lL : Launch) (G : GG) (o : Nat → Nat) (ν σ : Int → Int) (π : Nat → Int → Int) (δ τ ω : Int → Int) (f : Int) (t : Int) (hI : In σ) (hf : -2147483648 ≤ f ∧ f < 2147483648) (ht : -2147483648 ≤ t ∧ t < 2147483648) (hok : (kxTagR σ f t) = 0) : Met lL yX7_tagReason wsX7_tagReason ({ frames := 5, cells := 0, slots := 0, locals := 135 } : Room) (va_Pc [.ref (o 0), .int (iI f), .int (iI t)] (fun U => QT G o ν σ π δ τ ω U.heap ∧ KK G U)) (vp_Si (fun r => r = (iI (rtS σ f t)))) 0 0 (fun _ => False) := by
  refine z_met (P := (fun H : Heap => QT G o ν σ π δ τ ω H)) (by decide) rfl (Nat.le_of_ble_eq_true rfl) (fun pp ee ss mm below meth cC E hr hml hown hts hlocks hQ hK ls hl => ?_)
  have hl : lv_has ls 3 [(0, .ref (o 0)), (1, .int (iI f)), (2, .int (iI t))] := hl
  have hcs : 0 ≤ (({ frames := 5, cells := 0, slots := 0, locals := 135 } : Room)).cells ∧ 0 ≤ (({ frames := 5, cells := 0, slots := 0, locals := 135 } : Room)).slots := ⟨Nat.zero_le _, Nat.zero_le _⟩
  have hin6 : ∀ w ∈ wsX60, w ∈ wsX7_tagReason := fun w h => List.mem_cons_of_mem _ (List.mem_append_left _ (List.mem_append_left _ (List.mem_append_left _ (List.mem_append_left _ (List.mem_append_left _ (List.mem_append_left _ (List.mem_append_right _ (h))))))))
  have hin7 : ∀ w ∈ wsX70, w ∈ wsX7_tagReason := fun w h => List.mem_cons_of_mem _ (List.mem_append_left _ (List.mem_append_left _ (List.mem_append_left _ (List.mem_append_left _ (List.mem_append_left _ (List.mem_append_left _ (List.mem_append_left _ (List.mem_append_right _ (h)))))))))
  have hF := hI.F
  have hMm := hI.M
  have hGn := hI.Gn
  have hTi := hI.ti
  have hGr := hI.gr
  have hoc := kxTagR_ok hok
  refine lv_aload_n (pc := 0) E.1 E.2 dX7_tagReason_0 rfl (lv_at hl 0 rfl) ?_
  refine lv_iload_n (pc := 1) E.1 E.2 dX7_tagReason_1 rfl (lv_at hl 1 rfl) ?_
  refine z_rVv (pc := 2) (As := [.int (iI f)]) (rest := []) E hml hown hts (mX7_needFolder lL G o ν σ π δ τ ω f hI (by omega) (by omega)) (cwV 1 hts gX7_tagReason_X7_needFolder rfl rfl rfl vdX7_needFolder ⟨Nat.le_of_ble_eq_true rfl, Nat.le_of_ble_eq_true rfl⟩) (oB.recv hK hQ.ob rfl) hQ hK rfl hl.1 rfl dX7_tagReason_2 hcs (Nat.le_of_ble_eq_true rfl) ?_
  refine lv_iload_n (pc := 5) E.1 E.2 dX7_tagReason_5 rfl (lv_at hl 2 rfl) ?_
  refine z_iconst (pc := 6) E dX7_tagReason_6 ?_
  refine z_bipush (pc := 7) E (by decide) dX7_tagReason_7 ?_
  refine z_rSv (pc := 9) (P := fun _ => True) (As := [.int (iI t), .int (iI (-1)), .int (iI 7)]) (rest := []) E hml hown hts (mX7_needRange lL G t (-1) 7 (by omega) (by omega) (by omega) (by omega)) (va_cwS 3 hts gX7_tagReason_X7_needRange rfl rfl rfl vdX7_needRange.2 ⟨Nat.le_of_ble_eq_true rfl, Nat.le_of_ble_eq_true rfl⟩) trivial hK rfl hl.1 rfl dX7_tagReason_9 hcs (Nat.le_of_ble_eq_true rfl) ?_
  refine lv_aload_n (pc := 12) E.1 E.2 dX7_tagReason_12 rfl (lv_at hl 0 rfl) ?_
  refine g7_0 (pc := 13) E hts hin7 hown hK hQ.ob (hts _ (List.mem_of_getElem? (i := 1) rfl)) dX7_tagReason_13 ?_
  refine lv_iload_n (pc := 16) E.1 E.2 dX7_tagReason_16 rfl (lv_at hl 1 rfl) ?_
  refine lv_aload_n (pc := 17) E.1 E.2 dX7_tagReason_17 rfl (lv_at hl 0 rfl) ?_
  refine g7_0 (pc := 18) E hts hin7 hown hK hQ.ob (hts _ (List.mem_of_getElem? (i := 1) rfl)) dX7_tagReason_18 ?_
  refine g6_0 (pc := 21) E hts hin6 hown hK hQ.nob (hts _ (List.mem_of_getElem? (i := 2) rfl)) dX7_tagReason_21 ?_
  refine lv_iload_n (pc := 24) E.1 E.2 dX7_tagReason_24 rfl (lv_at hl 1 rfl) ?_
  refine lv_iload_n (pc := 25) E.1 E.2 dX7_tagReason_25 rfl (lv_at hl 2 rfl) ?_
  refine z_rVi (pc := 26) (As := [.int (iI f), .int (iI t)]) (rest := [.int (iI f), .ref (o 1)]) E hml hown hts (mX3_projectIfTagged lL G (fun k => o (1 + (1 + k))) σ f t hI (by omega) (by omega)) (cwV 2 hts gX7_tagReason_X3_projectIfTagged rfl rfl rfl vdX3_projectIfTagged ⟨Nat.le_of_ble_eq_true rfl, Nat.le_of_ble_eq_true rfl⟩) (oB.recv hK hQ.foo rfl) hQ.now.fo hK rfl hl.1 rfl dX7_tagReason_26 hcs (Nat.le_of_ble_eq_true rfl) ?_
  have hpw := hI.pwb (f := f) (t := t) (by omega) (by omega)
  refine z_rVi (pc := 29) (As := [.int (iI f), .int (iI (pwS σ f t))]) (rest := []) E hml hown hts (mX6_openReason lL G (fun k => o (1 + k)) σ f (pwS σ f t) hI (by omega) (by omega)) (cwV 2 hts gX7_tagReason_X6_openReason rfl rfl rfl vdX6_openReason ⟨Nat.le_of_ble_eq_true rfl, Nat.le_of_ble_eq_true rfl⟩) (oB.recv hK hQ.nob rfl) hQ.now hK rfl hl.1 rfl dX7_tagReason_29 hcs (Nat.le_of_ble_eq_true rfl) ?_
  exact z_retRi E hr (congrArg iI (by rfl)) hlocks dX7_tagReason_32
set_option maxHeartbeats 1000000 in
set_option maxRecDepth 100000 in
theorem mxX7_moveReason (lL : Launch) (hst0 : lL.stackTraces = false) (G : GG) (o : Nat → Nat) (ν σ : Int → Int) (π : Nat → Int → Int) (δ τ ω : Int → Int) (f : Int) (q : Int) (hI : In σ) (hf : -2147483648 ≤ f ∧ f < 2147483648) (hq : -2147483648 ≤ q ∧ q < 2147483648) (hbad : ¬ ((kxMoveR σ f q) = 0)) : vx_Met lL yX7_moveReason wsX7_moveReason ({ frames := 7, cells := 1, slots := 6, locals := 135 } : Room) (va_Pc [.ref (o 0), .int (iI f), .int (iI q)] (fun U => QT G o ν σ π δ τ ω U.heap ∧ KK G U ∧ KX FF0 U U.heap)) (fun _ _ _ _ => False) (XCe (exq xI xI xI (kxMoveR σ f q))) 1 6 FF0 := by
  refine z_metX (P := (fun H : Heap => QT G o ν σ π δ τ ω H)) (by decide) rfl (Nat.le_of_ble_eq_true rfl) (fun pp ee ss mm below meth cC E hml hown hts hlocks htab hQ hK hX ls hl => ?_)
  have hl : lv_has ls 3 [(0, .ref (o 0)), (1, .int (iI f)), (2, .int (iI q))] := hl
  have hcs : 0 ≤ (({ frames := 7, cells := 1, slots := 6, locals := 135 } : Room)).cells ∧ 0 ≤ (({ frames := 7, cells := 1, slots := 6, locals := 135 } : Room)).slots := ⟨Nat.zero_le _, Nat.zero_le _⟩
  have hin6 : ∀ w ∈ wsX60, w ∈ wsX7_moveReason := fun w h => List.mem_cons_of_mem _ (List.mem_append_left _ (List.mem_append_left _ (List.mem_append_left _ (List.mem_append_left _ (List.mem_append_left _ (List.mem_append_right _ (h)))))))
  have hin7 : ∀ w ∈ wsX70, w ∈ wsX7_moveReason := fun w h => List.mem_cons_of_mem _ (List.mem_append_left _ (List.mem_append_left _ (List.mem_append_left _ (List.mem_append_left _ (List.mem_append_left _ (List.mem_append_left _ (List.mem_append_right _ (h))))))))
  have hF := hI.F
  have hMm := hI.M
  have hGn := hI.Gn
  have hTi := hI.ti
  have hGr := hI.gr
  refine lv_aload_n (pc := 0) E.1 E.2 dX7_moveReason_0 rfl (lv_at hl 0 rfl) ?_
  refine lv_iload_n (pc := 1) E.1 E.2 dX7_moveReason_1 rfl (lv_at hl 1 rfl) ?_
  by_cases hc2 : 0 ≤ f ∧ f < σ 2
  · refine z_rVv (pc := 2) (As := [.int (iI f)]) (rest := []) E hml hown hts (mX7_needFolder lL G o ν σ π δ τ ω f hI (by omega) (by omega)) (cwV 1 hts gX7_moveReason_X7_needFolder rfl rfl rfl vdX7_needFolder ⟨Nat.le_of_ble_eq_true rfl, Nat.le_of_ble_eq_true rfl⟩) (oB.recv hK hQ.ob rfl) hQ hK rfl hl.1 rfl dX7_moveReason_2 hcs (Nat.le_of_ble_eq_true rfl) ?_
    refine lv_aload_n (pc := 5) E.1 E.2 dX7_moveReason_5 rfl (lv_at hl 0 rfl) ?_
    refine lv_iload_n (pc := 6) E.1 E.2 dX7_moveReason_6 rfl (lv_at hl 2 rfl) ?_
    by_cases hc7 : 0 ≤ q ∧ q < σ 2
    · refine z_rVv (pc := 7) (As := [.int (iI q)]) (rest := []) E hml hown hts (mX7_needFolder lL G o ν σ π δ τ ω q hI (by omega) (by omega)) (cwV 1 hts gX7_moveReason_X7_needFolder rfl rfl rfl vdX7_needFolder ⟨Nat.le_of_ble_eq_true rfl, Nat.le_of_ble_eq_true rfl⟩) (oB.recv hK hQ.ob rfl) hQ hK rfl hl.1 rfl dX7_moveReason_7 hcs (Nat.le_of_ble_eq_true rfl) ?_
      refine lv_iload_n (pc := 10) E.1 E.2 dX7_moveReason_10 rfl (lv_at hl 1 rfl) ?_
      refine z_if_eq (pc := 11) (tgt := 29) E ⟨by omega, by omega⟩ dX7_moveReason_11 (by decide) (fun h11 => ?_) (fun h11 => ?_)
      · refine z_iconst (pc := 29) E dX7_moveReason_29 ?_
        exact absurd (show (kxMoveR σ f q) = 0 by (unfold kxMoveR; (repeat' split) <;> first | rfl | omega | (exfalso; omega) | contradiction | grind)) hbad
      · refine lv_aload_n (pc := 14) E.1 E.2 dX7_moveReason_14 rfl (lv_at hl 0 rfl) ?_
        refine g7_0 (pc := 15) E hts hin7 hown hK hQ.ob (hts _ (List.mem_of_getElem? (i := 1) rfl)) dX7_moveReason_15 ?_
        refine g6_0 (pc := 18) E hts hin6 hown hK hQ.nob (hts _ (List.mem_of_getElem? (i := 2) rfl)) dX7_moveReason_18 ?_
        refine lv_iload_n (pc := 21) E.1 E.2 dX7_moveReason_21 rfl (lv_at hl 2 rfl) ?_
        refine lv_iload_n (pc := 22) E.1 E.2 dX7_moveReason_22 rfl (lv_at hl 1 rfl) ?_
        refine z_rVi (pc := 23) (As := [.int (iI q), .int (iI f)]) (rest := []) E hml hown hts (mX3_isInSubtree lL G (fun k => o (1 + (1 + k))) σ q f hI (Or.inr (by omega)) (by omega)) (cwV 2 hts gX7_moveReason_X3_isInSubtree rfl rfl rfl vdX3_isInSubtree ⟨Nat.le_of_ble_eq_true rfl, Nat.le_of_ble_eq_true rfl⟩) (oB.recv hK hQ.foo rfl) hQ.now.fo hK rfl hl.1 rfl dX7_moveReason_23 hcs (Nat.le_of_ble_eq_true rfl) ?_
        refine z_ifb_eq (pc := 26) (tgt := 31) E dX7_moveReason_26 (by decide) (fun h26 => ?_) (fun h26 => ?_)
        · refine lv_aload_n (pc := 31) E.1 E.2 dX7_moveReason_31 rfl (lv_at hl 0 rfl) ?_
          refine g7_0 (pc := 32) E hts hin7 hown hK hQ.ob (hts _ (List.mem_of_getElem? (i := 1) rfl)) dX7_moveReason_32 ?_
          refine lv_iload_n (pc := 35) E.1 E.2 dX7_moveReason_35 rfl (lv_at hl 1 rfl) ?_
          refine lv_aload_n (pc := 36) E.1 E.2 dX7_moveReason_36 rfl (lv_at hl 0 rfl) ?_
          refine g7_0 (pc := 37) E hts hin7 hown hK hQ.ob (hts _ (List.mem_of_getElem? (i := 1) rfl)) dX7_moveReason_37 ?_
          refine g6_0 (pc := 40) E hts hin6 hown hK hQ.nob (hts _ (List.mem_of_getElem? (i := 2) rfl)) dX7_moveReason_40 ?_
          refine lv_iload_n (pc := 43) E.1 E.2 dX7_moveReason_43 rfl (lv_at hl 1 rfl) ?_
          refine lv_iload_n (pc := 44) E.1 E.2 dX7_moveReason_44 rfl (lv_at hl 2 rfl) ?_
          refine z_rVi (pc := 45) (As := [.int (iI f), .int (iI q)]) (rest := [.int (iI f), .ref (o 1)]) E hml hown hts (mX3_projectIfMoved lL G (fun k => o (1 + (1 + k))) σ f q hI (by omega) (by omega)) (cwV 2 hts gX7_moveReason_X3_projectIfMoved rfl rfl rfl vdX3_projectIfMoved ⟨Nat.le_of_ble_eq_true rfl, Nat.le_of_ble_eq_true rfl⟩) (oB.recv hK hQ.foo rfl) hQ.now.fo hK rfl hl.1 rfl dX7_moveReason_45 hcs (Nat.le_of_ble_eq_true rfl) ?_
          have hpu := hI.pub (f := f) (q := q) (by omega) (by omega)
          refine z_rVi (pc := 48) (As := [.int (iI f), .int (iI (puS σ f q))]) (rest := []) E hml hown hts (mX6_openReason lL G (fun k => o (1 + k)) σ f (puS σ f q) hI (by omega) (by omega)) (cwV 2 hts gX7_moveReason_X6_openReason rfl rfl rfl vdX6_openReason ⟨Nat.le_of_ble_eq_true rfl, Nat.le_of_ble_eq_true rfl⟩) (oB.recv hK hQ.nob rfl) hQ.now hK rfl hl.1 rfl dX7_moveReason_48 hcs (Nat.le_of_ble_eq_true rfl) ?_
          exact absurd (show (kxMoveR σ f q) = 0 by (unfold kxMoveR; (repeat' split) <;> first | rfl | omega | (exfalso; omega) | contradiction | grind)) hbad
        · refine z_iconst (pc := 29) E dX7_moveReason_29 ?_
          exact absurd (show (kxMoveR σ f q) = 0 by (unfold kxMoveR; (repeat' split) <;> first | rfl | omega | (exfalso; omega) | contradiction | grind)) hbad
    exact z_badV (pc := 7) (As := [.int (iI q)]) (rest := []) E hml hown hts (mxX7_needFolder lL hst0 G o ν σ π δ τ ω q hI (by omega) hc7) (cwV 1 hts gX7_moveReason_X7_needFolder rfl rfl rfl vdX7_needFolder ⟨Nat.le_of_ble_eq_true rfl, Nat.le_of_ble_eq_true rfl⟩) (oB.recv hK hQ.ob rfl) hQ hK hX rfl hl.1 rfl dX7_moveReason_7 ⟨Nat.le_of_ble_eq_true rfl, Nat.le_of_ble_eq_true rfl⟩ (Nat.le_of_ble_eq_true rfl) (by rw [show (kxMoveR σ f q) = 1 by (unfold kxMoveR; (repeat' split) <;> first | rfl | omega | (exfalso; omega) | contradiction | grind)]; rfl) htab hlocks
  exact z_badV (pc := 2) (As := [.int (iI f)]) (rest := []) E hml hown hts (mxX7_needFolder lL hst0 G o ν σ π δ τ ω f hI (by omega) hc2) (cwV 1 hts gX7_moveReason_X7_needFolder rfl rfl rfl vdX7_needFolder ⟨Nat.le_of_ble_eq_true rfl, Nat.le_of_ble_eq_true rfl⟩) (oB.recv hK hQ.ob rfl) hQ hK hX rfl hl.1 rfl dX7_moveReason_2 ⟨Nat.le_of_ble_eq_true rfl, Nat.le_of_ble_eq_true rfl⟩ (Nat.le_of_ble_eq_true rfl) (by rw [show (kxMoveR σ f q) = 1 by (unfold kxMoveR; (repeat' split) <;> first | rfl | omega | (exfalso; omega) | contradiction | grind)]; rfl) htab hlocks
set_option maxHeartbeats 1000000 in
set_option maxRecDepth 100000 in
theorem mX7_moveReason (lL : Launch) (G : GG) (o : Nat → Nat) (ν σ : Int → Int) (π : Nat → Int → Int) (δ τ ω : Int → Int) (f : Int) (q : Int) (hI : In σ) (hf : -2147483648 ≤ f ∧ f < 2147483648) (hq : -2147483648 ≤ q ∧ q < 2147483648) (hok : (kxMoveR σ f q) = 0) : Met lL yX7_moveReason wsX7_moveReason ({ frames := 5, cells := 0, slots := 0, locals := 135 } : Room) (va_Pc [.ref (o 0), .int (iI f), .int (iI q)] (fun U => QT G o ν σ π δ τ ω U.heap ∧ KK G U)) (vp_Si (fun r => r = (iI (rmS σ f q)))) 0 0 (fun _ => False) := by
  refine z_met (P := (fun H : Heap => QT G o ν σ π δ τ ω H)) (by decide) rfl (Nat.le_of_ble_eq_true rfl) (fun pp ee ss mm below meth cC E hr hml hown hts hlocks hQ hK ls hl => ?_)
  have hl : lv_has ls 3 [(0, .ref (o 0)), (1, .int (iI f)), (2, .int (iI q))] := hl
  have hcs : 0 ≤ (({ frames := 5, cells := 0, slots := 0, locals := 135 } : Room)).cells ∧ 0 ≤ (({ frames := 5, cells := 0, slots := 0, locals := 135 } : Room)).slots := ⟨Nat.zero_le _, Nat.zero_le _⟩
  have hin6 : ∀ w ∈ wsX60, w ∈ wsX7_moveReason := fun w h => List.mem_cons_of_mem _ (List.mem_append_left _ (List.mem_append_left _ (List.mem_append_left _ (List.mem_append_left _ (List.mem_append_left _ (List.mem_append_right _ (h)))))))
  have hin7 : ∀ w ∈ wsX70, w ∈ wsX7_moveReason := fun w h => List.mem_cons_of_mem _ (List.mem_append_left _ (List.mem_append_left _ (List.mem_append_left _ (List.mem_append_left _ (List.mem_append_left _ (List.mem_append_left _ (List.mem_append_right _ (h))))))))
  have hF := hI.F
  have hMm := hI.M
  have hGn := hI.Gn
  have hTi := hI.ti
  have hGr := hI.gr
  have hoc := kxMoveR_ok hok
  refine lv_aload_n (pc := 0) E.1 E.2 dX7_moveReason_0 rfl (lv_at hl 0 rfl) ?_
  refine lv_iload_n (pc := 1) E.1 E.2 dX7_moveReason_1 rfl (lv_at hl 1 rfl) ?_
  refine z_rVv (pc := 2) (As := [.int (iI f)]) (rest := []) E hml hown hts (mX7_needFolder lL G o ν σ π δ τ ω f hI (by omega) (by omega)) (cwV 1 hts gX7_moveReason_X7_needFolder rfl rfl rfl vdX7_needFolder ⟨Nat.le_of_ble_eq_true rfl, Nat.le_of_ble_eq_true rfl⟩) (oB.recv hK hQ.ob rfl) hQ hK rfl hl.1 rfl dX7_moveReason_2 hcs (Nat.le_of_ble_eq_true rfl) ?_
  refine lv_aload_n (pc := 5) E.1 E.2 dX7_moveReason_5 rfl (lv_at hl 0 rfl) ?_
  refine lv_iload_n (pc := 6) E.1 E.2 dX7_moveReason_6 rfl (lv_at hl 2 rfl) ?_
  refine z_rVv (pc := 7) (As := [.int (iI q)]) (rest := []) E hml hown hts (mX7_needFolder lL G o ν σ π δ τ ω q hI (by omega) (by omega)) (cwV 1 hts gX7_moveReason_X7_needFolder rfl rfl rfl vdX7_needFolder ⟨Nat.le_of_ble_eq_true rfl, Nat.le_of_ble_eq_true rfl⟩) (oB.recv hK hQ.ob rfl) hQ hK rfl hl.1 rfl dX7_moveReason_7 hcs (Nat.le_of_ble_eq_true rfl) ?_
  refine lv_iload_n (pc := 10) E.1 E.2 dX7_moveReason_10 rfl (lv_at hl 1 rfl) ?_
  refine z_if_eq (pc := 11) (tgt := 29) E ⟨by omega, by omega⟩ dX7_moveReason_11 (by decide) (fun h11 => ?_) (fun h11 => ?_)
  · refine z_iconst (pc := 29) E dX7_moveReason_29 ?_
    exact z_retRi E hr (congrArg iI (by (unfold rmS; first | exact (if_pos (Or.inl (by omega))).symm | (refine (if_pos (Or.inr ?_)).symm; assumption) | (refine (if_neg ?_).symm; intro z; rcases z with z | z <;> first | omega | contradiction)))) hlocks dX7_moveReason_30
  · refine lv_aload_n (pc := 14) E.1 E.2 dX7_moveReason_14 rfl (lv_at hl 0 rfl) ?_
    refine g7_0 (pc := 15) E hts hin7 hown hK hQ.ob (hts _ (List.mem_of_getElem? (i := 1) rfl)) dX7_moveReason_15 ?_
    refine g6_0 (pc := 18) E hts hin6 hown hK hQ.nob (hts _ (List.mem_of_getElem? (i := 2) rfl)) dX7_moveReason_18 ?_
    refine lv_iload_n (pc := 21) E.1 E.2 dX7_moveReason_21 rfl (lv_at hl 2 rfl) ?_
    refine lv_iload_n (pc := 22) E.1 E.2 dX7_moveReason_22 rfl (lv_at hl 1 rfl) ?_
    refine z_rVi (pc := 23) (As := [.int (iI q), .int (iI f)]) (rest := []) E hml hown hts (mX3_isInSubtree lL G (fun k => o (1 + (1 + k))) σ q f hI (Or.inr (by omega)) (by omega)) (cwV 2 hts gX7_moveReason_X3_isInSubtree rfl rfl rfl vdX3_isInSubtree ⟨Nat.le_of_ble_eq_true rfl, Nat.le_of_ble_eq_true rfl⟩) (oB.recv hK hQ.foo rfl) hQ.now.fo hK rfl hl.1 rfl dX7_moveReason_23 hcs (Nat.le_of_ble_eq_true rfl) ?_
    refine z_ifb_eq (pc := 26) (tgt := 31) E dX7_moveReason_26 (by decide) (fun h26 => ?_) (fun h26 => ?_)
    · refine lv_aload_n (pc := 31) E.1 E.2 dX7_moveReason_31 rfl (lv_at hl 0 rfl) ?_
      refine g7_0 (pc := 32) E hts hin7 hown hK hQ.ob (hts _ (List.mem_of_getElem? (i := 1) rfl)) dX7_moveReason_32 ?_
      refine lv_iload_n (pc := 35) E.1 E.2 dX7_moveReason_35 rfl (lv_at hl 1 rfl) ?_
      refine lv_aload_n (pc := 36) E.1 E.2 dX7_moveReason_36 rfl (lv_at hl 0 rfl) ?_
      refine g7_0 (pc := 37) E hts hin7 hown hK hQ.ob (hts _ (List.mem_of_getElem? (i := 1) rfl)) dX7_moveReason_37 ?_
      refine g6_0 (pc := 40) E hts hin6 hown hK hQ.nob (hts _ (List.mem_of_getElem? (i := 2) rfl)) dX7_moveReason_40 ?_
      refine lv_iload_n (pc := 43) E.1 E.2 dX7_moveReason_43 rfl (lv_at hl 1 rfl) ?_
      refine lv_iload_n (pc := 44) E.1 E.2 dX7_moveReason_44 rfl (lv_at hl 2 rfl) ?_
      refine z_rVi (pc := 45) (As := [.int (iI f), .int (iI q)]) (rest := [.int (iI f), .ref (o 1)]) E hml hown hts (mX3_projectIfMoved lL G (fun k => o (1 + (1 + k))) σ f q hI (by omega) (by omega)) (cwV 2 hts gX7_moveReason_X3_projectIfMoved rfl rfl rfl vdX3_projectIfMoved ⟨Nat.le_of_ble_eq_true rfl, Nat.le_of_ble_eq_true rfl⟩) (oB.recv hK hQ.foo rfl) hQ.now.fo hK rfl hl.1 rfl dX7_moveReason_45 hcs (Nat.le_of_ble_eq_true rfl) ?_
      have hpu := hI.pub (f := f) (q := q) (by omega) (by omega)
      refine z_rVi (pc := 48) (As := [.int (iI f), .int (iI (puS σ f q))]) (rest := []) E hml hown hts (mX6_openReason lL G (fun k => o (1 + k)) σ f (puS σ f q) hI (by omega) (by omega)) (cwV 2 hts gX7_moveReason_X6_openReason rfl rfl rfl vdX6_openReason ⟨Nat.le_of_ble_eq_true rfl, Nat.le_of_ble_eq_true rfl⟩) (oB.recv hK hQ.nob rfl) hQ.now hK rfl hl.1 rfl dX7_moveReason_48 hcs (Nat.le_of_ble_eq_true rfl) ?_
      exact z_retRi E hr (congrArg iI (by (unfold rmS; first | exact (if_pos (Or.inl (by omega))).symm | (refine (if_pos (Or.inr ?_)).symm; assumption) | (refine (if_neg ?_).symm; intro z; rcases z with z | z <;> first | omega | contradiction)))) hlocks dX7_moveReason_51
    · refine z_iconst (pc := 29) E dX7_moveReason_29 ?_
      exact z_retRi E hr (congrArg iI (by (unfold rmS; first | exact (if_pos (Or.inl (by omega))).symm | (refine (if_pos (Or.inr ?_)).symm; assumption) | (refine (if_neg ?_).symm; intro z; rcases z with z | z <;> first | omega | contradiction)))) hlocks dX7_moveReason_30
set_option maxHeartbeats 1000000 in
set_option maxRecDepth 100000 in
theorem mxX7_file (lL : Launch) (hst0 : lL.stackTraces = false) (G : GG) (o : Nat → Nat) (ν σ : Int → Int) (π : Nat → Int → Int) (δ τ ω : Int → Int) (k : Int) (w : Int) (hI : In σ) (hk : -2147483648 ≤ k ∧ k < 2147483648) (hw : -2147483648 ≤ w ∧ w < 2147483648) (hbad : ¬ ((kxFile σ k w) = 0)) : vx_Met lL yX7_file wsX7_file ({ frames := 7, cells := 1, slots := 6, locals := 121 } : Room) (va_Pc [.ref (o 0), .int (iI k), .int (iI w)] (fun U => QT G o ν σ π δ τ ω U.heap ∧ KK G U ∧ KX FF0 U U.heap)) (fun _ _ _ _ => False) (XCe (exq xI xA xI (kxFile σ k w))) 1 6 FF0 := by
  refine z_metX (P := (fun H : Heap => QT G o ν σ π δ τ ω H)) (by decide) rfl (Nat.le_of_ble_eq_true rfl) (fun pp ee ss mm below meth cC E hml hown hts hlocks htab hQ hK hX ls hl => ?_)
  have hl : lv_has ls 3 [(0, .ref (o 0)), (1, .int (iI k)), (2, .int (iI w))] := hl
  have hcs : 0 ≤ (({ frames := 7, cells := 1, slots := 6, locals := 121 } : Room)).cells ∧ 0 ≤ (({ frames := 7, cells := 1, slots := 6, locals := 121 } : Room)).slots := ⟨Nat.zero_le _, Nat.zero_le _⟩
  have hin6 : ∀ w ∈ wsX60, w ∈ wsX7_file := fun w h => List.mem_cons_of_mem _ (List.mem_append_left _ (List.mem_append_left _ (List.mem_append_left _ (List.mem_append_left _ (List.mem_append_right _ (h))))))
  have hin7 : ∀ w ∈ wsX70, w ∈ wsX7_file := fun w h => List.mem_cons_of_mem _ (List.mem_append_left _ (List.mem_append_left _ (List.mem_append_left _ (List.mem_append_left _ (List.mem_append_left _ (List.mem_append_right _ (h)))))))
  have hF := hI.F
  have hMm := hI.M
  have hGn := hI.Gn
  have hTi := hI.ti
  have hGr := hI.gr
  refine lv_aload_n (pc := 0) E.1 E.2 dX7_file_0 rfl (lv_at hl 0 rfl) ?_
  refine lv_iload_n (pc := 1) E.1 E.2 dX7_file_1 rfl (lv_at hl 1 rfl) ?_
  by_cases hc2 : 0 ≤ k ∧ k < σ 3
  · refine z_rVv (pc := 2) (As := [.int (iI k)]) (rest := []) E hml hown hts (mX7_needFile lL G o ν σ π δ τ ω k hI (by omega) (by omega)) (cwV 1 hts gX7_file_X7_needFile rfl rfl rfl vdX7_needFile ⟨Nat.le_of_ble_eq_true rfl, Nat.le_of_ble_eq_true rfl⟩) (oB.recv hK hQ.ob rfl) hQ hK rfl hl.1 rfl dX7_file_2 hcs (Nat.le_of_ble_eq_true rfl) ?_
    refine lv_iload_n (pc := 5) E.1 E.2 dX7_file_5 rfl (lv_at hl 2 rfl) ?_
    by_cases hs6_0 : w = 0
    · refine z_tabIn (pc := 6) (k := 0) (tgt := 32) E hs6_0 (by decide) (by decide) (by decide) dX7_file_6 rfl (by decide) ?_
      refine lv_aload_n (pc := 32) E.1 E.2 dX7_file_32 rfl (lv_at hl 0 rfl) ?_
      refine g7_0 (pc := 33) E hts hin7 hown hK hQ.ob (hts _ (List.mem_of_getElem? (i := 3) rfl)) dX7_file_33 ?_
      refine g6_1 (pc := 36) E hts hin6 hown hK hQ.nob (hts _ (List.mem_of_getElem? (i := 4) rfl)) dX7_file_36 ?_
      refine lv_iload_n (pc := 39) E.1 E.2 dX7_file_39 rfl (lv_at hl 1 rfl) ?_
      refine z_rVi (pc := 40) (As := [.int (iI k)]) (rest := []) E hml hown hts (mX2_placeOf lL G (fun k => o (1 + (5 + k))) σ k hI (by omega)) (cwV 1 hts gX7_file_X2_placeOf rfl rfl rfl vdX2_placeOf ⟨Nat.le_of_ble_eq_true rfl, Nat.le_of_ble_eq_true rfl⟩) (oB.recv hK hQ.fio rfl) hQ.now.fi hK rfl hl.1 rfl dX7_file_40 hcs (Nat.le_of_ble_eq_true rfl) ?_
      rw [show (if 0 ≤ k ∧ k < σ 3 then σ (189 + k) else -1) = (σ (189 + k)) from (if_pos (by omega))]
      exact absurd (show (kxFile σ k w) = 0 by (unfold kxFile; (repeat' split) <;> first | rfl | omega | (exfalso; omega) | contradiction | grind)) hbad
    by_cases hs6_1 : w = 1
    · refine z_tabIn (pc := 6) (k := 1) (tgt := 44) E hs6_1 (by decide) (by decide) (by decide) dX7_file_6 rfl (by decide) ?_
      refine lv_aload_n (pc := 44) E.1 E.2 dX7_file_44 rfl (lv_at hl 0 rfl) ?_
      refine g7_0 (pc := 45) E hts hin7 hown hK hQ.ob (hts _ (List.mem_of_getElem? (i := 3) rfl)) dX7_file_45 ?_
      refine g6_1 (pc := 48) E hts hin6 hown hK hQ.nob (hts _ (List.mem_of_getElem? (i := 4) rfl)) dX7_file_48 ?_
      refine lv_iload_n (pc := 51) E.1 E.2 dX7_file_51 rfl (lv_at hl 1 rfl) ?_
      refine z_rVi (pc := 52) (As := [.int (iI k)]) (rest := []) E hml hown hts (mX2_sizeOf lL G (fun k => o (1 + (5 + k))) σ k hI (by omega)) (cwV 1 hts gX7_file_X2_sizeOf rfl rfl rfl vdX2_sizeOf ⟨Nat.le_of_ble_eq_true rfl, Nat.le_of_ble_eq_true rfl⟩) (oB.recv hK hQ.fio rfl) hQ.now.fi hK rfl hl.1 rfl dX7_file_52 hcs (Nat.le_of_ble_eq_true rfl) ?_
      rw [show (if 0 ≤ k ∧ k < σ 3 then σ (249 + k) else 0) = (σ (249 + k)) from (if_pos (by omega))]
      exact absurd (show (kxFile σ k w) = 0 by (unfold kxFile; (repeat' split) <;> first | rfl | omega | (exfalso; omega) | contradiction | grind)) hbad
    by_cases hs6_2 : w = 2
    · refine z_tabIn (pc := 6) (k := 2) (tgt := 56) E hs6_2 (by decide) (by decide) (by decide) dX7_file_6 rfl (by decide) ?_
      refine lv_aload_n (pc := 56) E.1 E.2 dX7_file_56 rfl (lv_at hl 0 rfl) ?_
      refine g7_0 (pc := 57) E hts hin7 hown hK hQ.ob (hts _ (List.mem_of_getElem? (i := 3) rfl)) dX7_file_57 ?_
      refine lv_iload_n (pc := 60) E.1 E.2 dX7_file_60 rfl (lv_at hl 1 rfl) ?_
      refine z_rVi (pc := 61) (As := [.int (iI k)]) (rest := []) E hml hown hts (mX6_projectOfFile lL G (fun k => o (1 + k)) σ k hI (by omega)) (cwV 1 hts gX7_file_X6_projectOfFile rfl rfl rfl vdX6_projectOfFile ⟨Nat.le_of_ble_eq_true rfl, Nat.le_of_ble_eq_true rfl⟩) (oB.recv hK hQ.nob rfl) hQ.now hK rfl hl.1 rfl dX7_file_61 hcs (Nat.le_of_ble_eq_true rfl) ?_
      exact absurd (show (kxFile σ k w) = 0 by (unfold kxFile; (repeat' split) <;> first | rfl | omega | (exfalso; omega) | contradiction | grind)) hbad
    refine z_tabOut (pc := 6) (tgt := 65) E ⟨by omega, by omega⟩ (by omega) dX7_file_6 (by decide) ?_
    exact z_thrS_xA (pc := 65) (rest := []) (is := 241) (text := "no such number of a file") E hst0 hown (hts _ (List.mem_of_getElem? (i := 1) rfl)) (hts _ (List.mem_of_getElem? (i := 2) rfl)) (fun w h => hts w (List.mem_cons_of_mem _ (List.mem_append_left _ (List.mem_append_right _ (h))))) hX (List.mem_of_getElem? (i := 7) rfl) (hl.1.trans hml.symm) dX7_file_65 dX7_file_68 dX7_file_69 dX7_file_71 dX7_file_74 htab (Nat.le_of_ble_eq_true rfl) (Nat.le_of_ble_eq_true rfl) (Nat.le_of_ble_eq_true rfl) (Nat.le_of_ble_eq_true rfl) hlocks (by rw [show (kxFile σ k w) = 2 by (unfold kxFile; (repeat' split) <;> first | rfl | omega | (exfalso; omega) | contradiction | grind)]; rfl)
  exact z_badV (pc := 2) (As := [.int (iI k)]) (rest := []) E hml hown hts (mxX7_needFile lL hst0 G o ν σ π δ τ ω k hI (by omega) hc2) (cwV 1 hts gX7_file_X7_needFile rfl rfl rfl vdX7_needFile ⟨Nat.le_of_ble_eq_true rfl, Nat.le_of_ble_eq_true rfl⟩) (oB.recv hK hQ.ob rfl) hQ hK hX rfl hl.1 rfl dX7_file_2 ⟨Nat.le_of_ble_eq_true rfl, Nat.le_of_ble_eq_true rfl⟩ (Nat.le_of_ble_eq_true rfl) (by rw [show (kxFile σ k w) = 1 by (unfold kxFile; (repeat' split) <;> first | rfl | omega | (exfalso; omega) | contradiction | grind)]; rfl) htab hlocks
set_option maxHeartbeats 1000000 in
set_option maxRecDepth 100000 in
theorem mX7_file (lL : Launch) (G : GG) (o : Nat → Nat) (ν σ : Int → Int) (π : Nat → Int → Int) (δ τ ω : Int → Int) (k : Int) (w : Int) (hI : In σ) (hk : -2147483648 ≤ k ∧ k < 2147483648) (hw : -2147483648 ≤ w ∧ w < 2147483648) (hok : (kxFile σ k w) = 0) : Met lL yX7_file wsX7_file ({ frames := 4, cells := 0, slots := 0, locals := 86 } : Room) (va_Pc [.ref (o 0), .int (iI k), .int (iI w)] (fun U => QT G o ν σ π δ τ ω U.heap ∧ KK G U)) (vp_Si (fun r => r = (iI (axFile σ k w)))) 0 0 (fun _ => False) := by
  refine z_met (P := (fun H : Heap => QT G o ν σ π δ τ ω H)) (by decide) rfl (Nat.le_of_ble_eq_true rfl) (fun pp ee ss mm below meth cC E hr hml hown hts hlocks hQ hK ls hl => ?_)
  have hl : lv_has ls 3 [(0, .ref (o 0)), (1, .int (iI k)), (2, .int (iI w))] := hl
  have hcs : 0 ≤ (({ frames := 4, cells := 0, slots := 0, locals := 86 } : Room)).cells ∧ 0 ≤ (({ frames := 4, cells := 0, slots := 0, locals := 86 } : Room)).slots := ⟨Nat.zero_le _, Nat.zero_le _⟩
  have hin6 : ∀ w ∈ wsX60, w ∈ wsX7_file := fun w h => List.mem_cons_of_mem _ (List.mem_append_left _ (List.mem_append_left _ (List.mem_append_left _ (List.mem_append_left _ (List.mem_append_right _ (h))))))
  have hin7 : ∀ w ∈ wsX70, w ∈ wsX7_file := fun w h => List.mem_cons_of_mem _ (List.mem_append_left _ (List.mem_append_left _ (List.mem_append_left _ (List.mem_append_left _ (List.mem_append_left _ (List.mem_append_right _ (h)))))))
  have hF := hI.F
  have hMm := hI.M
  have hGn := hI.Gn
  have hTi := hI.ti
  have hGr := hI.gr
  have hoc := kxFile_ok hok
  refine lv_aload_n (pc := 0) E.1 E.2 dX7_file_0 rfl (lv_at hl 0 rfl) ?_
  refine lv_iload_n (pc := 1) E.1 E.2 dX7_file_1 rfl (lv_at hl 1 rfl) ?_
  refine z_rVv (pc := 2) (As := [.int (iI k)]) (rest := []) E hml hown hts (mX7_needFile lL G o ν σ π δ τ ω k hI (by omega) (by omega)) (cwV 1 hts gX7_file_X7_needFile rfl rfl rfl vdX7_needFile ⟨Nat.le_of_ble_eq_true rfl, Nat.le_of_ble_eq_true rfl⟩) (oB.recv hK hQ.ob rfl) hQ hK rfl hl.1 rfl dX7_file_2 hcs (Nat.le_of_ble_eq_true rfl) ?_
  refine lv_iload_n (pc := 5) E.1 E.2 dX7_file_5 rfl (lv_at hl 2 rfl) ?_
  by_cases hs6_0 : w = 0
  · refine z_tabIn (pc := 6) (k := 0) (tgt := 32) E hs6_0 (by decide) (by decide) (by decide) dX7_file_6 rfl (by decide) ?_
    refine lv_aload_n (pc := 32) E.1 E.2 dX7_file_32 rfl (lv_at hl 0 rfl) ?_
    refine g7_0 (pc := 33) E hts hin7 hown hK hQ.ob (hts _ (List.mem_of_getElem? (i := 3) rfl)) dX7_file_33 ?_
    refine g6_1 (pc := 36) E hts hin6 hown hK hQ.nob (hts _ (List.mem_of_getElem? (i := 4) rfl)) dX7_file_36 ?_
    refine lv_iload_n (pc := 39) E.1 E.2 dX7_file_39 rfl (lv_at hl 1 rfl) ?_
    refine z_rVi (pc := 40) (As := [.int (iI k)]) (rest := []) E hml hown hts (mX2_placeOf lL G (fun k => o (1 + (5 + k))) σ k hI (by omega)) (cwV 1 hts gX7_file_X2_placeOf rfl rfl rfl vdX2_placeOf ⟨Nat.le_of_ble_eq_true rfl, Nat.le_of_ble_eq_true rfl⟩) (oB.recv hK hQ.fio rfl) hQ.now.fi hK rfl hl.1 rfl dX7_file_40 hcs (Nat.le_of_ble_eq_true rfl) ?_
    rw [show (if 0 ≤ k ∧ k < σ 3 then σ (189 + k) else -1) = (σ (189 + k)) from (if_pos (by omega))]
    exact z_retRi E hr (congrArg iI (by (unfold axFile; (repeat' split) <;> first | rfl | omega | (exfalso; omega)))) hlocks dX7_file_43
  by_cases hs6_1 : w = 1
  · refine z_tabIn (pc := 6) (k := 1) (tgt := 44) E hs6_1 (by decide) (by decide) (by decide) dX7_file_6 rfl (by decide) ?_
    refine lv_aload_n (pc := 44) E.1 E.2 dX7_file_44 rfl (lv_at hl 0 rfl) ?_
    refine g7_0 (pc := 45) E hts hin7 hown hK hQ.ob (hts _ (List.mem_of_getElem? (i := 3) rfl)) dX7_file_45 ?_
    refine g6_1 (pc := 48) E hts hin6 hown hK hQ.nob (hts _ (List.mem_of_getElem? (i := 4) rfl)) dX7_file_48 ?_
    refine lv_iload_n (pc := 51) E.1 E.2 dX7_file_51 rfl (lv_at hl 1 rfl) ?_
    refine z_rVi (pc := 52) (As := [.int (iI k)]) (rest := []) E hml hown hts (mX2_sizeOf lL G (fun k => o (1 + (5 + k))) σ k hI (by omega)) (cwV 1 hts gX7_file_X2_sizeOf rfl rfl rfl vdX2_sizeOf ⟨Nat.le_of_ble_eq_true rfl, Nat.le_of_ble_eq_true rfl⟩) (oB.recv hK hQ.fio rfl) hQ.now.fi hK rfl hl.1 rfl dX7_file_52 hcs (Nat.le_of_ble_eq_true rfl) ?_
    rw [show (if 0 ≤ k ∧ k < σ 3 then σ (249 + k) else 0) = (σ (249 + k)) from (if_pos (by omega))]
    exact z_retRi E hr (congrArg iI (by (unfold axFile; (repeat' split) <;> first | rfl | omega | (exfalso; omega)))) hlocks dX7_file_55
  by_cases hs6_2 : w = 2
  · refine z_tabIn (pc := 6) (k := 2) (tgt := 56) E hs6_2 (by decide) (by decide) (by decide) dX7_file_6 rfl (by decide) ?_
    refine lv_aload_n (pc := 56) E.1 E.2 dX7_file_56 rfl (lv_at hl 0 rfl) ?_
    refine g7_0 (pc := 57) E hts hin7 hown hK hQ.ob (hts _ (List.mem_of_getElem? (i := 3) rfl)) dX7_file_57 ?_
    refine lv_iload_n (pc := 60) E.1 E.2 dX7_file_60 rfl (lv_at hl 1 rfl) ?_
    refine z_rVi (pc := 61) (As := [.int (iI k)]) (rest := []) E hml hown hts (mX6_projectOfFile lL G (fun k => o (1 + k)) σ k hI (by omega)) (cwV 1 hts gX7_file_X6_projectOfFile rfl rfl rfl vdX6_projectOfFile ⟨Nat.le_of_ble_eq_true rfl, Nat.le_of_ble_eq_true rfl⟩) (oB.recv hK hQ.nob rfl) hQ.now hK rfl hl.1 rfl dX7_file_61 hcs (Nat.le_of_ble_eq_true rfl) ?_
    exact z_retRi E hr (congrArg iI (by (unfold axFile; (repeat' split) <;> first | rfl | omega | (exfalso; omega)))) hlocks dX7_file_64
  refine z_tabOut (pc := 6) (tgt := 65) E ⟨by omega, by omega⟩ (by omega) dX7_file_6 (by decide) ?_
  exact absurd hok (by unfold kxFile; (repeat' split) <;> first | decide | omega | (exfalso; omega) | grind)
set_option maxHeartbeats 1000000 in
set_option maxRecDepth 100000 in
theorem mxX7_writeReason (lL : Launch) (hst0 : lL.stackTraces = false) (G : GG) (o : Nat → Nat) (ν σ : Int → Int) (π : Nat → Int → Int) (δ τ ω : Int → Int) (f : Int) (b : Int) (hI : In σ) (hf : -2147483648 ≤ f ∧ f < 2147483648) (hb : -2147483648 ≤ b ∧ b < 2147483648) (hbad : ¬ ((kxWriteR σ f b) = 0)) : vx_Met lL yX7_writeReason wsX7_writeReason ({ frames := 7, cells := 1, slots := 6, locals := 122 } : Room) (va_Pc [.ref (o 0), .int (iI f), .int (iI b)] (fun U => QT G o ν σ π δ τ ω U.heap ∧ KK G U ∧ KX FF0 U U.heap)) (fun _ _ _ _ => False) (XCe (exq xI xA xI (kxWriteR σ f b))) 1 6 FF0 := by
  refine z_metX (P := (fun H : Heap => QT G o ν σ π δ τ ω H)) (by decide) rfl (Nat.le_of_ble_eq_true rfl) (fun pp ee ss mm below meth cC E hml hown hts hlocks htab hQ hK hX ls hl => ?_)
  have hl : lv_has ls 3 [(0, .ref (o 0)), (1, .int (iI f)), (2, .int (iI b))] := hl
  have hcs : 0 ≤ (({ frames := 7, cells := 1, slots := 6, locals := 122 } : Room)).cells ∧ 0 ≤ (({ frames := 7, cells := 1, slots := 6, locals := 122 } : Room)).slots := ⟨Nat.zero_le _, Nat.zero_le _⟩
  have hin6 : ∀ w ∈ wsX60, w ∈ wsX7_writeReason := fun w h => List.mem_cons_of_mem _ (List.mem_append_left _ (List.mem_append_left _ (List.mem_append_left _ (List.mem_append_left _ (List.mem_append_left _ (List.mem_append_right _ (h)))))))
  have hin7 : ∀ w ∈ wsX70, w ∈ wsX7_writeReason := fun w h => List.mem_cons_of_mem _ (List.mem_append_left _ (List.mem_append_left _ (List.mem_append_left _ (List.mem_append_left _ (List.mem_append_left _ (List.mem_append_left _ (List.mem_append_right _ (h))))))))
  have hF := hI.F
  have hMm := hI.M
  have hGn := hI.Gn
  have hTi := hI.ti
  have hGr := hI.gr
  refine lv_aload_n (pc := 0) E.1 E.2 dX7_writeReason_0 rfl (lv_at hl 0 rfl) ?_
  refine lv_iload_n (pc := 1) E.1 E.2 dX7_writeReason_1 rfl (lv_at hl 1 rfl) ?_
  by_cases hc2 : 0 ≤ f ∧ f < σ 2
  · refine z_rVv (pc := 2) (As := [.int (iI f)]) (rest := []) E hml hown hts (mX7_needFolder lL G o ν σ π δ τ ω f hI (by omega) (by omega)) (cwV 1 hts gX7_writeReason_X7_needFolder rfl rfl rfl vdX7_needFolder ⟨Nat.le_of_ble_eq_true rfl, Nat.le_of_ble_eq_true rfl⟩) (oB.recv hK hQ.ob rfl) hQ hK rfl hl.1 rfl dX7_writeReason_2 hcs (Nat.le_of_ble_eq_true rfl) ?_
    refine lv_iload_n (pc := 5) E.1 E.2 dX7_writeReason_5 rfl (lv_at hl 2 rfl) ?_
    refine z_iconst (pc := 6) E dX7_writeReason_6 ?_
    refine z_sipush (pc := 7) E (by decide) dX7_writeReason_7 ?_
    by_cases hc10 : 0 ≤ b ∧ b ≤ 9999
    · refine z_rSv (pc := 10) (P := fun _ => True) (As := [.int (iI b), .int (iI 0), .int (iI 9999)]) (rest := []) E hml hown hts (mX7_needRange lL G b 0 9999 (by omega) (by omega) (by omega) (by omega)) (va_cwS 3 hts gX7_writeReason_X7_needRange rfl rfl rfl vdX7_needRange.2 ⟨Nat.le_of_ble_eq_true rfl, Nat.le_of_ble_eq_true rfl⟩) trivial hK rfl hl.1 rfl dX7_writeReason_10 hcs (Nat.le_of_ble_eq_true rfl) ?_
      refine lv_aload_n (pc := 13) E.1 E.2 dX7_writeReason_13 rfl (lv_at hl 0 rfl) ?_
      refine g7_0 (pc := 14) E hts hin7 hown hK hQ.ob (hts _ (List.mem_of_getElem? (i := 1) rfl)) dX7_writeReason_14 ?_
      refine lv_aload_n (pc := 17) E.1 E.2 dX7_writeReason_17 rfl (lv_at hl 0 rfl) ?_
      refine g7_0 (pc := 18) E hts hin7 hown hK hQ.ob (hts _ (List.mem_of_getElem? (i := 1) rfl)) dX7_writeReason_18 ?_
      refine g6_0 (pc := 21) E hts hin6 hown hK hQ.nob (hts _ (List.mem_of_getElem? (i := 2) rfl)) dX7_writeReason_21 ?_
      refine lv_iload_n (pc := 24) E.1 E.2 dX7_writeReason_24 rfl (lv_at hl 1 rfl) ?_
      refine z_rVi (pc := 25) (As := [.int (iI f)]) (rest := [.ref (o 1)]) E hml hown hts (mX3_projectOf lL G (fun k => o (1 + (1 + k))) σ f hI (Or.inr (by omega))) (cwV 1 hts gX7_writeReason_X3_projectOf rfl rfl rfl vdX3_projectOf ⟨Nat.le_of_ble_eq_true rfl, Nat.le_of_ble_eq_true rfl⟩) (oB.recv hK hQ.foo rfl) hQ.now.fo hK rfl hl.1 rfl dX7_writeReason_25 hcs (Nat.le_of_ble_eq_true rfl) ?_
      have hpj := hI.pjr (f := f) (Or.inr (by omega))
      refine lv_iload_n (pc := 28) E.1 E.2 dX7_writeReason_28 rfl (lv_at hl 2 rfl) ?_
      refine z_iconst (pc := 29) E dX7_writeReason_29 ?_
      refine z_rVi (pc := 30) (As := [.int (iI (pjF σ f)), .int (iI b), .int (iI 1)]) (rest := []) E hml hown hts (mX6_growthReason lL G (fun k => o (1 + k)) σ (pjF σ f) b 1 hI (by omega) (by omega) (by omega)) (cwV 3 hts gX7_writeReason_X6_growthReason rfl rfl rfl vdX6_growthReason ⟨Nat.le_of_ble_eq_true rfl, Nat.le_of_ble_eq_true rfl⟩) (oB.recv hK hQ.nob rfl) hQ.now hK rfl hl.1 rfl dX7_writeReason_30 hcs (Nat.le_of_ble_eq_true rfl) ?_
      exact absurd (show (kxWriteR σ f b) = 0 by (unfold kxWriteR; (repeat' split) <;> first | rfl | omega | (exfalso; omega) | contradiction | grind)) hbad
    exact z_badS (pc := 10) (P := fun _ => True) (As := [.int (iI b), .int (iI 0), .int (iI 9999)]) (rest := []) E hml hown hts (mxX7_needRange lL hst0 G b 0 9999 (by omega) (by omega) (by omega) hc10) (va_cwS 3 hts gX7_writeReason_X7_needRange rfl rfl rfl vdX7_needRange.2 ⟨Nat.le_of_ble_eq_true rfl, Nat.le_of_ble_eq_true rfl⟩) trivial hK hX rfl hl.1 rfl dX7_writeReason_10 ⟨Nat.le_of_ble_eq_true rfl, Nat.le_of_ble_eq_true rfl⟩ (Nat.le_of_ble_eq_true rfl) (by rw [show (kxWriteR σ f b) = 2 by (unfold kxWriteR; (repeat' split) <;> first | rfl | omega | (exfalso; omega) | contradiction | grind)]; rfl) htab hlocks
  exact z_badV (pc := 2) (As := [.int (iI f)]) (rest := []) E hml hown hts (mxX7_needFolder lL hst0 G o ν σ π δ τ ω f hI (by omega) hc2) (cwV 1 hts gX7_writeReason_X7_needFolder rfl rfl rfl vdX7_needFolder ⟨Nat.le_of_ble_eq_true rfl, Nat.le_of_ble_eq_true rfl⟩) (oB.recv hK hQ.ob rfl) hQ hK hX rfl hl.1 rfl dX7_writeReason_2 ⟨Nat.le_of_ble_eq_true rfl, Nat.le_of_ble_eq_true rfl⟩ (Nat.le_of_ble_eq_true rfl) (by rw [show (kxWriteR σ f b) = 1 by (unfold kxWriteR; (repeat' split) <;> first | rfl | omega | (exfalso; omega) | contradiction | grind)]; rfl) htab hlocks
set_option maxHeartbeats 1000000 in
set_option maxRecDepth 100000 in
theorem mX7_writeReason (lL : Launch) (G : GG) (o : Nat → Nat) (ν σ : Int → Int) (π : Nat → Int → Int) (δ τ ω : Int → Int) (f : Int) (b : Int) (hI : In σ) (hf : -2147483648 ≤ f ∧ f < 2147483648) (hb : -2147483648 ≤ b ∧ b < 2147483648) (hok : (kxWriteR σ f b) = 0) : Met lL yX7_writeReason wsX7_writeReason ({ frames := 4, cells := 0, slots := 0, locals := 113 } : Room) (va_Pc [.ref (o 0), .int (iI f), .int (iI b)] (fun U => QT G o ν σ π δ τ ω U.heap ∧ KK G U)) (vp_Si (fun r => r = (iI (axWriteR σ f b)))) 0 0 (fun _ => False) := by
  refine z_met (P := (fun H : Heap => QT G o ν σ π δ τ ω H)) (by decide) rfl (Nat.le_of_ble_eq_true rfl) (fun pp ee ss mm below meth cC E hr hml hown hts hlocks hQ hK ls hl => ?_)
  have hl : lv_has ls 3 [(0, .ref (o 0)), (1, .int (iI f)), (2, .int (iI b))] := hl
  have hcs : 0 ≤ (({ frames := 4, cells := 0, slots := 0, locals := 113 } : Room)).cells ∧ 0 ≤ (({ frames := 4, cells := 0, slots := 0, locals := 113 } : Room)).slots := ⟨Nat.zero_le _, Nat.zero_le _⟩
  have hin6 : ∀ w ∈ wsX60, w ∈ wsX7_writeReason := fun w h => List.mem_cons_of_mem _ (List.mem_append_left _ (List.mem_append_left _ (List.mem_append_left _ (List.mem_append_left _ (List.mem_append_left _ (List.mem_append_right _ (h)))))))
  have hin7 : ∀ w ∈ wsX70, w ∈ wsX7_writeReason := fun w h => List.mem_cons_of_mem _ (List.mem_append_left _ (List.mem_append_left _ (List.mem_append_left _ (List.mem_append_left _ (List.mem_append_left _ (List.mem_append_left _ (List.mem_append_right _ (h))))))))
  have hF := hI.F
  have hMm := hI.M
  have hGn := hI.Gn
  have hTi := hI.ti
  have hGr := hI.gr
  have hoc := kxWriteR_ok hok
  refine lv_aload_n (pc := 0) E.1 E.2 dX7_writeReason_0 rfl (lv_at hl 0 rfl) ?_
  refine lv_iload_n (pc := 1) E.1 E.2 dX7_writeReason_1 rfl (lv_at hl 1 rfl) ?_
  refine z_rVv (pc := 2) (As := [.int (iI f)]) (rest := []) E hml hown hts (mX7_needFolder lL G o ν σ π δ τ ω f hI (by omega) (by omega)) (cwV 1 hts gX7_writeReason_X7_needFolder rfl rfl rfl vdX7_needFolder ⟨Nat.le_of_ble_eq_true rfl, Nat.le_of_ble_eq_true rfl⟩) (oB.recv hK hQ.ob rfl) hQ hK rfl hl.1 rfl dX7_writeReason_2 hcs (Nat.le_of_ble_eq_true rfl) ?_
  refine lv_iload_n (pc := 5) E.1 E.2 dX7_writeReason_5 rfl (lv_at hl 2 rfl) ?_
  refine z_iconst (pc := 6) E dX7_writeReason_6 ?_
  refine z_sipush (pc := 7) E (by decide) dX7_writeReason_7 ?_
  refine z_rSv (pc := 10) (P := fun _ => True) (As := [.int (iI b), .int (iI 0), .int (iI 9999)]) (rest := []) E hml hown hts (mX7_needRange lL G b 0 9999 (by omega) (by omega) (by omega) (by omega)) (va_cwS 3 hts gX7_writeReason_X7_needRange rfl rfl rfl vdX7_needRange.2 ⟨Nat.le_of_ble_eq_true rfl, Nat.le_of_ble_eq_true rfl⟩) trivial hK rfl hl.1 rfl dX7_writeReason_10 hcs (Nat.le_of_ble_eq_true rfl) ?_
  refine lv_aload_n (pc := 13) E.1 E.2 dX7_writeReason_13 rfl (lv_at hl 0 rfl) ?_
  refine g7_0 (pc := 14) E hts hin7 hown hK hQ.ob (hts _ (List.mem_of_getElem? (i := 1) rfl)) dX7_writeReason_14 ?_
  refine lv_aload_n (pc := 17) E.1 E.2 dX7_writeReason_17 rfl (lv_at hl 0 rfl) ?_
  refine g7_0 (pc := 18) E hts hin7 hown hK hQ.ob (hts _ (List.mem_of_getElem? (i := 1) rfl)) dX7_writeReason_18 ?_
  refine g6_0 (pc := 21) E hts hin6 hown hK hQ.nob (hts _ (List.mem_of_getElem? (i := 2) rfl)) dX7_writeReason_21 ?_
  refine lv_iload_n (pc := 24) E.1 E.2 dX7_writeReason_24 rfl (lv_at hl 1 rfl) ?_
  refine z_rVi (pc := 25) (As := [.int (iI f)]) (rest := [.ref (o 1)]) E hml hown hts (mX3_projectOf lL G (fun k => o (1 + (1 + k))) σ f hI (Or.inr (by omega))) (cwV 1 hts gX7_writeReason_X3_projectOf rfl rfl rfl vdX3_projectOf ⟨Nat.le_of_ble_eq_true rfl, Nat.le_of_ble_eq_true rfl⟩) (oB.recv hK hQ.foo rfl) hQ.now.fo hK rfl hl.1 rfl dX7_writeReason_25 hcs (Nat.le_of_ble_eq_true rfl) ?_
  have hpj := hI.pjr (f := f) (Or.inr (by omega))
  refine lv_iload_n (pc := 28) E.1 E.2 dX7_writeReason_28 rfl (lv_at hl 2 rfl) ?_
  refine z_iconst (pc := 29) E dX7_writeReason_29 ?_
  refine z_rVi (pc := 30) (As := [.int (iI (pjF σ f)), .int (iI b), .int (iI 1)]) (rest := []) E hml hown hts (mX6_growthReason lL G (fun k => o (1 + k)) σ (pjF σ f) b 1 hI (by omega) (by omega) (by omega)) (cwV 3 hts gX7_writeReason_X6_growthReason rfl rfl rfl vdX6_growthReason ⟨Nat.le_of_ble_eq_true rfl, Nat.le_of_ble_eq_true rfl⟩) (oB.recv hK hQ.nob rfl) hQ.now hK rfl hl.1 rfl dX7_writeReason_30 hcs (Nat.le_of_ble_eq_true rfl) ?_
  exact z_retRi E hr (congrArg iI (by rfl)) hlocks dX7_writeReason_33
set_option maxHeartbeats 1000000 in
set_option maxRecDepth 100000 in
theorem mxX7_room (lL : Launch) (hst0 : lL.stackTraces = false) (G : GG) (o : Nat → Nat) (ν σ : Int → Int) (π : Nat → Int → Int) (δ τ ω : Int → Int) (f : Int) (hI : In σ) (hf : -2147483648 ≤ f ∧ f < 2147483648) (hbad : ¬ ((kxFo σ f) = 0)) : vx_Met lL yX7_room wsX7_room ({ frames := 7, cells := 1, slots := 6, locals := 121 } : Room) (va_Pc [.ref (o 0), .int (iI f)] (fun U => QT G o ν σ π δ τ ω U.heap ∧ KK G U ∧ KX FF0 U U.heap)) (fun _ _ _ _ => False) (XCe (exq xI xI xI (kxFo σ f))) 1 6 FF0 := by
  refine z_metX (P := (fun H : Heap => QT G o ν σ π δ τ ω H)) (by decide) rfl (Nat.le_of_ble_eq_true rfl) (fun pp ee ss mm below meth cC E hml hown hts hlocks htab hQ hK hX ls hl => ?_)
  have hl : lv_has ls 3 [(0, .ref (o 0)), (1, .int (iI f))] := hl
  have hcs : 0 ≤ (({ frames := 7, cells := 1, slots := 6, locals := 121 } : Room)).cells ∧ 0 ≤ (({ frames := 7, cells := 1, slots := 6, locals := 121 } : Room)).slots := ⟨Nat.zero_le _, Nat.zero_le _⟩
  have hin6 : ∀ w ∈ wsX60, w ∈ wsX7_room := fun w h => List.mem_cons_of_mem _ (List.mem_append_left _ (List.mem_append_left _ (List.mem_append_left _ (List.mem_append_left _ (List.mem_append_right _ (h))))))
  have hin7 : ∀ w ∈ wsX70, w ∈ wsX7_room := fun w h => List.mem_cons_of_mem _ (List.mem_append_left _ (List.mem_append_left _ (List.mem_append_left _ (List.mem_append_left _ (List.mem_append_left _ (List.mem_append_right _ (h)))))))
  have hF := hI.F
  have hMm := hI.M
  have hGn := hI.Gn
  have hTi := hI.ti
  have hGr := hI.gr
  refine lv_aload_n (pc := 0) E.1 E.2 dX7_room_0 rfl (lv_at hl 0 rfl) ?_
  refine lv_iload_n (pc := 1) E.1 E.2 dX7_room_1 rfl (lv_at hl 1 rfl) ?_
  by_cases hc2 : 0 ≤ f ∧ f < σ 2
  · refine z_rVv (pc := 2) (As := [.int (iI f)]) (rest := []) E hml hown hts (mX7_needFolder lL G o ν σ π δ τ ω f hI (by omega) (by omega)) (cwV 1 hts gX7_room_X7_needFolder rfl rfl rfl vdX7_needFolder ⟨Nat.le_of_ble_eq_true rfl, Nat.le_of_ble_eq_true rfl⟩) (oB.recv hK hQ.ob rfl) hQ hK rfl hl.1 rfl dX7_room_2 hcs (Nat.le_of_ble_eq_true rfl) ?_
    refine lv_aload_n (pc := 5) E.1 E.2 dX7_room_5 rfl (lv_at hl 0 rfl) ?_
    refine g7_0 (pc := 6) E hts hin7 hown hK hQ.ob (hts _ (List.mem_of_getElem? (i := 1) rfl)) dX7_room_6 ?_
    refine g6_0 (pc := 9) E hts hin6 hown hK hQ.nob (hts _ (List.mem_of_getElem? (i := 2) rfl)) dX7_room_9 ?_
    refine lv_iload_n (pc := 12) E.1 E.2 dX7_room_12 rfl (lv_at hl 1 rfl) ?_
    refine z_rVi (pc := 13) (As := [.int (iI f)]) (rest := []) E hml hown hts (mX3_projectOf lL G (fun k => o (1 + (1 + k))) σ f hI (Or.inr (by omega))) (cwV 1 hts gX7_room_X3_projectOf rfl rfl rfl vdX3_projectOf ⟨Nat.le_of_ble_eq_true rfl, Nat.le_of_ble_eq_true rfl⟩) (oB.recv hK hQ.foo rfl) hQ.now.fo hK rfl hl.1 rfl dX7_room_13 hcs (Nat.le_of_ble_eq_true rfl) ?_
    have hpj := hI.pjr (f := f) (Or.inr (by omega))
    refine lv_istore_n (pc := 16) (lv' := [(2, .int (iI (pjF σ f))), (0, .ref (o 0)), (1, .int (iI f))]) E.1 E.2 dX7_room_16 rfl hl (by decide) rfl (fun ls hl => ?_)
    refine lv_aload_n (pc := 17) E.1 E.2 dX7_room_17 rfl (lv_at hl 1 rfl) ?_
    refine g7_0 (pc := 18) E hts hin7 hown hK hQ.ob (hts _ (List.mem_of_getElem? (i := 1) rfl)) dX7_room_18 ?_
    refine lv_iload_n (pc := 21) E.1 E.2 dX7_room_21 rfl (lv_at hl 0 rfl) ?_
    refine z_iconst (pc := 22) E dX7_room_22 ?_
    refine z_iconst (pc := 23) E dX7_room_23 ?_
    refine z_rVi (pc := 24) (As := [.int (iI (pjF σ f)), .int (iI 0), .int (iI 1)]) (rest := []) E hml hown hts (mX6_growthReason lL G (fun k => o (1 + k)) σ (pjF σ f) 0 1 hI (by omega) (by omega) (by omega)) (cwV 3 hts gX7_room_X6_growthReason rfl rfl rfl vdX6_growthReason ⟨Nat.le_of_ble_eq_true rfl, Nat.le_of_ble_eq_true rfl⟩) (oB.recv hK hQ.nob rfl) hQ.now hK rfl hl.1 rfl dX7_room_24 hcs (Nat.le_of_ble_eq_true rfl) ?_
    have hrs := rsS_b σ (pjF σ f) 0 1
    refine z_if_eq (pc := 27) (tgt := 32) E ⟨by omega, by omega⟩ dX7_room_27 (by decide) (fun h27 => ?_) (fun h27 => ?_)
    · refine lv_aload_n (pc := 32) E.1 E.2 dX7_room_32 rfl (lv_at hl 1 rfl) ?_
      refine g7_0 (pc := 33) E hts hin7 hown hK hQ.ob (hts _ (List.mem_of_getElem? (i := 1) rfl)) dX7_room_33 ?_
      refine lv_iload_n (pc := 36) E.1 E.2 dX7_room_36 rfl (lv_at hl 0 rfl) ?_
      refine z_rVi (pc := 37) (As := [.int (iI (pjF σ f))]) (rest := []) E hml hown hts (mX6_roomOf lL G (fun k => o (1 + k)) σ (pjF σ f) hI (by omega)) (cwV 1 hts gX7_room_X6_roomOf rfl rfl rfl vdX6_roomOf ⟨Nat.le_of_ble_eq_true rfl, Nat.le_of_ble_eq_true rfl⟩) (oB.recv hK hQ.nob rfl) hQ.now hK rfl hl.1 rfl dX7_room_37 hcs (Nat.le_of_ble_eq_true rfl) ?_
      exact absurd (show (kxFo σ f) = 0 by (unfold kxFo; (repeat' split) <;> first | rfl | omega | (exfalso; omega) | contradiction | grind)) hbad
    · refine z_iconst (pc := 30) E dX7_room_30 ?_
      exact absurd (show (kxFo σ f) = 0 by (unfold kxFo; (repeat' split) <;> first | rfl | omega | (exfalso; omega) | contradiction | grind)) hbad
  exact z_badV (pc := 2) (As := [.int (iI f)]) (rest := []) E hml hown hts (mxX7_needFolder lL hst0 G o ν σ π δ τ ω f hI (by omega) hc2) (cwV 1 hts gX7_room_X7_needFolder rfl rfl rfl vdX7_needFolder ⟨Nat.le_of_ble_eq_true rfl, Nat.le_of_ble_eq_true rfl⟩) (oB.recv hK hQ.ob rfl) hQ hK hX rfl hl.1 rfl dX7_room_2 ⟨Nat.le_of_ble_eq_true rfl, Nat.le_of_ble_eq_true rfl⟩ (Nat.le_of_ble_eq_true rfl) (by rw [show (kxFo σ f) = 1 by (unfold kxFo; (repeat' split) <;> first | rfl | omega | (exfalso; omega) | contradiction | grind)]; rfl) htab hlocks
set_option maxHeartbeats 1000000 in
set_option maxRecDepth 100000 in
theorem mX7_room (lL : Launch) (G : GG) (o : Nat → Nat) (ν σ : Int → Int) (π : Nat → Int → Int) (δ τ ω : Int → Int) (f : Int) (hI : In σ) (hf : -2147483648 ≤ f ∧ f < 2147483648) (hok : (kxFo σ f) = 0) : Met lL yX7_room wsX7_room ({ frames := 4, cells := 0, slots := 0, locals := 113 } : Room) (va_Pc [.ref (o 0), .int (iI f)] (fun U => QT G o ν σ π δ τ ω U.heap ∧ KK G U)) (vp_Si (fun r => r = (iI (rooS σ (pjF σ f))))) 0 0 (fun _ => False) := by
  refine z_met (P := (fun H : Heap => QT G o ν σ π δ τ ω H)) (by decide) rfl (Nat.le_of_ble_eq_true rfl) (fun pp ee ss mm below meth cC E hr hml hown hts hlocks hQ hK ls hl => ?_)
  have hl : lv_has ls 3 [(0, .ref (o 0)), (1, .int (iI f))] := hl
  have hcs : 0 ≤ (({ frames := 4, cells := 0, slots := 0, locals := 113 } : Room)).cells ∧ 0 ≤ (({ frames := 4, cells := 0, slots := 0, locals := 113 } : Room)).slots := ⟨Nat.zero_le _, Nat.zero_le _⟩
  have hin6 : ∀ w ∈ wsX60, w ∈ wsX7_room := fun w h => List.mem_cons_of_mem _ (List.mem_append_left _ (List.mem_append_left _ (List.mem_append_left _ (List.mem_append_left _ (List.mem_append_right _ (h))))))
  have hin7 : ∀ w ∈ wsX70, w ∈ wsX7_room := fun w h => List.mem_cons_of_mem _ (List.mem_append_left _ (List.mem_append_left _ (List.mem_append_left _ (List.mem_append_left _ (List.mem_append_left _ (List.mem_append_right _ (h)))))))
  have hF := hI.F
  have hMm := hI.M
  have hGn := hI.Gn
  have hTi := hI.ti
  have hGr := hI.gr
  have hoc := kxFo_ok hok
  refine lv_aload_n (pc := 0) E.1 E.2 dX7_room_0 rfl (lv_at hl 0 rfl) ?_
  refine lv_iload_n (pc := 1) E.1 E.2 dX7_room_1 rfl (lv_at hl 1 rfl) ?_
  refine z_rVv (pc := 2) (As := [.int (iI f)]) (rest := []) E hml hown hts (mX7_needFolder lL G o ν σ π δ τ ω f hI (by omega) (by omega)) (cwV 1 hts gX7_room_X7_needFolder rfl rfl rfl vdX7_needFolder ⟨Nat.le_of_ble_eq_true rfl, Nat.le_of_ble_eq_true rfl⟩) (oB.recv hK hQ.ob rfl) hQ hK rfl hl.1 rfl dX7_room_2 hcs (Nat.le_of_ble_eq_true rfl) ?_
  refine lv_aload_n (pc := 5) E.1 E.2 dX7_room_5 rfl (lv_at hl 0 rfl) ?_
  refine g7_0 (pc := 6) E hts hin7 hown hK hQ.ob (hts _ (List.mem_of_getElem? (i := 1) rfl)) dX7_room_6 ?_
  refine g6_0 (pc := 9) E hts hin6 hown hK hQ.nob (hts _ (List.mem_of_getElem? (i := 2) rfl)) dX7_room_9 ?_
  refine lv_iload_n (pc := 12) E.1 E.2 dX7_room_12 rfl (lv_at hl 1 rfl) ?_
  refine z_rVi (pc := 13) (As := [.int (iI f)]) (rest := []) E hml hown hts (mX3_projectOf lL G (fun k => o (1 + (1 + k))) σ f hI (Or.inr (by omega))) (cwV 1 hts gX7_room_X3_projectOf rfl rfl rfl vdX3_projectOf ⟨Nat.le_of_ble_eq_true rfl, Nat.le_of_ble_eq_true rfl⟩) (oB.recv hK hQ.foo rfl) hQ.now.fo hK rfl hl.1 rfl dX7_room_13 hcs (Nat.le_of_ble_eq_true rfl) ?_
  have hpj := hI.pjr (f := f) (Or.inr (by omega))
  refine lv_istore_n (pc := 16) (lv' := [(2, .int (iI (pjF σ f))), (0, .ref (o 0)), (1, .int (iI f))]) E.1 E.2 dX7_room_16 rfl hl (by decide) rfl (fun ls hl => ?_)
  refine lv_aload_n (pc := 17) E.1 E.2 dX7_room_17 rfl (lv_at hl 1 rfl) ?_
  refine g7_0 (pc := 18) E hts hin7 hown hK hQ.ob (hts _ (List.mem_of_getElem? (i := 1) rfl)) dX7_room_18 ?_
  refine lv_iload_n (pc := 21) E.1 E.2 dX7_room_21 rfl (lv_at hl 0 rfl) ?_
  refine z_iconst (pc := 22) E dX7_room_22 ?_
  refine z_iconst (pc := 23) E dX7_room_23 ?_
  refine z_rVi (pc := 24) (As := [.int (iI (pjF σ f)), .int (iI 0), .int (iI 1)]) (rest := []) E hml hown hts (mX6_growthReason lL G (fun k => o (1 + k)) σ (pjF σ f) 0 1 hI (by omega) (by omega) (by omega)) (cwV 3 hts gX7_room_X6_growthReason rfl rfl rfl vdX6_growthReason ⟨Nat.le_of_ble_eq_true rfl, Nat.le_of_ble_eq_true rfl⟩) (oB.recv hK hQ.nob rfl) hQ.now hK rfl hl.1 rfl dX7_room_24 hcs (Nat.le_of_ble_eq_true rfl) ?_
  have hrs := rsS_b σ (pjF σ f) 0 1
  refine z_if_eq (pc := 27) (tgt := 32) E ⟨by omega, by omega⟩ dX7_room_27 (by decide) (fun h27 => ?_) (fun h27 => ?_)
  · refine lv_aload_n (pc := 32) E.1 E.2 dX7_room_32 rfl (lv_at hl 1 rfl) ?_
    refine g7_0 (pc := 33) E hts hin7 hown hK hQ.ob (hts _ (List.mem_of_getElem? (i := 1) rfl)) dX7_room_33 ?_
    refine lv_iload_n (pc := 36) E.1 E.2 dX7_room_36 rfl (lv_at hl 0 rfl) ?_
    refine z_rVi (pc := 37) (As := [.int (iI (pjF σ f))]) (rest := []) E hml hown hts (mX6_roomOf lL G (fun k => o (1 + k)) σ (pjF σ f) hI (by omega)) (cwV 1 hts gX7_room_X6_roomOf rfl rfl rfl vdX6_roomOf ⟨Nat.le_of_ble_eq_true rfl, Nat.le_of_ble_eq_true rfl⟩) (oB.recv hK hQ.nob rfl) hQ.now hK rfl hl.1 rfl dX7_room_37 hcs (Nat.le_of_ble_eq_true rfl) ?_
    exact z_retRi E hr (congrArg iI (by (unfold rooS; first | exact (if_neg (by omega)).symm | exact (if_pos (by omega)).symm))) hlocks dX7_room_40
  · refine z_iconst (pc := 30) E dX7_room_30 ?_
    exact z_retRi E hr (congrArg iI (by (unfold rooS; first | exact (if_neg (by omega)).symm | exact (if_pos (by omega)).symm))) hlocks dX7_room_31
set_option maxHeartbeats 1000000 in
set_option maxRecDepth 100000 in
theorem mxX7_greatest (lL : Launch) (hst0 : lL.stackTraces = false) (G : GG) (o : Nat → Nat) (ν σ : Int → Int) (π : Nat → Int → Int) (δ τ ω : Int → Int) (p : Int) (hI : In σ) (hp : -2147483648 ≤ p ∧ p < 2147483648) (hbad : ¬ ((kxGreat σ p) = 0)) : vx_Met lL yX7_greatest wsX7_greatest ({ frames := 8, cells := 1, slots := 6, locals := 142 } : Room) (va_Pc [.ref (o 0), .int (iI p)] (fun U => QT G o ν σ π δ τ ω U.heap ∧ KK G U ∧ KX FF0 U U.heap)) (fun _ _ _ _ => False) (XCe (exq xA xN xI (kxGreat σ p))) 1 6 FF0 := by
  refine z_metX (P := (fun H : Heap => QT G o ν σ π δ τ ω H)) (by decide) rfl (Nat.le_of_ble_eq_true rfl) (fun pp ee ss mm below meth cC E hml hown hts hlocks htab hQ hK hX ls hl => ?_)
  have hl : lv_has ls 3 [(0, .ref (o 0)), (1, .int (iI p))] := hl
  have hcs : 0 ≤ (({ frames := 8, cells := 1, slots := 6, locals := 142 } : Room)).cells ∧ 0 ≤ (({ frames := 8, cells := 1, slots := 6, locals := 142 } : Room)).slots := ⟨Nat.zero_le _, Nat.zero_le _⟩
  have hin7 : ∀ w ∈ wsX70, w ∈ wsX7_greatest := fun w h => List.mem_cons_of_mem _ (List.mem_append_left _ (List.mem_append_left _ (List.mem_append_left _ (List.mem_append_left _ (List.mem_append_left _ (List.mem_append_right _ (h)))))))
  have hF := hI.F
  have hMm := hI.M
  have hGn := hI.Gn
  have hTi := hI.ti
  have hGr := hI.gr
  refine lv_iload_n (pc := 0) E.1 E.2 dX7_greatest_0 rfl (lv_at hl 1 rfl) ?_
  by_cases hc1 : 0 ≤ p ∧ p ≤ 7
  · refine z_rSv (pc := 1) (P := fun _ => True) (As := [.int (iI p)]) (rest := []) E hml hown hts (mX7_needProject lL G p (by omega) (by omega)) (va_cwS 1 hts gX7_greatest_X7_needProject rfl rfl rfl vdX7_needProject.2 ⟨Nat.le_of_ble_eq_true rfl, Nat.le_of_ble_eq_true rfl⟩) trivial hK rfl hl.1 rfl dX7_greatest_1 hcs (Nat.le_of_ble_eq_true rfl) ?_
    refine lv_aload_n (pc := 4) E.1 E.2 dX7_greatest_4 rfl (lv_at hl 0 rfl) ?_
    refine g7_0 (pc := 5) E hts hin7 hown hK hQ.ob (hts _ (List.mem_of_getElem? (i := 3) rfl)) dX7_greatest_5 ?_
    refine lv_iload_n (pc := 8) E.1 E.2 dX7_greatest_8 rfl (lv_at hl 1 rfl) ?_
    refine z_rVi (pc := 9) (As := [.int (iI p)]) (rest := []) E hml hown hts (mX6_greatestFile lL G (fun k => o (1 + k)) σ p hI (by omega)) (cwV 1 hts gX7_greatest_X6_greatestFile rfl rfl rfl vdX6_greatestFile ⟨Nat.le_of_ble_eq_true rfl, Nat.le_of_ble_eq_true rfl⟩) (oB.recv hK hQ.nob rfl) hQ.now hK rfl hl.1 rfl dX7_greatest_9 hcs (Nat.le_of_ble_eq_true rfl) ?_
    have hgb := gfS_b hI p
    have hgi := gfS_i hI p
    refine lv_istore_n (pc := 12) (lv' := [(2, .int (iI (gfS σ p))), (0, .ref (o 0)), (1, .int (iI p))]) E.1 E.2 dX7_greatest_12 rfl hl (by decide) rfl (fun ls hl => ?_)
    refine lv_iload_n (pc := 13) E.1 E.2 dX7_greatest_13 rfl (lv_at hl 0 rfl) ?_
    refine z_iconst (pc := 14) E dX7_greatest_14 ?_
    refine z_icmp_ne (pc := 15) (tgt := 29) E ⟨by omega, by omega⟩ (by decide) dX7_greatest_15 (by decide) (fun h15 => ?_) (fun h15 => ?_)
    · refine lv_iload_n (pc := 29) E.1 E.2 dX7_greatest_29 rfl (lv_at hl 0 rfl) ?_
      exact absurd (show (kxGreat σ p) = 0 by (unfold kxGreat; (repeat' split) <;> first | rfl | omega | (exfalso; omega) | contradiction | grind)) hbad
    · exact z_thrW_xN (pc := 18) (rest := []) (is := 284) (text := "the project has no files") E hst0 hown (hts _ (List.mem_of_getElem? (i := 1) rfl)) (hts _ (List.mem_of_getElem? (i := 2) rfl)) (fun w h => hts w (List.mem_cons_of_mem _ (List.mem_append_left _ (List.mem_append_right _ (h))))) hX (List.mem_of_getElem? (i := 9) rfl) (hl.1.trans hml.symm) dX7_greatest_18 dX7_greatest_21 dX7_greatest_22 dX7_greatest_25 dX7_greatest_28 htab (Nat.le_of_ble_eq_true rfl) (Nat.le_of_ble_eq_true rfl) (Nat.le_of_ble_eq_true rfl) (Nat.le_of_ble_eq_true rfl) hlocks (by rw [show (kxGreat σ p) = 2 by (unfold kxGreat; (repeat' split) <;> first | rfl | omega | (exfalso; omega) | contradiction | grind)]; rfl)
  exact z_badS (pc := 1) (P := fun _ => True) (As := [.int (iI p)]) (rest := []) E hml hown hts (mxX7_needProject lL hst0 G p (by omega) hc1) (va_cwS 1 hts gX7_greatest_X7_needProject rfl rfl rfl vdX7_needProject.2 ⟨Nat.le_of_ble_eq_true rfl, Nat.le_of_ble_eq_true rfl⟩) trivial hK hX rfl hl.1 rfl dX7_greatest_1 ⟨Nat.le_of_ble_eq_true rfl, Nat.le_of_ble_eq_true rfl⟩ (Nat.le_of_ble_eq_true rfl) (by rw [show (kxGreat σ p) = 1 by (unfold kxGreat; (repeat' split) <;> first | rfl | omega | (exfalso; omega) | contradiction | grind)]; rfl) htab hlocks
set_option maxHeartbeats 1000000 in
set_option maxRecDepth 100000 in
theorem mX7_greatest (lL : Launch) (G : GG) (o : Nat → Nat) (ν σ : Int → Int) (π : Nat → Int → Int) (δ τ ω : Int → Int) (p : Int) (hI : In σ) (hp : -2147483648 ≤ p ∧ p < 2147483648) (hok : (kxGreat σ p) = 0) : Met lL yX7_greatest wsX7_greatest ({ frames := 5, cells := 0, slots := 0, locals := 110 } : Room) (va_Pc [.ref (o 0), .int (iI p)] (fun U => QT G o ν σ π δ τ ω U.heap ∧ KK G U)) (vp_Si (fun r => r = (iI (gfS σ p)))) 0 0 (fun _ => False) := by
  refine z_met (P := (fun H : Heap => QT G o ν σ π δ τ ω H)) (by decide) rfl (Nat.le_of_ble_eq_true rfl) (fun pp ee ss mm below meth cC E hr hml hown hts hlocks hQ hK ls hl => ?_)
  have hl : lv_has ls 3 [(0, .ref (o 0)), (1, .int (iI p))] := hl
  have hcs : 0 ≤ (({ frames := 5, cells := 0, slots := 0, locals := 110 } : Room)).cells ∧ 0 ≤ (({ frames := 5, cells := 0, slots := 0, locals := 110 } : Room)).slots := ⟨Nat.zero_le _, Nat.zero_le _⟩
  have hin7 : ∀ w ∈ wsX70, w ∈ wsX7_greatest := fun w h => List.mem_cons_of_mem _ (List.mem_append_left _ (List.mem_append_left _ (List.mem_append_left _ (List.mem_append_left _ (List.mem_append_left _ (List.mem_append_right _ (h)))))))
  have hF := hI.F
  have hMm := hI.M
  have hGn := hI.Gn
  have hTi := hI.ti
  have hGr := hI.gr
  have hoc := kxGreat_ok hok
  refine lv_iload_n (pc := 0) E.1 E.2 dX7_greatest_0 rfl (lv_at hl 1 rfl) ?_
  refine z_rSv (pc := 1) (P := fun _ => True) (As := [.int (iI p)]) (rest := []) E hml hown hts (mX7_needProject lL G p (by omega) (by omega)) (va_cwS 1 hts gX7_greatest_X7_needProject rfl rfl rfl vdX7_needProject.2 ⟨Nat.le_of_ble_eq_true rfl, Nat.le_of_ble_eq_true rfl⟩) trivial hK rfl hl.1 rfl dX7_greatest_1 hcs (Nat.le_of_ble_eq_true rfl) ?_
  refine lv_aload_n (pc := 4) E.1 E.2 dX7_greatest_4 rfl (lv_at hl 0 rfl) ?_
  refine g7_0 (pc := 5) E hts hin7 hown hK hQ.ob (hts _ (List.mem_of_getElem? (i := 3) rfl)) dX7_greatest_5 ?_
  refine lv_iload_n (pc := 8) E.1 E.2 dX7_greatest_8 rfl (lv_at hl 1 rfl) ?_
  refine z_rVi (pc := 9) (As := [.int (iI p)]) (rest := []) E hml hown hts (mX6_greatestFile lL G (fun k => o (1 + k)) σ p hI (by omega)) (cwV 1 hts gX7_greatest_X6_greatestFile rfl rfl rfl vdX6_greatestFile ⟨Nat.le_of_ble_eq_true rfl, Nat.le_of_ble_eq_true rfl⟩) (oB.recv hK hQ.nob rfl) hQ.now hK rfl hl.1 rfl dX7_greatest_9 hcs (Nat.le_of_ble_eq_true rfl) ?_
  have hgb := gfS_b hI p
  have hgi := gfS_i hI p
  refine lv_istore_n (pc := 12) (lv' := [(2, .int (iI (gfS σ p))), (0, .ref (o 0)), (1, .int (iI p))]) E.1 E.2 dX7_greatest_12 rfl hl (by decide) rfl (fun ls hl => ?_)
  refine lv_iload_n (pc := 13) E.1 E.2 dX7_greatest_13 rfl (lv_at hl 0 rfl) ?_
  refine z_iconst (pc := 14) E dX7_greatest_14 ?_
  refine z_icmp_ne (pc := 15) (tgt := 29) E ⟨by omega, by omega⟩ (by decide) dX7_greatest_15 (by decide) (fun h15 => ?_) (fun h15 => ?_)
  · refine lv_iload_n (pc := 29) E.1 E.2 dX7_greatest_29 rfl (lv_at hl 0 rfl) ?_
    exact z_retRi E hr rfl hlocks dX7_greatest_30
  · exact absurd hok (by unfold kxGreat; (repeat' split) <;> first | decide | omega | (exfalso; omega) | grind)
set_option maxHeartbeats 1000000 in
set_option maxRecDepth 100000 in
theorem mxX7_used (lL : Launch) (hst0 : lL.stackTraces = false) (G : GG) (o : Nat → Nat) (ν σ : Int → Int) (π : Nat → Int → Int) (δ τ ω : Int → Int) (p : Int) (k : Int) (hI : In σ) (hp : -2147483648 ≤ p ∧ p < 2147483648) (hk : -2147483648 ≤ k ∧ k < 2147483648) (hbad : ¬ ((kxPK p k) = 0)) : vx_Met lL yX7_used wsX7_used ({ frames := 9, cells := 1, slots := 6, locals := 163 } : Room) (va_Pc [.ref (o 0), .int (iI p), .int (iI k)] (fun U => QT G o ν σ π δ τ ω U.heap ∧ KK G U ∧ KX FF0 U U.heap)) (fun _ _ _ _ => False) (XCe (exq xA xI xI (kxPK p k))) 1 6 FF0 := by
  refine z_metX (P := (fun H : Heap => QT G o ν σ π δ τ ω H)) (by decide) rfl (Nat.le_of_ble_eq_true rfl) (fun pp ee ss mm below meth cC E hml hown hts hlocks htab hQ hK hX ls hl => ?_)
  have hl : lv_has ls 3 [(0, .ref (o 0)), (1, .int (iI p)), (2, .int (iI k))] := hl
  have hcs : 0 ≤ (({ frames := 9, cells := 1, slots := 6, locals := 163 } : Room)).cells ∧ 0 ≤ (({ frames := 9, cells := 1, slots := 6, locals := 163 } : Room)).slots := ⟨Nat.zero_le _, Nat.zero_le _⟩
  have hin6 : ∀ w ∈ wsX60, w ∈ wsX7_used := fun w h => List.mem_cons_of_mem _ (List.mem_append_left _ (List.mem_append_left _ (List.mem_append_right _ (h))))
  have hin7 : ∀ w ∈ wsX70, w ∈ wsX7_used := fun w h => List.mem_cons_of_mem _ (List.mem_append_left _ (List.mem_append_left _ (List.mem_append_left _ (List.mem_append_right _ (h)))))
  have hF := hI.F
  have hMm := hI.M
  have hGn := hI.Gn
  have hTi := hI.ti
  have hGr := hI.gr
  refine lv_iload_n (pc := 0) E.1 E.2 dX7_used_0 rfl (lv_at hl 1 rfl) ?_
  refine lv_iload_n (pc := 1) E.1 E.2 dX7_used_1 rfl (lv_at hl 2 rfl) ?_
  by_cases hc2 : (0 ≤ p ∧ p ≤ 7) ∧ (0 ≤ k ∧ k ≤ 1)
  · refine z_rSv (pc := 2) (P := fun _ => True) (As := [.int (iI p), .int (iI k)]) (rest := []) E hml hown hts (mX7_needAccount lL G p k (by omega) (by omega) (by omega)) (va_cwS 2 hts gX7_used_X7_needAccount rfl rfl rfl vdX7_needAccount.2 ⟨Nat.le_of_ble_eq_true rfl, Nat.le_of_ble_eq_true rfl⟩) trivial hK rfl hl.1 rfl dX7_used_2 hcs (Nat.le_of_ble_eq_true rfl) ?_
    refine lv_aload_n (pc := 5) E.1 E.2 dX7_used_5 rfl (lv_at hl 0 rfl) ?_
    refine g7_0 (pc := 6) E hts hin7 hown hK hQ.ob (hts _ (List.mem_of_getElem? (i := 1) rfl)) dX7_used_6 ?_
    refine g6_2 (pc := 9) E hts hin6 hown hK hQ.nob (hts _ (List.mem_of_getElem? (i := 2) rfl)) dX7_used_9 ?_
    refine lv_iload_n (pc := 12) E.1 E.2 dX7_used_12 rfl (lv_at hl 1 rfl) ?_
    refine lv_iload_n (pc := 13) E.1 E.2 dX7_used_13 rfl (lv_at hl 2 rfl) ?_
    refine z_rSi (pc := 14) (P := fun _ => True) (As := [.int (iI p), .int (iI k)]) (rest := [.ref (o 9)]) E hml hown hts (mX7_accountOf lL G p k) (va_cwS 2 hts gX7_used_X7_accountOf rfl rfl rfl vdX7_accountOf.2 ⟨Nat.le_of_ble_eq_true rfl, Nat.le_of_ble_eq_true rfl⟩) trivial hK rfl hl.1 rfl dX7_used_14 hcs (Nat.le_of_ble_eq_true rfl) ?_
    refine z_rVi (pc := 17) (As := [.int (iI (2 * p + k))]) (rest := []) E hml hown hts (mX0_amountOf lL G (fun k => o (1 + (8 + k))) σ (2 * p + k)  (by omega)) (cwV 1 hts gX7_used_X0_amountOf rfl rfl rfl vdX0_amountOf ⟨Nat.le_of_ble_eq_true rfl, Nat.le_of_ble_eq_true rfl⟩) (oB.recv hK hQ.aco rfl) hQ.now.ac hK rfl hl.1 rfl dX7_used_17 hcs (Nat.le_of_ble_eq_true rfl) ?_
    rw [show (if 0 ≤ (2 * p + k) ∧ (2 * p + k) < 16 then σ (37 + (2 * p + k)) else 0) = (σ (37 + (2 * p + k))) from (if_pos (by omega))]
    exact absurd (show (kxPK p k) = 0 by (unfold kxPK; (repeat' split) <;> first | rfl | omega | (exfalso; omega) | contradiction | grind)) hbad
  exact z_badS (pc := 2) (P := fun _ => True) (As := [.int (iI p), .int (iI k)]) (rest := []) E hml hown hts (mxX7_needAccount lL hst0 G p k (by omega) (by omega) hc2) (va_cwS 2 hts gX7_used_X7_needAccount rfl rfl rfl vdX7_needAccount.2 ⟨Nat.le_of_ble_eq_true rfl, Nat.le_of_ble_eq_true rfl⟩) trivial hK hX rfl hl.1 rfl dX7_used_2 ⟨Nat.le_of_ble_eq_true rfl, Nat.le_of_ble_eq_true rfl⟩ (Nat.le_of_ble_eq_true rfl) (by rw [show (kxPK p k) = 1 by (unfold kxPK; (repeat' split) <;> first | rfl | omega | (exfalso; omega) | contradiction | grind)]; rfl) htab hlocks
set_option maxHeartbeats 1000000 in
set_option maxRecDepth 100000 in
theorem mX7_used (lL : Launch) (G : GG) (o : Nat → Nat) (ν σ : Int → Int) (π : Nat → Int → Int) (δ τ ω : Int → Int) (p : Int) (k : Int) (hI : In σ) (hp : -2147483648 ≤ p ∧ p < 2147483648) (hk : -2147483648 ≤ k ∧ k < 2147483648) (hok : (kxPK p k) = 0) : Met lL yX7_used wsX7_used ({ frames := 3, cells := 0, slots := 0, locals := 63 } : Room) (va_Pc [.ref (o 0), .int (iI p), .int (iI k)] (fun U => QT G o ν σ π δ τ ω U.heap ∧ KK G U)) (vp_Si (fun r => r = (iI (σ (37 + (2 * p + k)))))) 0 0 (fun _ => False) := by
  refine z_met (P := (fun H : Heap => QT G o ν σ π δ τ ω H)) (by decide) rfl (Nat.le_of_ble_eq_true rfl) (fun pp ee ss mm below meth cC E hr hml hown hts hlocks hQ hK ls hl => ?_)
  have hl : lv_has ls 3 [(0, .ref (o 0)), (1, .int (iI p)), (2, .int (iI k))] := hl
  have hcs : 0 ≤ (({ frames := 3, cells := 0, slots := 0, locals := 63 } : Room)).cells ∧ 0 ≤ (({ frames := 3, cells := 0, slots := 0, locals := 63 } : Room)).slots := ⟨Nat.zero_le _, Nat.zero_le _⟩
  have hin6 : ∀ w ∈ wsX60, w ∈ wsX7_used := fun w h => List.mem_cons_of_mem _ (List.mem_append_left _ (List.mem_append_left _ (List.mem_append_right _ (h))))
  have hin7 : ∀ w ∈ wsX70, w ∈ wsX7_used := fun w h => List.mem_cons_of_mem _ (List.mem_append_left _ (List.mem_append_left _ (List.mem_append_left _ (List.mem_append_right _ (h)))))
  have hF := hI.F
  have hMm := hI.M
  have hGn := hI.Gn
  have hTi := hI.ti
  have hGr := hI.gr
  have hoc := kxPK_ok hok
  refine lv_iload_n (pc := 0) E.1 E.2 dX7_used_0 rfl (lv_at hl 1 rfl) ?_
  refine lv_iload_n (pc := 1) E.1 E.2 dX7_used_1 rfl (lv_at hl 2 rfl) ?_
  refine z_rSv (pc := 2) (P := fun _ => True) (As := [.int (iI p), .int (iI k)]) (rest := []) E hml hown hts (mX7_needAccount lL G p k (by omega) (by omega) (by omega)) (va_cwS 2 hts gX7_used_X7_needAccount rfl rfl rfl vdX7_needAccount.2 ⟨Nat.le_of_ble_eq_true rfl, Nat.le_of_ble_eq_true rfl⟩) trivial hK rfl hl.1 rfl dX7_used_2 hcs (Nat.le_of_ble_eq_true rfl) ?_
  refine lv_aload_n (pc := 5) E.1 E.2 dX7_used_5 rfl (lv_at hl 0 rfl) ?_
  refine g7_0 (pc := 6) E hts hin7 hown hK hQ.ob (hts _ (List.mem_of_getElem? (i := 1) rfl)) dX7_used_6 ?_
  refine g6_2 (pc := 9) E hts hin6 hown hK hQ.nob (hts _ (List.mem_of_getElem? (i := 2) rfl)) dX7_used_9 ?_
  refine lv_iload_n (pc := 12) E.1 E.2 dX7_used_12 rfl (lv_at hl 1 rfl) ?_
  refine lv_iload_n (pc := 13) E.1 E.2 dX7_used_13 rfl (lv_at hl 2 rfl) ?_
  refine z_rSi (pc := 14) (P := fun _ => True) (As := [.int (iI p), .int (iI k)]) (rest := [.ref (o 9)]) E hml hown hts (mX7_accountOf lL G p k) (va_cwS 2 hts gX7_used_X7_accountOf rfl rfl rfl vdX7_accountOf.2 ⟨Nat.le_of_ble_eq_true rfl, Nat.le_of_ble_eq_true rfl⟩) trivial hK rfl hl.1 rfl dX7_used_14 hcs (Nat.le_of_ble_eq_true rfl) ?_
  refine z_rVi (pc := 17) (As := [.int (iI (2 * p + k))]) (rest := []) E hml hown hts (mX0_amountOf lL G (fun k => o (1 + (8 + k))) σ (2 * p + k)  (by omega)) (cwV 1 hts gX7_used_X0_amountOf rfl rfl rfl vdX0_amountOf ⟨Nat.le_of_ble_eq_true rfl, Nat.le_of_ble_eq_true rfl⟩) (oB.recv hK hQ.aco rfl) hQ.now.ac hK rfl hl.1 rfl dX7_used_17 hcs (Nat.le_of_ble_eq_true rfl) ?_
  rw [show (if 0 ≤ (2 * p + k) ∧ (2 * p + k) < 16 then σ (37 + (2 * p + k)) else 0) = (σ (37 + (2 * p + k))) from (if_pos (by omega))]
  exact z_retRi E hr rfl hlocks dX7_used_20
set_option maxHeartbeats 1000000 in
set_option maxRecDepth 100000 in
theorem mxX7_counted (lL : Launch) (hst0 : lL.stackTraces = false) (G : GG) (o : Nat → Nat) (ν σ : Int → Int) (π : Nat → Int → Int) (δ τ ω : Int → Int) (p : Int) (k : Int) (hI : In σ) (hp : -2147483648 ≤ p ∧ p < 2147483648) (hk : -2147483648 ≤ k ∧ k < 2147483648) (hbad : ¬ ((kxPK p k) = 0)) : vx_Met lL yX7_counted wsX7_counted ({ frames := 9, cells := 1, slots := 6, locals := 163 } : Room) (va_Pc [.ref (o 0), .int (iI p), .int (iI k)] (fun U => QT G o ν σ π δ τ ω U.heap ∧ KK G U ∧ KX FF0 U U.heap)) (fun _ _ _ _ => False) (XCe (exq xA xI xI (kxPK p k))) 1 6 FF0 := by
  refine z_metX (P := (fun H : Heap => QT G o ν σ π δ τ ω H)) (by decide) rfl (Nat.le_of_ble_eq_true rfl) (fun pp ee ss mm below meth cC E hml hown hts hlocks htab hQ hK hX ls hl => ?_)
  have hl : lv_has ls 3 [(0, .ref (o 0)), (1, .int (iI p)), (2, .int (iI k))] := hl
  have hcs : 0 ≤ (({ frames := 9, cells := 1, slots := 6, locals := 163 } : Room)).cells ∧ 0 ≤ (({ frames := 9, cells := 1, slots := 6, locals := 163 } : Room)).slots := ⟨Nat.zero_le _, Nat.zero_le _⟩
  have hin7 : ∀ w ∈ wsX70, w ∈ wsX7_counted := fun w h => List.mem_cons_of_mem _ (List.mem_append_left _ (List.mem_append_left _ (List.mem_append_left _ (List.mem_append_left _ (List.mem_append_right _ (h))))))
  have hF := hI.F
  have hMm := hI.M
  have hGn := hI.Gn
  have hTi := hI.ti
  have hGr := hI.gr
  refine lv_iload_n (pc := 0) E.1 E.2 dX7_counted_0 rfl (lv_at hl 1 rfl) ?_
  refine lv_iload_n (pc := 1) E.1 E.2 dX7_counted_1 rfl (lv_at hl 2 rfl) ?_
  by_cases hc2 : (0 ≤ p ∧ p ≤ 7) ∧ (0 ≤ k ∧ k ≤ 1)
  · refine z_rSv (pc := 2) (P := fun _ => True) (As := [.int (iI p), .int (iI k)]) (rest := []) E hml hown hts (mX7_needAccount lL G p k (by omega) (by omega) (by omega)) (va_cwS 2 hts gX7_counted_X7_needAccount rfl rfl rfl vdX7_needAccount.2 ⟨Nat.le_of_ble_eq_true rfl, Nat.le_of_ble_eq_true rfl⟩) trivial hK rfl hl.1 rfl dX7_counted_2 hcs (Nat.le_of_ble_eq_true rfl) ?_
    refine lv_aload_n (pc := 5) E.1 E.2 dX7_counted_5 rfl (lv_at hl 0 rfl) ?_
    refine g7_0 (pc := 6) E hts hin7 hown hK hQ.ob (hts _ (List.mem_of_getElem? (i := 1) rfl)) dX7_counted_6 ?_
    refine lv_iload_n (pc := 9) E.1 E.2 dX7_counted_9 rfl (lv_at hl 1 rfl) ?_
    refine lv_iload_n (pc := 10) E.1 E.2 dX7_counted_10 rfl (lv_at hl 2 rfl) ?_
    refine z_rVi (pc := 11) (As := [.int (iI p), .int (iI k)]) (rest := []) E hml hown hts (mX6_countAnew lL G (fun k => o (1 + k)) σ p k hI (by omega) (by omega)) (cwV 2 hts gX7_counted_X6_countAnew rfl rfl rfl vdX6_countAnew ⟨Nat.le_of_ble_eq_true rfl, Nat.le_of_ble_eq_true rfl⟩) (oB.recv hK hQ.nob rfl) hQ.now hK rfl hl.1 rfl dX7_counted_11 hcs (Nat.le_of_ble_eq_true rfl) ?_
    exact absurd (show (kxPK p k) = 0 by (unfold kxPK; (repeat' split) <;> first | rfl | omega | (exfalso; omega) | contradiction | grind)) hbad
  exact z_badS (pc := 2) (P := fun _ => True) (As := [.int (iI p), .int (iI k)]) (rest := []) E hml hown hts (mxX7_needAccount lL hst0 G p k (by omega) (by omega) hc2) (va_cwS 2 hts gX7_counted_X7_needAccount rfl rfl rfl vdX7_needAccount.2 ⟨Nat.le_of_ble_eq_true rfl, Nat.le_of_ble_eq_true rfl⟩) trivial hK hX rfl hl.1 rfl dX7_counted_2 ⟨Nat.le_of_ble_eq_true rfl, Nat.le_of_ble_eq_true rfl⟩ (Nat.le_of_ble_eq_true rfl) (by rw [show (kxPK p k) = 1 by (unfold kxPK; (repeat' split) <;> first | rfl | omega | (exfalso; omega) | contradiction | grind)]; rfl) htab hlocks
set_option maxHeartbeats 1000000 in
set_option maxRecDepth 100000 in
theorem mX7_counted (lL : Launch) (G : GG) (o : Nat → Nat) (ν σ : Int → Int) (π : Nat → Int → Int) (δ τ ω : Int → Int) (p : Int) (k : Int) (hI : In σ) (hp : -2147483648 ≤ p ∧ p < 2147483648) (hk : -2147483648 ≤ k ∧ k < 2147483648) (hok : (kxPK p k) = 0) : Met lL yX7_counted wsX7_counted ({ frames := 5, cells := 0, slots := 0, locals := 110 } : Room) (va_Pc [.ref (o 0), .int (iI p), .int (iI k)] (fun U => QT G o ν σ π δ τ ω U.heap ∧ KK G U)) (vp_Si (fun r => r = (iI (coS σ p k)))) 0 0 (fun _ => False) := by
  refine z_met (P := (fun H : Heap => QT G o ν σ π δ τ ω H)) (by decide) rfl (Nat.le_of_ble_eq_true rfl) (fun pp ee ss mm below meth cC E hr hml hown hts hlocks hQ hK ls hl => ?_)
  have hl : lv_has ls 3 [(0, .ref (o 0)), (1, .int (iI p)), (2, .int (iI k))] := hl
  have hcs : 0 ≤ (({ frames := 5, cells := 0, slots := 0, locals := 110 } : Room)).cells ∧ 0 ≤ (({ frames := 5, cells := 0, slots := 0, locals := 110 } : Room)).slots := ⟨Nat.zero_le _, Nat.zero_le _⟩
  have hin7 : ∀ w ∈ wsX70, w ∈ wsX7_counted := fun w h => List.mem_cons_of_mem _ (List.mem_append_left _ (List.mem_append_left _ (List.mem_append_left _ (List.mem_append_left _ (List.mem_append_right _ (h))))))
  have hF := hI.F
  have hMm := hI.M
  have hGn := hI.Gn
  have hTi := hI.ti
  have hGr := hI.gr
  have hoc := kxPK_ok hok
  refine lv_iload_n (pc := 0) E.1 E.2 dX7_counted_0 rfl (lv_at hl 1 rfl) ?_
  refine lv_iload_n (pc := 1) E.1 E.2 dX7_counted_1 rfl (lv_at hl 2 rfl) ?_
  refine z_rSv (pc := 2) (P := fun _ => True) (As := [.int (iI p), .int (iI k)]) (rest := []) E hml hown hts (mX7_needAccount lL G p k (by omega) (by omega) (by omega)) (va_cwS 2 hts gX7_counted_X7_needAccount rfl rfl rfl vdX7_needAccount.2 ⟨Nat.le_of_ble_eq_true rfl, Nat.le_of_ble_eq_true rfl⟩) trivial hK rfl hl.1 rfl dX7_counted_2 hcs (Nat.le_of_ble_eq_true rfl) ?_
  refine lv_aload_n (pc := 5) E.1 E.2 dX7_counted_5 rfl (lv_at hl 0 rfl) ?_
  refine g7_0 (pc := 6) E hts hin7 hown hK hQ.ob (hts _ (List.mem_of_getElem? (i := 1) rfl)) dX7_counted_6 ?_
  refine lv_iload_n (pc := 9) E.1 E.2 dX7_counted_9 rfl (lv_at hl 1 rfl) ?_
  refine lv_iload_n (pc := 10) E.1 E.2 dX7_counted_10 rfl (lv_at hl 2 rfl) ?_
  refine z_rVi (pc := 11) (As := [.int (iI p), .int (iI k)]) (rest := []) E hml hown hts (mX6_countAnew lL G (fun k => o (1 + k)) σ p k hI (by omega) (by omega)) (cwV 2 hts gX7_counted_X6_countAnew rfl rfl rfl vdX6_countAnew ⟨Nat.le_of_ble_eq_true rfl, Nat.le_of_ble_eq_true rfl⟩) (oB.recv hK hQ.nob rfl) hQ.now hK rfl hl.1 rfl dX7_counted_11 hcs (Nat.le_of_ble_eq_true rfl) ?_
  exact z_retRi E hr rfl hlocks dX7_counted_14
set_option maxHeartbeats 1000000 in
set_option maxRecDepth 100000 in
theorem mxX7_limit (lL : Launch) (hst0 : lL.stackTraces = false) (G : GG) (o : Nat → Nat) (ν σ : Int → Int) (π : Nat → Int → Int) (δ τ ω : Int → Int) (p : Int) (k : Int) (h : Int) (hI : In σ) (hp : -2147483648 ≤ p ∧ p < 2147483648) (hk : -2147483648 ≤ k ∧ k < 2147483648) (hh : h = 0 ∨ h = 1) (hbad : ¬ ((kxPK p k) = 0)) : vx_Met lL yX7_limit wsX7_limit ({ frames := 9, cells := 1, slots := 6, locals := 163 } : Room) (va_Pc [.ref (o 0), .int (iI p), .int (iI k), .int (iI h)] (fun U => QT G o ν σ π δ τ ω U.heap ∧ KK G U ∧ KX FF0 U U.heap)) (fun _ _ _ _ => False) (XCe (exq xA xI xI (kxPK p k))) 1 6 FF0 := by
  refine z_metX (P := (fun H : Heap => QT G o ν σ π δ τ ω H)) (by decide) rfl (Nat.le_of_ble_eq_true rfl) (fun pp ee ss mm below meth cC E hml hown hts hlocks htab hQ hK hX ls hl => ?_)
  have hl : lv_has ls 4 [(0, .ref (o 0)), (1, .int (iI p)), (2, .int (iI k)), (3, .int (iI h))] := hl
  have hcs : 0 ≤ (({ frames := 9, cells := 1, slots := 6, locals := 163 } : Room)).cells ∧ 0 ≤ (({ frames := 9, cells := 1, slots := 6, locals := 163 } : Room)).slots := ⟨Nat.zero_le _, Nat.zero_le _⟩
  have hin7 : ∀ w ∈ wsX70, w ∈ wsX7_limit := fun w h => List.mem_cons_of_mem _ (List.mem_append_left _ (List.mem_append_left _ (List.mem_append_left _ (List.mem_append_left _ (List.mem_append_right _ (h))))))
  have hF := hI.F
  have hMm := hI.M
  have hGn := hI.Gn
  have hTi := hI.ti
  have hGr := hI.gr
  refine lv_iload_n (pc := 0) E.1 E.2 dX7_limit_0 rfl (lv_at hl 1 rfl) ?_
  refine lv_iload_n (pc := 1) E.1 E.2 dX7_limit_1 rfl (lv_at hl 2 rfl) ?_
  by_cases hc2 : (0 ≤ p ∧ p ≤ 7) ∧ (0 ≤ k ∧ k ≤ 1)
  · refine z_rSv (pc := 2) (P := fun _ => True) (As := [.int (iI p), .int (iI k)]) (rest := []) E hml hown hts (mX7_needAccount lL G p k (by omega) (by omega) (by omega)) (va_cwS 2 hts gX7_limit_X7_needAccount rfl rfl rfl vdX7_needAccount.2 ⟨Nat.le_of_ble_eq_true rfl, Nat.le_of_ble_eq_true rfl⟩) trivial hK rfl hl.1 rfl dX7_limit_2 hcs (Nat.le_of_ble_eq_true rfl) ?_
    refine lv_aload_n (pc := 5) E.1 E.2 dX7_limit_5 rfl (lv_at hl 0 rfl) ?_
    refine g7_0 (pc := 6) E hts hin7 hown hK hQ.ob (hts _ (List.mem_of_getElem? (i := 1) rfl)) dX7_limit_6 ?_
    refine lv_iload_n (pc := 9) E.1 E.2 dX7_limit_9 rfl (lv_at hl 1 rfl) ?_
    refine lv_iload_n (pc := 10) E.1 E.2 dX7_limit_10 rfl (lv_at hl 2 rfl) ?_
    refine lv_iload_n (pc := 11) E.1 E.2 dX7_limit_11 rfl (lv_at hl 3 rfl) ?_
    refine z_rVi (pc := 12) (As := [.int (iI p), .int (iI k), .int (iI h)]) (rest := []) E hml hown hts (mX6_effectiveLimit lL G (fun k => o (1 + k)) σ p k h hI (by omega) (by omega) (by omega)) (cwV 3 hts gX7_limit_X6_effectiveLimit rfl rfl rfl vdX6_effectiveLimit ⟨Nat.le_of_ble_eq_true rfl, Nat.le_of_ble_eq_true rfl⟩) (oB.recv hK hQ.nob rfl) hQ.now hK rfl hl.1 rfl dX7_limit_12 hcs (Nat.le_of_ble_eq_true rfl) ?_
    exact absurd (show (kxPK p k) = 0 by (unfold kxPK; (repeat' split) <;> first | rfl | omega | (exfalso; omega) | contradiction | grind)) hbad
  exact z_badS (pc := 2) (P := fun _ => True) (As := [.int (iI p), .int (iI k)]) (rest := []) E hml hown hts (mxX7_needAccount lL hst0 G p k (by omega) (by omega) hc2) (va_cwS 2 hts gX7_limit_X7_needAccount rfl rfl rfl vdX7_needAccount.2 ⟨Nat.le_of_ble_eq_true rfl, Nat.le_of_ble_eq_true rfl⟩) trivial hK hX rfl hl.1 rfl dX7_limit_2 ⟨Nat.le_of_ble_eq_true rfl, Nat.le_of_ble_eq_true rfl⟩ (Nat.le_of_ble_eq_true rfl) (by rw [show (kxPK p k) = 1 by (unfold kxPK; (repeat' split) <;> first | rfl | omega | (exfalso; omega) | contradiction | grind)]; rfl) htab hlocks
set_option maxHeartbeats 1000000 in
set_option maxRecDepth 100000 in
theorem mX7_limit (lL : Launch) (G : GG) (o : Nat → Nat) (ν σ : Int → Int) (π : Nat → Int → Int) (δ τ ω : Int → Int) (p : Int) (k : Int) (h : Int) (hI : In σ) (hp : -2147483648 ≤ p ∧ p < 2147483648) (hk : -2147483648 ≤ k ∧ k < 2147483648) (hh : h = 0 ∨ h = 1) (hok : (kxPK p k) = 0) : Met lL yX7_limit wsX7_limit ({ frames := 3, cells := 0, slots := 0, locals := 65 } : Room) (va_Pc [.ref (o 0), .int (iI p), .int (iI k), .int (iI h)] (fun U => QT G o ν σ π δ τ ω U.heap ∧ KK G U)) (vp_Si (fun r => r = (iI (lmS σ (if h = 0 then 5 else 21) p k)))) 0 0 (fun _ => False) := by
  refine z_met (P := (fun H : Heap => QT G o ν σ π δ τ ω H)) (by decide) rfl (Nat.le_of_ble_eq_true rfl) (fun pp ee ss mm below meth cC E hr hml hown hts hlocks hQ hK ls hl => ?_)
  have hl : lv_has ls 4 [(0, .ref (o 0)), (1, .int (iI p)), (2, .int (iI k)), (3, .int (iI h))] := hl
  have hcs : 0 ≤ (({ frames := 3, cells := 0, slots := 0, locals := 65 } : Room)).cells ∧ 0 ≤ (({ frames := 3, cells := 0, slots := 0, locals := 65 } : Room)).slots := ⟨Nat.zero_le _, Nat.zero_le _⟩
  have hin7 : ∀ w ∈ wsX70, w ∈ wsX7_limit := fun w h => List.mem_cons_of_mem _ (List.mem_append_left _ (List.mem_append_left _ (List.mem_append_left _ (List.mem_append_left _ (List.mem_append_right _ (h))))))
  have hF := hI.F
  have hMm := hI.M
  have hGn := hI.Gn
  have hTi := hI.ti
  have hGr := hI.gr
  have hoc := kxPK_ok hok
  refine lv_iload_n (pc := 0) E.1 E.2 dX7_limit_0 rfl (lv_at hl 1 rfl) ?_
  refine lv_iload_n (pc := 1) E.1 E.2 dX7_limit_1 rfl (lv_at hl 2 rfl) ?_
  refine z_rSv (pc := 2) (P := fun _ => True) (As := [.int (iI p), .int (iI k)]) (rest := []) E hml hown hts (mX7_needAccount lL G p k (by omega) (by omega) (by omega)) (va_cwS 2 hts gX7_limit_X7_needAccount rfl rfl rfl vdX7_needAccount.2 ⟨Nat.le_of_ble_eq_true rfl, Nat.le_of_ble_eq_true rfl⟩) trivial hK rfl hl.1 rfl dX7_limit_2 hcs (Nat.le_of_ble_eq_true rfl) ?_
  refine lv_aload_n (pc := 5) E.1 E.2 dX7_limit_5 rfl (lv_at hl 0 rfl) ?_
  refine g7_0 (pc := 6) E hts hin7 hown hK hQ.ob (hts _ (List.mem_of_getElem? (i := 1) rfl)) dX7_limit_6 ?_
  refine lv_iload_n (pc := 9) E.1 E.2 dX7_limit_9 rfl (lv_at hl 1 rfl) ?_
  refine lv_iload_n (pc := 10) E.1 E.2 dX7_limit_10 rfl (lv_at hl 2 rfl) ?_
  refine lv_iload_n (pc := 11) E.1 E.2 dX7_limit_11 rfl (lv_at hl 3 rfl) ?_
  refine z_rVi (pc := 12) (As := [.int (iI p), .int (iI k), .int (iI h)]) (rest := []) E hml hown hts (mX6_effectiveLimit lL G (fun k => o (1 + k)) σ p k h hI (by omega) (by omega) (by omega)) (cwV 3 hts gX7_limit_X6_effectiveLimit rfl rfl rfl vdX6_effectiveLimit ⟨Nat.le_of_ble_eq_true rfl, Nat.le_of_ble_eq_true rfl⟩) (oB.recv hK hQ.nob rfl) hQ.now hK rfl hl.1 rfl dX7_limit_12 hcs (Nat.le_of_ble_eq_true rfl) ?_
  exact z_retRi E hr rfl hlocks dX7_limit_15
set_option maxHeartbeats 1000000 in
set_option maxRecDepth 100000 in
theorem mxX7_state (lL : Launch) (hst0 : lL.stackTraces = false) (G : GG) (o : Nat → Nat) (ν σ : Int → Int) (π : Nat → Int → Int) (δ τ ω : Int → Int) (p : Int) (k : Int) (hI : In σ) (hp : -2147483648 ≤ p ∧ p < 2147483648) (hk : -2147483648 ≤ k ∧ k < 2147483648) (hbad : ¬ ((kxPK p k) = 0)) : vx_Met lL yX7_state wsX7_state ({ frames := 9, cells := 1, slots := 6, locals := 163 } : Room) (va_Pc [.ref (o 0), .int (iI p), .int (iI k)] (fun U => QT G o ν σ π δ τ ω U.heap ∧ KK G U ∧ KX FF0 U U.heap)) (fun _ _ _ _ => False) (XCe (exq xA xI xI (kxPK p k))) 1 6 FF0 := by
  refine z_metX (P := (fun H : Heap => QT G o ν σ π δ τ ω H)) (by decide) rfl (Nat.le_of_ble_eq_true rfl) (fun pp ee ss mm below meth cC E hml hown hts hlocks htab hQ hK hX ls hl => ?_)
  have hl : lv_has ls 3 [(0, .ref (o 0)), (1, .int (iI p)), (2, .int (iI k))] := hl
  have hcs : 0 ≤ (({ frames := 9, cells := 1, slots := 6, locals := 163 } : Room)).cells ∧ 0 ≤ (({ frames := 9, cells := 1, slots := 6, locals := 163 } : Room)).slots := ⟨Nat.zero_le _, Nat.zero_le _⟩
  have hin7 : ∀ w ∈ wsX70, w ∈ wsX7_state := fun w h => List.mem_cons_of_mem _ (List.mem_append_left _ (List.mem_append_left _ (List.mem_append_left _ (List.mem_append_left _ (List.mem_append_right _ (h))))))
  have hF := hI.F
  have hMm := hI.M
  have hGn := hI.Gn
  have hTi := hI.ti
  have hGr := hI.gr
  refine lv_iload_n (pc := 0) E.1 E.2 dX7_state_0 rfl (lv_at hl 1 rfl) ?_
  refine lv_iload_n (pc := 1) E.1 E.2 dX7_state_1 rfl (lv_at hl 2 rfl) ?_
  by_cases hc2 : (0 ≤ p ∧ p ≤ 7) ∧ (0 ≤ k ∧ k ≤ 1)
  · refine z_rSv (pc := 2) (P := fun _ => True) (As := [.int (iI p), .int (iI k)]) (rest := []) E hml hown hts (mX7_needAccount lL G p k (by omega) (by omega) (by omega)) (va_cwS 2 hts gX7_state_X7_needAccount rfl rfl rfl vdX7_needAccount.2 ⟨Nat.le_of_ble_eq_true rfl, Nat.le_of_ble_eq_true rfl⟩) trivial hK rfl hl.1 rfl dX7_state_2 hcs (Nat.le_of_ble_eq_true rfl) ?_
    refine lv_aload_n (pc := 5) E.1 E.2 dX7_state_5 rfl (lv_at hl 0 rfl) ?_
    refine g7_0 (pc := 6) E hts hin7 hown hK hQ.ob (hts _ (List.mem_of_getElem? (i := 1) rfl)) dX7_state_6 ?_
    refine lv_iload_n (pc := 9) E.1 E.2 dX7_state_9 rfl (lv_at hl 1 rfl) ?_
    refine lv_iload_n (pc := 10) E.1 E.2 dX7_state_10 rfl (lv_at hl 2 rfl) ?_
    refine z_rVi (pc := 11) (As := [.int (iI p), .int (iI k)]) (rest := []) E hml hown hts (mX6_stateOf lL G (fun k => o (1 + k)) σ p k hI (by omega) (by omega)) (cwV 2 hts gX7_state_X6_stateOf rfl rfl rfl vdX6_stateOf ⟨Nat.le_of_ble_eq_true rfl, Nat.le_of_ble_eq_true rfl⟩) (oB.recv hK hQ.nob rfl) hQ.now hK rfl hl.1 rfl dX7_state_11 hcs (Nat.le_of_ble_eq_true rfl) ?_
    exact absurd (show (kxPK p k) = 0 by (unfold kxPK; (repeat' split) <;> first | rfl | omega | (exfalso; omega) | contradiction | grind)) hbad
  exact z_badS (pc := 2) (P := fun _ => True) (As := [.int (iI p), .int (iI k)]) (rest := []) E hml hown hts (mxX7_needAccount lL hst0 G p k (by omega) (by omega) hc2) (va_cwS 2 hts gX7_state_X7_needAccount rfl rfl rfl vdX7_needAccount.2 ⟨Nat.le_of_ble_eq_true rfl, Nat.le_of_ble_eq_true rfl⟩) trivial hK hX rfl hl.1 rfl dX7_state_2 ⟨Nat.le_of_ble_eq_true rfl, Nat.le_of_ble_eq_true rfl⟩ (Nat.le_of_ble_eq_true rfl) (by rw [show (kxPK p k) = 1 by (unfold kxPK; (repeat' split) <;> first | rfl | omega | (exfalso; omega) | contradiction | grind)]; rfl) htab hlocks
set_option maxHeartbeats 1000000 in
set_option maxRecDepth 100000 in
theorem mX7_state (lL : Launch) (G : GG) (o : Nat → Nat) (ν σ : Int → Int) (π : Nat → Int → Int) (δ τ ω : Int → Int) (p : Int) (k : Int) (hI : In σ) (hp : -2147483648 ≤ p ∧ p < 2147483648) (hk : -2147483648 ≤ k ∧ k < 2147483648) (hok : (kxPK p k) = 0) : Met lL yX7_state wsX7_state ({ frames := 4, cells := 0, slots := 0, locals := 112 } : Room) (va_Pc [.ref (o 0), .int (iI p), .int (iI k)] (fun U => QT G o ν σ π δ τ ω U.heap ∧ KK G U)) (vp_Si (fun r => r = (iI (stS σ p k)))) 0 0 (fun _ => False) := by
  refine z_met (P := (fun H : Heap => QT G o ν σ π δ τ ω H)) (by decide) rfl (Nat.le_of_ble_eq_true rfl) (fun pp ee ss mm below meth cC E hr hml hown hts hlocks hQ hK ls hl => ?_)
  have hl : lv_has ls 3 [(0, .ref (o 0)), (1, .int (iI p)), (2, .int (iI k))] := hl
  have hcs : 0 ≤ (({ frames := 4, cells := 0, slots := 0, locals := 112 } : Room)).cells ∧ 0 ≤ (({ frames := 4, cells := 0, slots := 0, locals := 112 } : Room)).slots := ⟨Nat.zero_le _, Nat.zero_le _⟩
  have hin7 : ∀ w ∈ wsX70, w ∈ wsX7_state := fun w h => List.mem_cons_of_mem _ (List.mem_append_left _ (List.mem_append_left _ (List.mem_append_left _ (List.mem_append_left _ (List.mem_append_right _ (h))))))
  have hF := hI.F
  have hMm := hI.M
  have hGn := hI.Gn
  have hTi := hI.ti
  have hGr := hI.gr
  have hoc := kxPK_ok hok
  refine lv_iload_n (pc := 0) E.1 E.2 dX7_state_0 rfl (lv_at hl 1 rfl) ?_
  refine lv_iload_n (pc := 1) E.1 E.2 dX7_state_1 rfl (lv_at hl 2 rfl) ?_
  refine z_rSv (pc := 2) (P := fun _ => True) (As := [.int (iI p), .int (iI k)]) (rest := []) E hml hown hts (mX7_needAccount lL G p k (by omega) (by omega) (by omega)) (va_cwS 2 hts gX7_state_X7_needAccount rfl rfl rfl vdX7_needAccount.2 ⟨Nat.le_of_ble_eq_true rfl, Nat.le_of_ble_eq_true rfl⟩) trivial hK rfl hl.1 rfl dX7_state_2 hcs (Nat.le_of_ble_eq_true rfl) ?_
  refine lv_aload_n (pc := 5) E.1 E.2 dX7_state_5 rfl (lv_at hl 0 rfl) ?_
  refine g7_0 (pc := 6) E hts hin7 hown hK hQ.ob (hts _ (List.mem_of_getElem? (i := 1) rfl)) dX7_state_6 ?_
  refine lv_iload_n (pc := 9) E.1 E.2 dX7_state_9 rfl (lv_at hl 1 rfl) ?_
  refine lv_iload_n (pc := 10) E.1 E.2 dX7_state_10 rfl (lv_at hl 2 rfl) ?_
  refine z_rVi (pc := 11) (As := [.int (iI p), .int (iI k)]) (rest := []) E hml hown hts (mX6_stateOf lL G (fun k => o (1 + k)) σ p k hI (by omega) (by omega)) (cwV 2 hts gX7_state_X6_stateOf rfl rfl rfl vdX6_stateOf ⟨Nat.le_of_ble_eq_true rfl, Nat.le_of_ble_eq_true rfl⟩) (oB.recv hK hQ.nob rfl) hQ.now hK rfl hl.1 rfl dX7_state_11 hcs (Nat.le_of_ble_eq_true rfl) ?_
  exact z_retRi E hr rfl hlocks dX7_state_14
set_option maxHeartbeats 1000000 in
set_option maxRecDepth 100000 in
theorem mxX7_graceLeft (lL : Launch) (hst0 : lL.stackTraces = false) (G : GG) (o : Nat → Nat) (ν σ : Int → Int) (π : Nat → Int → Int) (δ τ ω : Int → Int) (p : Int) (k : Int) (hI : In σ) (hp : -2147483648 ≤ p ∧ p < 2147483648) (hk : -2147483648 ≤ k ∧ k < 2147483648) (hbad : ¬ ((kxPK p k) = 0)) : vx_Met lL yX7_graceLeft wsX7_graceLeft ({ frames := 9, cells := 1, slots := 6, locals := 163 } : Room) (va_Pc [.ref (o 0), .int (iI p), .int (iI k)] (fun U => QT G o ν σ π δ τ ω U.heap ∧ KK G U ∧ KX FF0 U U.heap)) (fun _ _ _ _ => False) (XCe (exq xA xI xI (kxPK p k))) 1 6 FF0 := by
  refine z_metX (P := (fun H : Heap => QT G o ν σ π δ τ ω H)) (by decide) rfl (Nat.le_of_ble_eq_true rfl) (fun pp ee ss mm below meth cC E hml hown hts hlocks htab hQ hK hX ls hl => ?_)
  have hl : lv_has ls 4 [(0, .ref (o 0)), (1, .int (iI p)), (2, .int (iI k))] := hl
  have hcs : 0 ≤ (({ frames := 9, cells := 1, slots := 6, locals := 163 } : Room)).cells ∧ 0 ≤ (({ frames := 9, cells := 1, slots := 6, locals := 163 } : Room)).slots := ⟨Nat.zero_le _, Nat.zero_le _⟩
  have hin6 : ∀ w ∈ wsX60, w ∈ wsX7_graceLeft := fun w h => List.mem_cons_of_mem _ (List.mem_append_left _ (List.mem_append_left _ (List.mem_append_right _ (h))))
  have hin7 : ∀ w ∈ wsX70, w ∈ wsX7_graceLeft := fun w h => List.mem_cons_of_mem _ (List.mem_append_left _ (List.mem_append_left _ (List.mem_append_left _ (List.mem_append_right _ (h)))))
  have hF := hI.F
  have hMm := hI.M
  have hGn := hI.Gn
  have hTi := hI.ti
  have hGr := hI.gr
  refine lv_iload_n (pc := 0) E.1 E.2 dX7_graceLeft_0 rfl (lv_at hl 1 rfl) ?_
  refine lv_iload_n (pc := 1) E.1 E.2 dX7_graceLeft_1 rfl (lv_at hl 2 rfl) ?_
  by_cases hc2 : (0 ≤ p ∧ p ≤ 7) ∧ (0 ≤ k ∧ k ≤ 1)
  · refine z_rSv (pc := 2) (P := fun _ => True) (As := [.int (iI p), .int (iI k)]) (rest := []) E hml hown hts (mX7_needAccount lL G p k (by omega) (by omega) (by omega)) (va_cwS 2 hts gX7_graceLeft_X7_needAccount rfl rfl rfl vdX7_needAccount.2 ⟨Nat.le_of_ble_eq_true rfl, Nat.le_of_ble_eq_true rfl⟩) trivial hK rfl hl.1 rfl dX7_graceLeft_2 hcs (Nat.le_of_ble_eq_true rfl) ?_
    refine lv_aload_n (pc := 5) E.1 E.2 dX7_graceLeft_5 rfl (lv_at hl 0 rfl) ?_
    refine g7_0 (pc := 6) E hts hin7 hown hK hQ.ob (hts _ (List.mem_of_getElem? (i := 1) rfl)) dX7_graceLeft_6 ?_
    refine lv_iload_n (pc := 9) E.1 E.2 dX7_graceLeft_9 rfl (lv_at hl 1 rfl) ?_
    refine lv_iload_n (pc := 10) E.1 E.2 dX7_graceLeft_10 rfl (lv_at hl 2 rfl) ?_
    refine z_rVi (pc := 11) (As := [.int (iI p), .int (iI k)]) (rest := []) E hml hown hts (mX6_graceEnd lL G (fun k => o (1 + k)) σ p k hI (by omega) (by omega)) (cwV 2 hts gX7_graceLeft_X6_graceEnd rfl rfl rfl vdX6_graceEnd ⟨Nat.le_of_ble_eq_true rfl, Nat.le_of_ble_eq_true rfl⟩) (oB.recv hK hQ.nob rfl) hQ.now hK rfl hl.1 rfl dX7_graceLeft_11 hcs (Nat.le_of_ble_eq_true rfl) ?_
    have hge := geS_b hI (p := p) (k := k) (by omega) (by omega)
    have hac := hI.acc (k := 2 * p + k) (by omega) (by omega)
    refine lv_istore_n (pc := 14) (lv' := [(3, .int (iI (geS σ p k))), (0, .ref (o 0)), (1, .int (iI p)), (2, .int (iI k))]) E.1 E.2 dX7_graceLeft_14 rfl hl (by decide) rfl (fun ls hl => ?_)
    refine lv_iload_n (pc := 15) E.1 E.2 dX7_graceLeft_15 rfl (lv_at hl 0 rfl) ?_
    refine z_iconst (pc := 16) E dX7_graceLeft_16 ?_
    refine z_icmp_ne (pc := 17) (tgt := 24) E ⟨by omega, by omega⟩ (by decide) dX7_graceLeft_17 (by decide) (fun h17 => ?_) (fun h17 => ?_)
    · refine lv_iload_n (pc := 24) E.1 E.2 dX7_graceLeft_24 rfl (lv_at hl 0 rfl) ?_
      refine lv_aload_n (pc := 25) E.1 E.2 dX7_graceLeft_25 rfl (lv_at hl 1 rfl) ?_
      refine g7_0 (pc := 26) E hts hin7 hown hK hQ.ob (hts _ (List.mem_of_getElem? (i := 1) rfl)) dX7_graceLeft_26 ?_
      refine g6_4 (pc := 29) E hts hin6 hown hK hQ.nob (hts _ (List.mem_of_getElem? (i := 2) rfl)) dX7_graceLeft_29 ?_
      refine z_isub (pc := 32) E dX7_graceLeft_32 ?_
      refine z_iconst (pc := 33) E dX7_graceLeft_33 ?_
      refine z_mmax (pc := 34) (rest := []) E (hml.trans hl.1.symm) hown (hts _ (List.mem_of_getElem? (i := 3) rfl)) (hts _ (List.mem_of_getElem? (i := 4) rfl)) (hts _ (List.mem_of_getElem? (i := 5) rfl)) (hts _ (List.mem_of_getElem? (i := 6) rfl)) (Nat.le_of_ble_eq_true rfl) (Nat.le_of_ble_eq_true rfl) hcs ⟨by omega, by omega⟩ (by decide) dX7_graceLeft_34 ?_
      exact absurd (show (kxPK p k) = 0 by (unfold kxPK; (repeat' split) <;> first | rfl | omega | (exfalso; omega) | contradiction | grind)) hbad
    · refine z_iconst (pc := 20) E dX7_graceLeft_20 ?_
      refine lv_goto (pc := 21) (tgt := 37) E.1 E.2 dX7_graceLeft_21 (by decide) ?_
      exact absurd (show (kxPK p k) = 0 by (unfold kxPK; (repeat' split) <;> first | rfl | omega | (exfalso; omega) | contradiction | grind)) hbad
  exact z_badS (pc := 2) (P := fun _ => True) (As := [.int (iI p), .int (iI k)]) (rest := []) E hml hown hts (mxX7_needAccount lL hst0 G p k (by omega) (by omega) hc2) (va_cwS 2 hts gX7_graceLeft_X7_needAccount rfl rfl rfl vdX7_needAccount.2 ⟨Nat.le_of_ble_eq_true rfl, Nat.le_of_ble_eq_true rfl⟩) trivial hK hX rfl hl.1 rfl dX7_graceLeft_2 ⟨Nat.le_of_ble_eq_true rfl, Nat.le_of_ble_eq_true rfl⟩ (Nat.le_of_ble_eq_true rfl) (by rw [show (kxPK p k) = 1 by (unfold kxPK; (repeat' split) <;> first | rfl | omega | (exfalso; omega) | contradiction | grind)]; rfl) htab hlocks
set_option maxHeartbeats 1000000 in
set_option maxRecDepth 100000 in
theorem mX7_graceLeft (lL : Launch) (G : GG) (o : Nat → Nat) (ν σ : Int → Int) (π : Nat → Int → Int) (δ τ ω : Int → Int) (p : Int) (k : Int) (hI : In σ) (hp : -2147483648 ≤ p ∧ p < 2147483648) (hk : -2147483648 ≤ k ∧ k < 2147483648) (hok : (kxPK p k) = 0) : Met lL yX7_graceLeft wsX7_graceLeft ({ frames := 3, cells := 0, slots := 0, locals := 63 } : Room) (va_Pc [.ref (o 0), .int (iI p), .int (iI k)] (fun U => QT G o ν σ π δ τ ω U.heap ∧ KK G U)) (vp_Si (fun r => r = (iI (axGrace σ p k)))) 0 0 (fun _ => False) := by
  refine z_met (P := (fun H : Heap => QT G o ν σ π δ τ ω H)) (by decide) rfl (Nat.le_of_ble_eq_true rfl) (fun pp ee ss mm below meth cC E hr hml hown hts hlocks hQ hK ls hl => ?_)
  have hl : lv_has ls 4 [(0, .ref (o 0)), (1, .int (iI p)), (2, .int (iI k))] := hl
  have hcs : 0 ≤ (({ frames := 3, cells := 0, slots := 0, locals := 63 } : Room)).cells ∧ 0 ≤ (({ frames := 3, cells := 0, slots := 0, locals := 63 } : Room)).slots := ⟨Nat.zero_le _, Nat.zero_le _⟩
  have hin6 : ∀ w ∈ wsX60, w ∈ wsX7_graceLeft := fun w h => List.mem_cons_of_mem _ (List.mem_append_left _ (List.mem_append_left _ (List.mem_append_right _ (h))))
  have hin7 : ∀ w ∈ wsX70, w ∈ wsX7_graceLeft := fun w h => List.mem_cons_of_mem _ (List.mem_append_left _ (List.mem_append_left _ (List.mem_append_left _ (List.mem_append_right _ (h)))))
  have hF := hI.F
  have hMm := hI.M
  have hGn := hI.Gn
  have hTi := hI.ti
  have hGr := hI.gr
  have hoc := kxPK_ok hok
  refine lv_iload_n (pc := 0) E.1 E.2 dX7_graceLeft_0 rfl (lv_at hl 1 rfl) ?_
  refine lv_iload_n (pc := 1) E.1 E.2 dX7_graceLeft_1 rfl (lv_at hl 2 rfl) ?_
  refine z_rSv (pc := 2) (P := fun _ => True) (As := [.int (iI p), .int (iI k)]) (rest := []) E hml hown hts (mX7_needAccount lL G p k (by omega) (by omega) (by omega)) (va_cwS 2 hts gX7_graceLeft_X7_needAccount rfl rfl rfl vdX7_needAccount.2 ⟨Nat.le_of_ble_eq_true rfl, Nat.le_of_ble_eq_true rfl⟩) trivial hK rfl hl.1 rfl dX7_graceLeft_2 hcs (Nat.le_of_ble_eq_true rfl) ?_
  refine lv_aload_n (pc := 5) E.1 E.2 dX7_graceLeft_5 rfl (lv_at hl 0 rfl) ?_
  refine g7_0 (pc := 6) E hts hin7 hown hK hQ.ob (hts _ (List.mem_of_getElem? (i := 1) rfl)) dX7_graceLeft_6 ?_
  refine lv_iload_n (pc := 9) E.1 E.2 dX7_graceLeft_9 rfl (lv_at hl 1 rfl) ?_
  refine lv_iload_n (pc := 10) E.1 E.2 dX7_graceLeft_10 rfl (lv_at hl 2 rfl) ?_
  refine z_rVi (pc := 11) (As := [.int (iI p), .int (iI k)]) (rest := []) E hml hown hts (mX6_graceEnd lL G (fun k => o (1 + k)) σ p k hI (by omega) (by omega)) (cwV 2 hts gX7_graceLeft_X6_graceEnd rfl rfl rfl vdX6_graceEnd ⟨Nat.le_of_ble_eq_true rfl, Nat.le_of_ble_eq_true rfl⟩) (oB.recv hK hQ.nob rfl) hQ.now hK rfl hl.1 rfl dX7_graceLeft_11 hcs (Nat.le_of_ble_eq_true rfl) ?_
  have hge := geS_b hI (p := p) (k := k) (by omega) (by omega)
  have hac := hI.acc (k := 2 * p + k) (by omega) (by omega)
  refine lv_istore_n (pc := 14) (lv' := [(3, .int (iI (geS σ p k))), (0, .ref (o 0)), (1, .int (iI p)), (2, .int (iI k))]) E.1 E.2 dX7_graceLeft_14 rfl hl (by decide) rfl (fun ls hl => ?_)
  refine lv_iload_n (pc := 15) E.1 E.2 dX7_graceLeft_15 rfl (lv_at hl 0 rfl) ?_
  refine z_iconst (pc := 16) E dX7_graceLeft_16 ?_
  refine z_icmp_ne (pc := 17) (tgt := 24) E ⟨by omega, by omega⟩ (by decide) dX7_graceLeft_17 (by decide) (fun h17 => ?_) (fun h17 => ?_)
  · refine lv_iload_n (pc := 24) E.1 E.2 dX7_graceLeft_24 rfl (lv_at hl 0 rfl) ?_
    refine lv_aload_n (pc := 25) E.1 E.2 dX7_graceLeft_25 rfl (lv_at hl 1 rfl) ?_
    refine g7_0 (pc := 26) E hts hin7 hown hK hQ.ob (hts _ (List.mem_of_getElem? (i := 1) rfl)) dX7_graceLeft_26 ?_
    refine g6_4 (pc := 29) E hts hin6 hown hK hQ.nob (hts _ (List.mem_of_getElem? (i := 2) rfl)) dX7_graceLeft_29 ?_
    refine z_isub (pc := 32) E dX7_graceLeft_32 ?_
    refine z_iconst (pc := 33) E dX7_graceLeft_33 ?_
    refine z_mmax (pc := 34) (rest := []) E (hml.trans hl.1.symm) hown (hts _ (List.mem_of_getElem? (i := 3) rfl)) (hts _ (List.mem_of_getElem? (i := 4) rfl)) (hts _ (List.mem_of_getElem? (i := 5) rfl)) (hts _ (List.mem_of_getElem? (i := 6) rfl)) (Nat.le_of_ble_eq_true rfl) (Nat.le_of_ble_eq_true rfl) hcs ⟨by omega, by omega⟩ (by decide) dX7_graceLeft_34 ?_
    exact z_retRi E hr (congrArg iI (by (unfold axGrace; first | exact (if_pos (geS_i hI (by omega) (by omega) (by omega))).symm | (rw [if_neg (geS_j hI (by omega) (by omega) (by omega)), geS_k (geS_j hI (by omega) (by omega) (by omega))]; omega)))) hlocks dX7_graceLeft_37
  · refine z_iconst (pc := 20) E dX7_graceLeft_20 ?_
    refine lv_goto (pc := 21) (tgt := 37) E.1 E.2 dX7_graceLeft_21 (by decide) ?_
    exact z_retRi E hr (congrArg iI (by (unfold axGrace; first | exact (if_pos (geS_i hI (by omega) (by omega) (by omega))).symm | (rw [if_neg (geS_j hI (by omega) (by omega) (by omega)), geS_k (geS_j hI (by omega) (by omega) (by omega))]; omega)))) hlocks dX7_graceLeft_37
set_option maxHeartbeats 1000000 in
set_option maxRecDepth 100000 in
theorem mxX7_giftOf (lL : Launch) (hst0 : lL.stackTraces = false) (G : GG) (o : Nat → Nat) (ν σ : Int → Int) (π : Nat → Int → Int) (δ τ ω : Int → Int) (g : Int) (w : Int) (hI : In σ) (hg : -2147483648 ≤ g ∧ g < 2147483648) (hw : -2147483648 ≤ w ∧ w < 2147483648) (hbad : ¬ ((kxGiftO σ g w) = 0)) : vx_Met lL yX7_giftOf wsX7_giftOf ({ frames := 7, cells := 1, slots := 6, locals := 121 } : Room) (va_Pc [.ref (o 0), .int (iI g), .int (iI w)] (fun U => QT G o ν σ π δ τ ω U.heap ∧ KK G U ∧ KX FF0 U U.heap)) (fun _ _ _ _ => False) (XCe (exq xI xA xI (kxGiftO σ g w))) 1 6 FF0 := by
  refine z_metX (P := (fun H : Heap => QT G o ν σ π δ τ ω H)) (by decide) rfl (Nat.le_of_ble_eq_true rfl) (fun pp ee ss mm below meth cC E hml hown hts hlocks htab hQ hK hX ls hl => ?_)
  have hl : lv_has ls 3 [(0, .ref (o 0)), (1, .int (iI g)), (2, .int (iI w))] := hl
  have hcs : 0 ≤ (({ frames := 7, cells := 1, slots := 6, locals := 121 } : Room)).cells ∧ 0 ≤ (({ frames := 7, cells := 1, slots := 6, locals := 121 } : Room)).slots := ⟨Nat.zero_le _, Nat.zero_le _⟩
  have hin6 : ∀ w ∈ wsX60, w ∈ wsX7_giftOf := fun w h => List.mem_cons_of_mem _ (List.mem_append_left _ (List.mem_append_left _ (List.mem_append_left _ (List.mem_append_right _ (h)))))
  have hin7 : ∀ w ∈ wsX70, w ∈ wsX7_giftOf := fun w h => List.mem_cons_of_mem _ (List.mem_append_left _ (List.mem_append_left _ (List.mem_append_left _ (List.mem_append_left _ (List.mem_append_right _ (h))))))
  have hF := hI.F
  have hMm := hI.M
  have hGn := hI.Gn
  have hTi := hI.ti
  have hGr := hI.gr
  refine lv_aload_n (pc := 0) E.1 E.2 dX7_giftOf_0 rfl (lv_at hl 0 rfl) ?_
  refine lv_iload_n (pc := 1) E.1 E.2 dX7_giftOf_1 rfl (lv_at hl 1 rfl) ?_
  by_cases hc2 : 0 ≤ g ∧ g < σ 4
  · refine z_rVv (pc := 2) (As := [.int (iI g)]) (rest := []) E hml hown hts (mX7_needGift lL G o ν σ π δ τ ω g hI (by omega) (by omega)) (cwV 1 hts gX7_giftOf_X7_needGift rfl rfl rfl vdX7_needGift ⟨Nat.le_of_ble_eq_true rfl, Nat.le_of_ble_eq_true rfl⟩) (oB.recv hK hQ.ob rfl) hQ hK rfl hl.1 rfl dX7_giftOf_2 hcs (Nat.le_of_ble_eq_true rfl) ?_
    refine lv_iload_n (pc := 5) E.1 E.2 dX7_giftOf_5 rfl (lv_at hl 2 rfl) ?_
    by_cases hs6_0 : w = 0
    · refine z_tabIn (pc := 6) (k := 0) (tgt := 36) E hs6_0 (by decide) (by decide) (by decide) dX7_giftOf_6 rfl (by decide) ?_
      refine lv_aload_n (pc := 36) E.1 E.2 dX7_giftOf_36 rfl (lv_at hl 0 rfl) ?_
      refine g7_0 (pc := 37) E hts hin7 hown hK hQ.ob (hts _ (List.mem_of_getElem? (i := 3) rfl)) dX7_giftOf_37 ?_
      refine g6_3 (pc := 40) E hts hin6 hown hK hQ.nob (hts _ (List.mem_of_getElem? (i := 4) rfl)) dX7_giftOf_40 ?_
      refine lv_iload_n (pc := 43) E.1 E.2 dX7_giftOf_43 rfl (lv_at hl 1 rfl) ?_
      refine z_rVi (pc := 44) (As := [.int (iI g)]) (rest := []) E hml hown hts (mX4_giverOf lL G (fun k => o (1 + (13 + k))) σ g hI (by omega)) (cwV 1 hts gX7_giftOf_X4_giverOf rfl rfl rfl vdX4_giverOf ⟨Nat.le_of_ble_eq_true rfl, Nat.le_of_ble_eq_true rfl⟩) (oB.recv hK hQ.gio rfl) hQ.now.gi hK rfl hl.1 rfl dX7_giftOf_44 hcs (Nat.le_of_ble_eq_true rfl) ?_
      rw [show (if 0 ≤ g ∧ g < σ 4 then σ (309 + 4 * g) else -1) = (σ (309 + 4 * g)) from (if_pos (by omega))]
      exact absurd (show (kxGiftO σ g w) = 0 by (unfold kxGiftO; (repeat' split) <;> first | rfl | omega | (exfalso; omega) | contradiction | grind)) hbad
    by_cases hs6_1 : w = 1
    · refine z_tabIn (pc := 6) (k := 1) (tgt := 48) E hs6_1 (by decide) (by decide) (by decide) dX7_giftOf_6 rfl (by decide) ?_
      refine lv_aload_n (pc := 48) E.1 E.2 dX7_giftOf_48 rfl (lv_at hl 0 rfl) ?_
      refine g7_0 (pc := 49) E hts hin7 hown hK hQ.ob (hts _ (List.mem_of_getElem? (i := 3) rfl)) dX7_giftOf_49 ?_
      refine g6_3 (pc := 52) E hts hin6 hown hK hQ.nob (hts _ (List.mem_of_getElem? (i := 4) rfl)) dX7_giftOf_52 ?_
      refine lv_iload_n (pc := 55) E.1 E.2 dX7_giftOf_55 rfl (lv_at hl 1 rfl) ?_
      refine z_rVi (pc := 56) (As := [.int (iI g)]) (rest := []) E hml hown hts (mX4_getterOf lL G (fun k => o (1 + (13 + k))) σ g hI (by omega)) (cwV 1 hts gX7_giftOf_X4_getterOf rfl rfl rfl vdX4_getterOf ⟨Nat.le_of_ble_eq_true rfl, Nat.le_of_ble_eq_true rfl⟩) (oB.recv hK hQ.gio rfl) hQ.now.gi hK rfl hl.1 rfl dX7_giftOf_56 hcs (Nat.le_of_ble_eq_true rfl) ?_
      rw [show (if 0 ≤ g ∧ g < σ 4 then σ (309 + 4 * g + 1) else -1) = (σ (309 + 4 * g + 1)) from (if_pos (by omega))]
      exact absurd (show (kxGiftO σ g w) = 0 by (unfold kxGiftO; (repeat' split) <;> first | rfl | omega | (exfalso; omega) | contradiction | grind)) hbad
    by_cases hs6_2 : w = 2
    · refine z_tabIn (pc := 6) (k := 2) (tgt := 60) E hs6_2 (by decide) (by decide) (by decide) dX7_giftOf_6 rfl (by decide) ?_
      refine lv_aload_n (pc := 60) E.1 E.2 dX7_giftOf_60 rfl (lv_at hl 0 rfl) ?_
      refine g7_0 (pc := 61) E hts hin7 hown hK hQ.ob (hts _ (List.mem_of_getElem? (i := 3) rfl)) dX7_giftOf_61 ?_
      refine g6_3 (pc := 64) E hts hin6 hown hK hQ.nob (hts _ (List.mem_of_getElem? (i := 4) rfl)) dX7_giftOf_64 ?_
      refine lv_iload_n (pc := 67) E.1 E.2 dX7_giftOf_67 rfl (lv_at hl 1 rfl) ?_
      refine z_rVi (pc := 68) (As := [.int (iI g)]) (rest := []) E hml hown hts (mX4_blocksOf lL G (fun k => o (1 + (13 + k))) σ g hI (by omega)) (cwV 1 hts gX7_giftOf_X4_blocksOf rfl rfl rfl vdX4_blocksOf ⟨Nat.le_of_ble_eq_true rfl, Nat.le_of_ble_eq_true rfl⟩) (oB.recv hK hQ.gio rfl) hQ.now.gi hK rfl hl.1 rfl dX7_giftOf_68 hcs (Nat.le_of_ble_eq_true rfl) ?_
      rw [show (if 0 ≤ g ∧ g < σ 4 then σ (309 + 4 * g + 2) else 0) = (σ (309 + 4 * g + 2)) from (if_pos (by omega))]
      exact absurd (show (kxGiftO σ g w) = 0 by (unfold kxGiftO; (repeat' split) <;> first | rfl | omega | (exfalso; omega) | contradiction | grind)) hbad
    by_cases hs6_3 : w = 3
    · refine z_tabIn (pc := 6) (k := 3) (tgt := 72) E hs6_3 (by decide) (by decide) (by decide) dX7_giftOf_6 rfl (by decide) ?_
      refine lv_aload_n (pc := 72) E.1 E.2 dX7_giftOf_72 rfl (lv_at hl 0 rfl) ?_
      refine g7_0 (pc := 73) E hts hin7 hown hK hQ.ob (hts _ (List.mem_of_getElem? (i := 3) rfl)) dX7_giftOf_73 ?_
      refine g6_3 (pc := 76) E hts hin6 hown hK hQ.nob (hts _ (List.mem_of_getElem? (i := 4) rfl)) dX7_giftOf_76 ?_
      refine lv_iload_n (pc := 79) E.1 E.2 dX7_giftOf_79 rfl (lv_at hl 1 rfl) ?_
      refine z_rVi (pc := 80) (As := [.int (iI g)]) (rest := []) E hml hown hts (mX4_endOf lL G (fun k => o (1 + (13 + k))) σ g hI (by omega)) (cwV 1 hts gX7_giftOf_X4_endOf rfl rfl rfl vdX4_endOf ⟨Nat.le_of_ble_eq_true rfl, Nat.le_of_ble_eq_true rfl⟩) (oB.recv hK hQ.gio rfl) hQ.now.gi hK rfl hl.1 rfl dX7_giftOf_80 hcs (Nat.le_of_ble_eq_true rfl) ?_
      rw [show (if 0 ≤ g ∧ g < σ 4 then σ (309 + 4 * g + 3) else -1) = (σ (309 + 4 * g + 3)) from (if_pos (by omega))]
      exact absurd (show (kxGiftO σ g w) = 0 by (unfold kxGiftO; (repeat' split) <;> first | rfl | omega | (exfalso; omega) | contradiction | grind)) hbad
    refine z_tabOut (pc := 6) (tgt := 84) E ⟨by omega, by omega⟩ (by omega) dX7_giftOf_6 (by decide) ?_
    exact z_thrW_xA (pc := 84) (rest := []) (is := 364) (text := "no such number of a gift") E hst0 hown (hts _ (List.mem_of_getElem? (i := 1) rfl)) (hts _ (List.mem_of_getElem? (i := 2) rfl)) (fun w h => hts w (List.mem_cons_of_mem _ (List.mem_append_left _ (List.mem_append_right _ (h))))) hX (List.mem_of_getElem? (i := 16) rfl) (hl.1.trans hml.symm) dX7_giftOf_84 dX7_giftOf_87 dX7_giftOf_88 dX7_giftOf_91 dX7_giftOf_94 htab (Nat.le_of_ble_eq_true rfl) (Nat.le_of_ble_eq_true rfl) (Nat.le_of_ble_eq_true rfl) (Nat.le_of_ble_eq_true rfl) hlocks (by rw [show (kxGiftO σ g w) = 2 by (unfold kxGiftO; (repeat' split) <;> first | rfl | omega | (exfalso; omega) | contradiction | grind)]; rfl)
  exact z_badV (pc := 2) (As := [.int (iI g)]) (rest := []) E hml hown hts (mxX7_needGift lL hst0 G o ν σ π δ τ ω g hI (by omega) hc2) (cwV 1 hts gX7_giftOf_X7_needGift rfl rfl rfl vdX7_needGift ⟨Nat.le_of_ble_eq_true rfl, Nat.le_of_ble_eq_true rfl⟩) (oB.recv hK hQ.ob rfl) hQ hK hX rfl hl.1 rfl dX7_giftOf_2 ⟨Nat.le_of_ble_eq_true rfl, Nat.le_of_ble_eq_true rfl⟩ (Nat.le_of_ble_eq_true rfl) (by rw [show (kxGiftO σ g w) = 1 by (unfold kxGiftO; (repeat' split) <;> first | rfl | omega | (exfalso; omega) | contradiction | grind)]; rfl) htab hlocks
set_option maxHeartbeats 1000000 in
set_option maxRecDepth 100000 in
theorem mX7_giftOf (lL : Launch) (G : GG) (o : Nat → Nat) (ν σ : Int → Int) (π : Nat → Int → Int) (δ τ ω : Int → Int) (g : Int) (w : Int) (hI : In σ) (hg : -2147483648 ≤ g ∧ g < 2147483648) (hw : -2147483648 ≤ w ∧ w < 2147483648) (hok : (kxGiftO σ g w) = 0) : Met lL yX7_giftOf wsX7_giftOf ({ frames := 2, cells := 0, slots := 0, locals := 42 } : Room) (va_Pc [.ref (o 0), .int (iI g), .int (iI w)] (fun U => QT G o ν σ π δ τ ω U.heap ∧ KK G U)) (vp_Si (fun r => r = (iI (σ (309 + 4 * g + w))))) 0 0 (fun _ => False) := by
  refine z_met (P := (fun H : Heap => QT G o ν σ π δ τ ω H)) (by decide) rfl (Nat.le_of_ble_eq_true rfl) (fun pp ee ss mm below meth cC E hr hml hown hts hlocks hQ hK ls hl => ?_)
  have hl : lv_has ls 3 [(0, .ref (o 0)), (1, .int (iI g)), (2, .int (iI w))] := hl
  have hcs : 0 ≤ (({ frames := 2, cells := 0, slots := 0, locals := 42 } : Room)).cells ∧ 0 ≤ (({ frames := 2, cells := 0, slots := 0, locals := 42 } : Room)).slots := ⟨Nat.zero_le _, Nat.zero_le _⟩
  have hin6 : ∀ w ∈ wsX60, w ∈ wsX7_giftOf := fun w h => List.mem_cons_of_mem _ (List.mem_append_left _ (List.mem_append_left _ (List.mem_append_left _ (List.mem_append_right _ (h)))))
  have hin7 : ∀ w ∈ wsX70, w ∈ wsX7_giftOf := fun w h => List.mem_cons_of_mem _ (List.mem_append_left _ (List.mem_append_left _ (List.mem_append_left _ (List.mem_append_left _ (List.mem_append_right _ (h))))))
  have hF := hI.F
  have hMm := hI.M
  have hGn := hI.Gn
  have hTi := hI.ti
  have hGr := hI.gr
  have hoc := kxGiftO_ok hok
  refine lv_aload_n (pc := 0) E.1 E.2 dX7_giftOf_0 rfl (lv_at hl 0 rfl) ?_
  refine lv_iload_n (pc := 1) E.1 E.2 dX7_giftOf_1 rfl (lv_at hl 1 rfl) ?_
  refine z_rVv (pc := 2) (As := [.int (iI g)]) (rest := []) E hml hown hts (mX7_needGift lL G o ν σ π δ τ ω g hI (by omega) (by omega)) (cwV 1 hts gX7_giftOf_X7_needGift rfl rfl rfl vdX7_needGift ⟨Nat.le_of_ble_eq_true rfl, Nat.le_of_ble_eq_true rfl⟩) (oB.recv hK hQ.ob rfl) hQ hK rfl hl.1 rfl dX7_giftOf_2 hcs (Nat.le_of_ble_eq_true rfl) ?_
  refine lv_iload_n (pc := 5) E.1 E.2 dX7_giftOf_5 rfl (lv_at hl 2 rfl) ?_
  by_cases hs6_0 : w = 0
  · refine z_tabIn (pc := 6) (k := 0) (tgt := 36) E hs6_0 (by decide) (by decide) (by decide) dX7_giftOf_6 rfl (by decide) ?_
    refine lv_aload_n (pc := 36) E.1 E.2 dX7_giftOf_36 rfl (lv_at hl 0 rfl) ?_
    refine g7_0 (pc := 37) E hts hin7 hown hK hQ.ob (hts _ (List.mem_of_getElem? (i := 3) rfl)) dX7_giftOf_37 ?_
    refine g6_3 (pc := 40) E hts hin6 hown hK hQ.nob (hts _ (List.mem_of_getElem? (i := 4) rfl)) dX7_giftOf_40 ?_
    refine lv_iload_n (pc := 43) E.1 E.2 dX7_giftOf_43 rfl (lv_at hl 1 rfl) ?_
    refine z_rVi (pc := 44) (As := [.int (iI g)]) (rest := []) E hml hown hts (mX4_giverOf lL G (fun k => o (1 + (13 + k))) σ g hI (by omega)) (cwV 1 hts gX7_giftOf_X4_giverOf rfl rfl rfl vdX4_giverOf ⟨Nat.le_of_ble_eq_true rfl, Nat.le_of_ble_eq_true rfl⟩) (oB.recv hK hQ.gio rfl) hQ.now.gi hK rfl hl.1 rfl dX7_giftOf_44 hcs (Nat.le_of_ble_eq_true rfl) ?_
    rw [show (if 0 ≤ g ∧ g < σ 4 then σ (309 + 4 * g) else -1) = (σ (309 + 4 * g)) from (if_pos (by omega))]
    exact z_retRi E hr (congrArg iI (by (congr 1; omega))) hlocks dX7_giftOf_47
  by_cases hs6_1 : w = 1
  · refine z_tabIn (pc := 6) (k := 1) (tgt := 48) E hs6_1 (by decide) (by decide) (by decide) dX7_giftOf_6 rfl (by decide) ?_
    refine lv_aload_n (pc := 48) E.1 E.2 dX7_giftOf_48 rfl (lv_at hl 0 rfl) ?_
    refine g7_0 (pc := 49) E hts hin7 hown hK hQ.ob (hts _ (List.mem_of_getElem? (i := 3) rfl)) dX7_giftOf_49 ?_
    refine g6_3 (pc := 52) E hts hin6 hown hK hQ.nob (hts _ (List.mem_of_getElem? (i := 4) rfl)) dX7_giftOf_52 ?_
    refine lv_iload_n (pc := 55) E.1 E.2 dX7_giftOf_55 rfl (lv_at hl 1 rfl) ?_
    refine z_rVi (pc := 56) (As := [.int (iI g)]) (rest := []) E hml hown hts (mX4_getterOf lL G (fun k => o (1 + (13 + k))) σ g hI (by omega)) (cwV 1 hts gX7_giftOf_X4_getterOf rfl rfl rfl vdX4_getterOf ⟨Nat.le_of_ble_eq_true rfl, Nat.le_of_ble_eq_true rfl⟩) (oB.recv hK hQ.gio rfl) hQ.now.gi hK rfl hl.1 rfl dX7_giftOf_56 hcs (Nat.le_of_ble_eq_true rfl) ?_
    rw [show (if 0 ≤ g ∧ g < σ 4 then σ (309 + 4 * g + 1) else -1) = (σ (309 + 4 * g + 1)) from (if_pos (by omega))]
    exact z_retRi E hr (congrArg iI (by (congr 1; omega))) hlocks dX7_giftOf_59
  by_cases hs6_2 : w = 2
  · refine z_tabIn (pc := 6) (k := 2) (tgt := 60) E hs6_2 (by decide) (by decide) (by decide) dX7_giftOf_6 rfl (by decide) ?_
    refine lv_aload_n (pc := 60) E.1 E.2 dX7_giftOf_60 rfl (lv_at hl 0 rfl) ?_
    refine g7_0 (pc := 61) E hts hin7 hown hK hQ.ob (hts _ (List.mem_of_getElem? (i := 3) rfl)) dX7_giftOf_61 ?_
    refine g6_3 (pc := 64) E hts hin6 hown hK hQ.nob (hts _ (List.mem_of_getElem? (i := 4) rfl)) dX7_giftOf_64 ?_
    refine lv_iload_n (pc := 67) E.1 E.2 dX7_giftOf_67 rfl (lv_at hl 1 rfl) ?_
    refine z_rVi (pc := 68) (As := [.int (iI g)]) (rest := []) E hml hown hts (mX4_blocksOf lL G (fun k => o (1 + (13 + k))) σ g hI (by omega)) (cwV 1 hts gX7_giftOf_X4_blocksOf rfl rfl rfl vdX4_blocksOf ⟨Nat.le_of_ble_eq_true rfl, Nat.le_of_ble_eq_true rfl⟩) (oB.recv hK hQ.gio rfl) hQ.now.gi hK rfl hl.1 rfl dX7_giftOf_68 hcs (Nat.le_of_ble_eq_true rfl) ?_
    rw [show (if 0 ≤ g ∧ g < σ 4 then σ (309 + 4 * g + 2) else 0) = (σ (309 + 4 * g + 2)) from (if_pos (by omega))]
    exact z_retRi E hr (congrArg iI (by (congr 1; omega))) hlocks dX7_giftOf_71
  by_cases hs6_3 : w = 3
  · refine z_tabIn (pc := 6) (k := 3) (tgt := 72) E hs6_3 (by decide) (by decide) (by decide) dX7_giftOf_6 rfl (by decide) ?_
    refine lv_aload_n (pc := 72) E.1 E.2 dX7_giftOf_72 rfl (lv_at hl 0 rfl) ?_
    refine g7_0 (pc := 73) E hts hin7 hown hK hQ.ob (hts _ (List.mem_of_getElem? (i := 3) rfl)) dX7_giftOf_73 ?_
    refine g6_3 (pc := 76) E hts hin6 hown hK hQ.nob (hts _ (List.mem_of_getElem? (i := 4) rfl)) dX7_giftOf_76 ?_
    refine lv_iload_n (pc := 79) E.1 E.2 dX7_giftOf_79 rfl (lv_at hl 1 rfl) ?_
    refine z_rVi (pc := 80) (As := [.int (iI g)]) (rest := []) E hml hown hts (mX4_endOf lL G (fun k => o (1 + (13 + k))) σ g hI (by omega)) (cwV 1 hts gX7_giftOf_X4_endOf rfl rfl rfl vdX4_endOf ⟨Nat.le_of_ble_eq_true rfl, Nat.le_of_ble_eq_true rfl⟩) (oB.recv hK hQ.gio rfl) hQ.now.gi hK rfl hl.1 rfl dX7_giftOf_80 hcs (Nat.le_of_ble_eq_true rfl) ?_
    rw [show (if 0 ≤ g ∧ g < σ 4 then σ (309 + 4 * g + 3) else -1) = (σ (309 + 4 * g + 3)) from (if_pos (by omega))]
    exact z_retRi E hr (congrArg iI (by (congr 1; omega))) hlocks dX7_giftOf_83
  refine z_tabOut (pc := 6) (tgt := 84) E ⟨by omega, by omega⟩ (by omega) dX7_giftOf_6 (by decide) ?_
  exact absurd hok (by unfold kxGiftO; (repeat' split) <;> first | decide | omega | (exfalso; omega) | grind)
set_option maxHeartbeats 1000000 in
set_option maxRecDepth 100000 in
theorem mX7_nextEvent (lL : Launch) (G : GG) (o : Nat → Nat) (ν σ : Int → Int) (π : Nat → Int → Int) (δ τ ω : Int → Int) (hI : In σ) : Met lL yX7_nextEvent wsX7_nextEvent ({ frames := 3, cells := 0, slots := 0, locals := 85 } : Room) (va_Pc [.ref (o 0)] (fun U => QT G o ν σ π δ τ ω U.heap ∧ KK G U)) (vp_Si (fun r => r = (iI (axNext σ)))) 0 0 (fun _ => False) := by
  refine z_met (P := (fun H : Heap => QT G o ν σ π δ τ ω H)) (by decide) rfl (Nat.le_of_ble_eq_true rfl) (fun pp ee ss mm below meth cC E hr hml hown hts hlocks hQ hK ls hl => ?_)
  have hl : lv_has ls 1 [(0, .ref (o 0))] := hl
  have hcs : 0 ≤ (({ frames := 3, cells := 0, slots := 0, locals := 85 } : Room)).cells ∧ 0 ≤ (({ frames := 3, cells := 0, slots := 0, locals := 85 } : Room)).slots := ⟨Nat.zero_le _, Nat.zero_le _⟩
  have hin6 : ∀ w ∈ wsX60, w ∈ wsX7_nextEvent := fun w h => List.mem_cons_of_mem _ (List.mem_append_left _ (List.mem_append_left _ (List.mem_append_right _ (h))))
  have hin7 : ∀ w ∈ wsX70, w ∈ wsX7_nextEvent := fun w h => List.mem_cons_of_mem _ (List.mem_append_left _ (List.mem_append_left _ (List.mem_append_left _ (List.mem_append_right _ (h)))))
  have hF := hI.F
  have hMm := hI.M
  have hGn := hI.Gn
  have hTi := hI.ti
  have hGr := hI.gr
  refine lv_aload_n (pc := 0) E.1 E.2 dX7_nextEvent_0 rfl (lv_at hl 0 rfl) ?_
  refine g7_0 (pc := 1) E hts hin7 hown hK hQ.ob (hts _ (List.mem_of_getElem? (i := 1) rfl)) dX7_nextEvent_1 ?_
  refine lv_aload_n (pc := 4) E.1 E.2 dX7_nextEvent_4 rfl (lv_at hl 0 rfl) ?_
  refine g7_0 (pc := 5) E hts hin7 hown hK hQ.ob (hts _ (List.mem_of_getElem? (i := 1) rfl)) dX7_nextEvent_5 ?_
  refine g6_3 (pc := 8) E hts hin6 hown hK hQ.nob (hts _ (List.mem_of_getElem? (i := 2) rfl)) dX7_nextEvent_8 ?_
  refine z_rVi (pc := 11) (As := []) (rest := [.ref (o 1)]) E hml hown hts (mX4_firstEnd lL G (fun k => o (1 + (13 + k))) σ  hI) (cwV 0 hts gX7_nextEvent_X4_firstEnd rfl rfl rfl vdX4_firstEnd ⟨Nat.le_of_ble_eq_true rfl, Nat.le_of_ble_eq_true rfl⟩) (oB.recv hK hQ.gio rfl) hQ.now.gi hK rfl hl.1 rfl dX7_nextEvent_11 hcs (Nat.le_of_ble_eq_true rfl) ?_
  have hfe := feS_b hI
  refine lv_aload_n (pc := 14) E.1 E.2 dX7_nextEvent_14 rfl (lv_at hl 0 rfl) ?_
  refine g7_0 (pc := 15) E hts hin7 hown hK hQ.ob (hts _ (List.mem_of_getElem? (i := 1) rfl)) dX7_nextEvent_15 ?_
  refine z_rVi (pc := 18) (As := []) (rest := [.int (iI (feS σ)), .ref (o 1)]) E hml hown hts (mX6_firstGraceEnd lL G (fun k => o (1 + k)) σ  hI) (cwV 0 hts gX7_nextEvent_X6_firstGraceEnd rfl rfl rfl vdX6_firstGraceEnd ⟨Nat.le_of_ble_eq_true rfl, Nat.le_of_ble_eq_true rfl⟩) (oB.recv hK hQ.nob rfl) hQ.now hK rfl hl.1 rfl dX7_nextEvent_18 hcs (Nat.le_of_ble_eq_true rfl) ?_
  have hfg := fg_b hI 16 (by decide)
  refine z_rVi (pc := 21) (As := [.int (iI (feS σ)), .int (iI (fg σ 16))]) (rest := []) E hml hown hts (mX6_earlierEvent lL G (fun k => o (1 + k)) σ (feS σ) (fg σ 16) hI (by omega) (by omega)) (cwV 2 hts gX7_nextEvent_X6_earlierEvent rfl rfl rfl vdX6_earlierEvent ⟨Nat.le_of_ble_eq_true rfl, Nat.le_of_ble_eq_true rfl⟩) (oB.recv hK hQ.nob rfl) hQ.now hK rfl hl.1 rfl dX7_nextEvent_21 hcs (Nat.le_of_ble_eq_true rfl) ?_
  exact z_retRi E hr (congrArg iI (by rfl)) hlocks dX7_nextEvent_24
set_option maxHeartbeats 1000000 in
set_option maxRecDepth 100000 in
theorem mxX7_walked (lL : Launch) (hst0 : lL.stackTraces = false) (G : GG) (o : Nat → Nat) (ν σ : Int → Int) (π : Nat → Int → Int) (δ τ ω : Int → Int) (i : Int) (hI : In σ) (hi : -2147483648 ≤ i ∧ i < 2147483648) (hbad : ¬ ((kxFo σ i) = 0)) : vx_Met lL yX7_walked wsX7_walked ({ frames := 7, cells := 1, slots := 6, locals := 121 } : Room) (va_Pc [.ref (o 0), .int (iI i)] (fun U => QT G o ν σ π δ τ ω U.heap ∧ KK G U ∧ KX FF0 U U.heap)) (fun _ _ _ _ => False) (XCe (exq xI xI xI (kxFo σ i))) 1 6 FF0 := by
  refine z_metX (P := (fun H : Heap => QT G o ν σ π δ τ ω H)) (by decide) rfl (Nat.le_of_ble_eq_true rfl) (fun pp ee ss mm below meth cC E hml hown hts hlocks htab hQ hK hX ls hl => ?_)
  have hl : lv_has ls 4 [(0, .ref (o 0)), (1, .int (iI i))] := hl
  have hcs : 0 ≤ (({ frames := 7, cells := 1, slots := 6, locals := 121 } : Room)).cells ∧ 0 ≤ (({ frames := 7, cells := 1, slots := 6, locals := 121 } : Room)).slots := ⟨Nat.zero_le _, Nat.zero_le _⟩
  have hin6 : ∀ w ∈ wsX60, w ∈ wsX7_walked := fun w h => List.mem_cons_of_mem _ (List.mem_append_left _ (List.mem_append_left _ (List.mem_append_right _ (h))))
  have hin7 : ∀ w ∈ wsX70, w ∈ wsX7_walked := fun w h => List.mem_cons_of_mem _ (List.mem_append_left _ (List.mem_append_left _ (List.mem_append_left _ (List.mem_append_right _ (h)))))
  have hF := hI.F
  have hMm := hI.M
  have hGn := hI.Gn
  have hTi := hI.ti
  have hGr := hI.gr
  refine lv_aload_n (pc := 0) E.1 E.2 dX7_walked_0 rfl (lv_at hl 0 rfl) ?_
  refine lv_iload_n (pc := 1) E.1 E.2 dX7_walked_1 rfl (lv_at hl 1 rfl) ?_
  by_cases hc2 : 0 ≤ i ∧ i < σ 2
  · refine z_rVv (pc := 2) (As := [.int (iI i)]) (rest := []) E hml hown hts (mX7_needFolder lL G o ν σ π δ τ ω i hI (by omega) (by omega)) (cwV 1 hts gX7_walked_X7_needFolder rfl rfl rfl vdX7_needFolder ⟨Nat.le_of_ble_eq_true rfl, Nat.le_of_ble_eq_true rfl⟩) (oB.recv hK hQ.ob rfl) hQ hK rfl hl.1 rfl dX7_walked_2 hcs (Nat.le_of_ble_eq_true rfl) ?_
    refine z_iconst (pc := 5) E dX7_walked_5 ?_
    refine lv_istore_n (pc := 6) (lv' := [(2, .int (iI 0)), (0, .ref (o 0)), (1, .int (iI i))]) E.1 E.2 dX7_walked_6 rfl hl (by decide) rfl (fun ls hl => ?_)
    refine z_iconst (pc := 7) E dX7_walked_7 ?_
    refine lv_istore_n (pc := 8) (lv' := [(3, .int (iI 0)), (2, .int (iI 0)), (0, .ref (o 0)), (1, .int (iI i))]) E.1 E.2 dX7_walked_8 rfl hl (by decide) rfl (fun ls hl => ?_)
    suffices L9 : ∀ (nf : Nat), ∀ (g j : Int), (0 ≤ j ∧ j ≤ i) → (g = wk σ j.toNat) → ((i - j).toNat) < nf → ∀ ls : Array Slot, lv_has ls 4 [(3, .int (iI j)), (2, .int (iI g)), (0, .ref (o 0)), (1, .int (iI i))] → W pp lL ee ({ frames := 7, cells := 1, slots := 6, locals := 121 } : Room) ss mm [.ref (o 0), .int (iI i)].toArray below meth cC ss.heap [] 0 0 (vx_MQ below (fun _ _ _ _ => False) (XCe (exq xI xI xI (kxFo σ i))) [.ref (o 0), .int (iI i)].toArray ss 1 6 FF0) (F0 mm 9 ls []) from L9 _ 0 0 (by omega) rfl (Nat.lt_succ_self _) ls (lv_sub hl [0, 1, 2, 3] rfl)
    intro nfL9
    induction nfL9 with
    | zero => intro g j hj hg hmzL9; exact absurd hmzL9 (Nat.not_lt_zero _)
    | succ nfL9 ihL9 =>
      intro g j hj hg hmzL9 ls hl
      have hwk := wk_v hI (n := j.toNat) (by omega)
      refine lv_iload_n (pc := 9) E.1 E.2 dX7_walked_9 rfl (lv_at hl 0 rfl) ?_
      refine lv_iload_n (pc := 10) E.1 E.2 dX7_walked_10 rfl (lv_at hl 3 rfl) ?_
      refine z_icmp_ge (pc := 11) (tgt := 32) E ⟨by omega, by omega⟩ ⟨by omega, by omega⟩ dX7_walked_11 (by decide) (fun h11 => ?_) (fun h11 => ?_)
      · refine lv_iload_n (pc := 32) E.1 E.2 dX7_walked_32 rfl (lv_at hl 1 rfl) ?_
        exact absurd (show (kxFo σ i) = 0 by (unfold kxFo; (repeat' split) <;> first | rfl | omega | (exfalso; omega) | contradiction | grind)) hbad
      · refine lv_aload_n (pc := 14) E.1 E.2 dX7_walked_14 rfl (lv_at hl 2 rfl) ?_
        refine g7_0 (pc := 15) E hts hin7 hown hK hQ.ob (hts _ (List.mem_of_getElem? (i := 1) rfl)) dX7_walked_15 ?_
        refine g6_0 (pc := 18) E hts hin6 hown hK hQ.nob (hts _ (List.mem_of_getElem? (i := 2) rfl)) dX7_walked_18 ?_
        refine lv_iload_n (pc := 21) E.1 E.2 dX7_walked_21 rfl (lv_at hl 1 rfl) ?_
        refine z_rVi (pc := 22) (As := [.int (iI g)]) (rest := []) E hml hown hts (mX3_nextInWalk lL G (fun k => o (1 + (1 + k))) σ g hI (by omega)) (cwV 1 hts gX7_walked_X3_nextInWalk rfl rfl rfl vdX3_nextInWalk ⟨Nat.le_of_ble_eq_true rfl, Nat.le_of_ble_eq_true rfl⟩) (oB.recv hK hQ.foo rfl) hQ.now.fo hK rfl hl.1 rfl dX7_walked_22 hcs (Nat.le_of_ble_eq_true rfl) ?_
        refine lv_istore_n (pc := 25) (lv' := [(2, .int (iI (nxS σ g))), (3, .int (iI j)), (0, .ref (o 0)), (1, .int (iI i))]) E.1 E.2 dX7_walked_25 rfl hl (by decide) rfl (fun ls hl => ?_)
        refine lv_iinc (pc := 26) (v := iI (j + 1)) (lv' := [(3, .int (iI (j + 1))), (2, .int (iI (nxS σ g))), (0, .ref (o 0)), (1, .int (iI i))]) E.1 E.2 dX7_walked_26 hl (k := 1) rfl (iI_add _ _) (by decide) rfl (fun ls hl => ?_)
        refine lv_goto (pc := 29) (tgt := 9) E.1 E.2 dX7_walked_29 (by decide) ?_
        exact ihL9 (nxS σ g) (j + 1) (by omega) (by rw [hg, show (j + 1).toNat = j.toNat + 1 by omega]; rfl) (by omega) ls (lv_sub hl [0, 1, 2, 3] rfl)
  exact z_badV (pc := 2) (As := [.int (iI i)]) (rest := []) E hml hown hts (mxX7_needFolder lL hst0 G o ν σ π δ τ ω i hI (by omega) hc2) (cwV 1 hts gX7_walked_X7_needFolder rfl rfl rfl vdX7_needFolder ⟨Nat.le_of_ble_eq_true rfl, Nat.le_of_ble_eq_true rfl⟩) (oB.recv hK hQ.ob rfl) hQ hK hX rfl hl.1 rfl dX7_walked_2 ⟨Nat.le_of_ble_eq_true rfl, Nat.le_of_ble_eq_true rfl⟩ (Nat.le_of_ble_eq_true rfl) (by rw [show (kxFo σ i) = 1 by (unfold kxFo; (repeat' split) <;> first | rfl | omega | (exfalso; omega) | contradiction | grind)]; rfl) htab hlocks
set_option maxHeartbeats 1000000 in
set_option maxRecDepth 100000 in
theorem mX7_walked (lL : Launch) (G : GG) (o : Nat → Nat) (ν σ : Int → Int) (π : Nat → Int → Int) (δ τ ω : Int → Int) (i : Int) (hI : In σ) (hi : -2147483648 ≤ i ∧ i < 2147483648) (hok : (kxFo σ i) = 0) : Met lL yX7_walked wsX7_walked ({ frames := 4, cells := 0, slots := 0, locals := 89 } : Room) (va_Pc [.ref (o 0), .int (iI i)] (fun U => QT G o ν σ π δ τ ω U.heap ∧ KK G U)) (vp_Si (fun r => r = (iI (wk σ i.toNat)))) 0 0 (fun _ => False) := by
  refine z_met (P := (fun H : Heap => QT G o ν σ π δ τ ω H)) (by decide) rfl (Nat.le_of_ble_eq_true rfl) (fun pp ee ss mm below meth cC E hr hml hown hts hlocks hQ hK ls hl => ?_)
  have hl : lv_has ls 4 [(0, .ref (o 0)), (1, .int (iI i))] := hl
  have hcs : 0 ≤ (({ frames := 4, cells := 0, slots := 0, locals := 89 } : Room)).cells ∧ 0 ≤ (({ frames := 4, cells := 0, slots := 0, locals := 89 } : Room)).slots := ⟨Nat.zero_le _, Nat.zero_le _⟩
  have hin6 : ∀ w ∈ wsX60, w ∈ wsX7_walked := fun w h => List.mem_cons_of_mem _ (List.mem_append_left _ (List.mem_append_left _ (List.mem_append_right _ (h))))
  have hin7 : ∀ w ∈ wsX70, w ∈ wsX7_walked := fun w h => List.mem_cons_of_mem _ (List.mem_append_left _ (List.mem_append_left _ (List.mem_append_left _ (List.mem_append_right _ (h)))))
  have hF := hI.F
  have hMm := hI.M
  have hGn := hI.Gn
  have hTi := hI.ti
  have hGr := hI.gr
  have hoc := kxFo_ok hok
  refine lv_aload_n (pc := 0) E.1 E.2 dX7_walked_0 rfl (lv_at hl 0 rfl) ?_
  refine lv_iload_n (pc := 1) E.1 E.2 dX7_walked_1 rfl (lv_at hl 1 rfl) ?_
  refine z_rVv (pc := 2) (As := [.int (iI i)]) (rest := []) E hml hown hts (mX7_needFolder lL G o ν σ π δ τ ω i hI (by omega) (by omega)) (cwV 1 hts gX7_walked_X7_needFolder rfl rfl rfl vdX7_needFolder ⟨Nat.le_of_ble_eq_true rfl, Nat.le_of_ble_eq_true rfl⟩) (oB.recv hK hQ.ob rfl) hQ hK rfl hl.1 rfl dX7_walked_2 hcs (Nat.le_of_ble_eq_true rfl) ?_
  refine z_iconst (pc := 5) E dX7_walked_5 ?_
  refine lv_istore_n (pc := 6) (lv' := [(2, .int (iI 0)), (0, .ref (o 0)), (1, .int (iI i))]) E.1 E.2 dX7_walked_6 rfl hl (by decide) rfl (fun ls hl => ?_)
  refine z_iconst (pc := 7) E dX7_walked_7 ?_
  refine lv_istore_n (pc := 8) (lv' := [(3, .int (iI 0)), (2, .int (iI 0)), (0, .ref (o 0)), (1, .int (iI i))]) E.1 E.2 dX7_walked_8 rfl hl (by decide) rfl (fun ls hl => ?_)
  suffices L9 : ∀ (nf : Nat), ∀ (g j : Int), (0 ≤ j ∧ j ≤ i) → (g = wk σ j.toNat) → ((i - j).toNat) < nf → ∀ ls : Array Slot, lv_has ls 4 [(3, .int (iI j)), (2, .int (iI g)), (0, .ref (o 0)), (1, .int (iI i))] → W pp lL ee ({ frames := 4, cells := 0, slots := 0, locals := 89 } : Room) ss mm [.ref (o 0), .int (iI i)].toArray below meth cC ss.heap [] 0 0 (MQ below (vp_Si (fun r => r = (iI (wk σ i.toNat)))) [.ref (o 0), .int (iI i)].toArray ss 0 0 (fun _ => False)) (F0 mm 9 ls []) from L9 _ 0 0 (by omega) rfl (Nat.lt_succ_self _) ls (lv_sub hl [0, 1, 2, 3] rfl)
  intro nfL9
  induction nfL9 with
  | zero => intro g j hj hg hmzL9; exact absurd hmzL9 (Nat.not_lt_zero _)
  | succ nfL9 ihL9 =>
    intro g j hj hg hmzL9 ls hl
    have hwk := wk_v hI (n := j.toNat) (by omega)
    refine lv_iload_n (pc := 9) E.1 E.2 dX7_walked_9 rfl (lv_at hl 0 rfl) ?_
    refine lv_iload_n (pc := 10) E.1 E.2 dX7_walked_10 rfl (lv_at hl 3 rfl) ?_
    refine z_icmp_ge (pc := 11) (tgt := 32) E ⟨by omega, by omega⟩ ⟨by omega, by omega⟩ dX7_walked_11 (by decide) (fun h11 => ?_) (fun h11 => ?_)
    · refine lv_iload_n (pc := 32) E.1 E.2 dX7_walked_32 rfl (lv_at hl 1 rfl) ?_
      exact z_retRi E hr (congrArg iI (by (rw [hg]; congr 1; omega))) hlocks dX7_walked_33
    · refine lv_aload_n (pc := 14) E.1 E.2 dX7_walked_14 rfl (lv_at hl 2 rfl) ?_
      refine g7_0 (pc := 15) E hts hin7 hown hK hQ.ob (hts _ (List.mem_of_getElem? (i := 1) rfl)) dX7_walked_15 ?_
      refine g6_0 (pc := 18) E hts hin6 hown hK hQ.nob (hts _ (List.mem_of_getElem? (i := 2) rfl)) dX7_walked_18 ?_
      refine lv_iload_n (pc := 21) E.1 E.2 dX7_walked_21 rfl (lv_at hl 1 rfl) ?_
      refine z_rVi (pc := 22) (As := [.int (iI g)]) (rest := []) E hml hown hts (mX3_nextInWalk lL G (fun k => o (1 + (1 + k))) σ g hI (by omega)) (cwV 1 hts gX7_walked_X3_nextInWalk rfl rfl rfl vdX3_nextInWalk ⟨Nat.le_of_ble_eq_true rfl, Nat.le_of_ble_eq_true rfl⟩) (oB.recv hK hQ.foo rfl) hQ.now.fo hK rfl hl.1 rfl dX7_walked_22 hcs (Nat.le_of_ble_eq_true rfl) ?_
      refine lv_istore_n (pc := 25) (lv' := [(2, .int (iI (nxS σ g))), (3, .int (iI j)), (0, .ref (o 0)), (1, .int (iI i))]) E.1 E.2 dX7_walked_25 rfl hl (by decide) rfl (fun ls hl => ?_)
      refine lv_iinc (pc := 26) (v := iI (j + 1)) (lv' := [(3, .int (iI (j + 1))), (2, .int (iI (nxS σ g))), (0, .ref (o 0)), (1, .int (iI i))]) E.1 E.2 dX7_walked_26 hl (k := 1) rfl (iI_add _ _) (by decide) rfl (fun ls hl => ?_)
      refine lv_goto (pc := 29) (tgt := 9) E.1 E.2 dX7_walked_29 (by decide) ?_
      exact ihL9 (nxS σ g) (j + 1) (by omega) (by rw [hg, show (j + 1).toNat = j.toNat + 1 by omega]; rfl) (by omega) ls (lv_sub hl [0, 1, 2, 3] rfl)
