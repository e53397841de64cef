theorem vdX7_addFolder : yX7_addFolder.cls = RX7 ∧ yX7_addFolder.cls ≠ "java/lang/invoke/MethodHandle" ∧ yX7_addFolder.cls ≠ "java/lang/invoke/VarHandle" ∧ (parseMethodDescriptor yX7_addFolder.desc).map (fun d => d.parameters.length) = some 2 := by decide +kernel
theorem vdX7_removeFolder : yX7_removeFolder.cls = RX7 ∧ yX7_removeFolder.cls ≠ "java/lang/invoke/MethodHandle" ∧ yX7_removeFolder.cls ≠ "java/lang/invoke/VarHandle" ∧ (parseMethodDescriptor yX7_removeFolder.desc).map (fun d => d.parameters.length) = some 1 := by decide +kernel
theorem vdX7_tag : yX7_tag.cls = RX7 ∧ yX7_tag.cls ≠ "java/lang/invoke/MethodHandle" ∧ yX7_tag.cls ≠ "java/lang/invoke/VarHandle" ∧ (parseMethodDescriptor yX7_tag.desc).map (fun d => d.parameters.length) = some 2 := by decide +kernel
theorem vdX7_moveFolder : yX7_moveFolder.cls = RX7 ∧ yX7_moveFolder.cls ≠ "java/lang/invoke/MethodHandle" ∧ yX7_moveFolder.cls ≠ "java/lang/invoke/VarHandle" ∧ (parseMethodDescriptor yX7_moveFolder.desc).map (fun d => d.parameters.length) = some 2 := by decide +kernel
theorem vdX7_write : yX7_write.cls = RX7 ∧ yX7_write.cls ≠ "java/lang/invoke/MethodHandle" ∧ yX7_write.cls ≠ "java/lang/invoke/VarHandle" ∧ (parseMethodDescriptor yX7_write.desc).map (fun d => d.parameters.length) = some 2 := by decide +kernel
theorem vdX7_resize : yX7_resize.cls = RX7 ∧ yX7_resize.cls ≠ "java/lang/invoke/MethodHandle" ∧ yX7_resize.cls ≠ "java/lang/invoke/VarHandle" ∧ (parseMethodDescriptor yX7_resize.desc).map (fun d => d.parameters.length) = some 2 := by decide +kernel
theorem vdX7_delete : yX7_delete.cls = RX7 ∧ yX7_delete.cls ≠ "java/lang/invoke/MethodHandle" ∧ yX7_delete.cls ≠ "java/lang/invoke/VarHandle" ∧ (parseMethodDescriptor yX7_delete.desc).map (fun d => d.parameters.length) = some 1 := by decide +kernel
theorem vdX7_moveFile : yX7_moveFile.cls = RX7 ∧ yX7_moveFile.cls ≠ "java/lang/invoke/MethodHandle" ∧ yX7_moveFile.cls ≠ "java/lang/invoke/VarHandle" ∧ (parseMethodDescriptor yX7_moveFile.desc).map (fun d => d.parameters.length) = some 2 := by decide +kernel
theorem vdX7_setLimit : yX7_setLimit.cls = RX7 ∧ yX7_setLimit.cls ≠ "java/lang/invoke/MethodHandle" ∧ yX7_setLimit.cls ≠ "java/lang/invoke/VarHandle" ∧ (parseMethodDescriptor yX7_setLimit.desc).map (fun d => d.parameters.length) = some 4 := by decide +kernel
theorem vdX7_setGrace : yX7_setGrace.cls = RX7 ∧ yX7_setGrace.cls ≠ "java/lang/invoke/MethodHandle" ∧ yX7_setGrace.cls ≠ "java/lang/invoke/VarHandle" ∧ (parseMethodDescriptor yX7_setGrace.desc).map (fun d => d.parameters.length) = some 1 := by decide +kernel
theorem vdX7_tick : yX7_tick.cls = RX7 ∧ yX7_tick.cls ≠ "java/lang/invoke/MethodHandle" ∧ yX7_tick.cls ≠ "java/lang/invoke/VarHandle" ∧ (parseMethodDescriptor yX7_tick.desc).map (fun d => d.parameters.length) = some 1 := by decide +kernel
theorem vdX7_gift : yX7_gift.cls = RX7 ∧ yX7_gift.cls ≠ "java/lang/invoke/MethodHandle" ∧ yX7_gift.cls ≠ "java/lang/invoke/VarHandle" ∧ (parseMethodDescriptor yX7_gift.desc).map (fun d => d.parameters.length) = some 4 := by decide +kernel
theorem vdX7_endGift : yX7_endGift.cls = RX7 ∧ yX7_endGift.cls ≠ "java/lang/invoke/MethodHandle" ∧ yX7_endGift.cls ≠ "java/lang/invoke/VarHandle" ∧ (parseMethodDescriptor yX7_endGift.desc).map (fun d => d.parameters.length) = some 1 := by decide +kernel
theorem vdX7_adjust : yX7_adjust.cls = RX7 ∧ yX7_adjust.cls ≠ "java/lang/invoke/MethodHandle" ∧ yX7_adjust.cls ≠ "java/lang/invoke/VarHandle" ∧ (parseMethodDescriptor yX7_adjust.desc).map (fun d => d.parameters.length) = some 3 := by decide +kernel
theorem vdX7_repair : yX7_repair.cls = RX7 ∧ yX7_repair.cls ≠ "java/lang/invoke/MethodHandle" ∧ yX7_repair.cls ≠ "java/lang/invoke/VarHandle" ∧ (parseMethodDescriptor yX7_repair.desc).map (fun d => d.parameters.length) = some 0 := by decide +kernel
theorem vdX7_undo : yX7_undo.cls = RX7 ∧ yX7_undo.cls ≠ "java/lang/invoke/MethodHandle" ∧ yX7_undo.cls ≠ "java/lang/invoke/VarHandle" ∧ (parseMethodDescriptor yX7_undo.desc).map (fun d => d.parameters.length) = some 0 := by decide +kernel
set_option maxHeartbeats 1000000 in
set_option maxRecDepth 100000 in
theorem mxX7_addFolder (lL : Launch) (hst0 : lL.stackTraces = false) (G : GG) (o : Nat → Nat) (ν σ : Int → Int) (π : Nat → Int → Int) (δ τ ω : Int → Int) (p : Int) (x : Int) (hI : In σ) (hp : -2147483648 ≤ p ∧ p < 2147483648) (hx : -9223372036854775808 ≤ x ∧ x < 9223372036854775808) (hbad : ¬ ((kxAddF σ p x) = 0)) : vx_Met lL yX7_addFolder wsX7_addFolder ({ frames := 7, cells := 1, slots := 6, locals := 153 } : Room) (va_Pc [.ref (o 0), .int (iI p), .long (iL x)] (fun U => QT G o ν σ π δ τ ω U.heap ∧ KK G U ∧ KX FF0 U U.heap)) (fun _ _ _ _ => False) (XCe (exq xI xA xS (kxAddF σ p x))) 1 6 FF0 := by
  refine z_metX (P := (fun H : Heap => QT G o ν σ π δ τ ω H)) (by decide) rfl (Nat.le_of_ble_eq_true rfl) (fun pp ee ss mm below meth cC E hml hown hts hlocks htab hQ hK hX ls hl => ?_)
  have hl : lv_has ls 4 [(0, .ref (o 0)), (1, .int (iI p)), (2, .long (iL x))] := hl
  have hcs : 0 ≤ (({ frames := 7, cells := 1, slots := 6, locals := 153 } : Room)).cells ∧ 0 ≤ (({ frames := 7, cells := 1, slots := 6, locals := 153 } : Room)).slots := ⟨Nat.zero_le _, Nat.zero_le _⟩
  have hin6 : ∀ w ∈ wsX60, w ∈ wsX7_addFolder := fun w h => List.mem_cons_of_mem _ (List.mem_append_left _ (List.mem_append_left _ (List.mem_append_left _ (List.mem_append_left _ (List.mem_append_left _ (List.mem_append_left _ (List.mem_append_left _ (List.mem_append_right _ (h)))))))))
  have hin7 : ∀ w ∈ wsX70, w ∈ wsX7_addFolder := fun w h => List.mem_cons_of_mem _ (List.mem_append_left _ (List.mem_append_left _ (List.mem_append_left _ (List.mem_append_left _ (List.mem_append_left _ (List.mem_append_left _ (List.mem_append_left _ (List.mem_append_left _ (List.mem_append_right _ (h))))))))))
  have hF := hI.F
  have hMm := hI.M
  have hGn := hI.Gn
  have hTi := hI.ti
  have hGr := hI.gr
  refine lv_aload_n (pc := 0) E.1 E.2 dX7_addFolder_0 rfl (lv_at hl 0 rfl) ?_
  refine lv_iload_n (pc := 1) E.1 E.2 dX7_addFolder_1 rfl (lv_at hl 1 rfl) ?_
  by_cases hc2 : 0 ≤ p ∧ p < σ 2
  · refine z_rVv (pc := 2) (As := [.int (iI p)]) (rest := []) E hml hown hts (mX7_needFolder lL G o ν σ π δ τ ω p hI (by omega) (by omega)) (cwV 1 hts gX7_addFolder_X7_needFolder rfl rfl rfl vdX7_needFolder ⟨Nat.le_of_ble_eq_true rfl, Nat.le_of_ble_eq_true rfl⟩) (oB.recv hK hQ.ob rfl) hQ hK rfl hl.1 rfl dX7_addFolder_2 hcs (Nat.le_of_ble_eq_true rfl) ?_
    refine lv_lload_n (pc := 5) E.1 E.2 dX7_addFolder_5 rfl (lv_at hl 2 rfl) ?_
    refine z_rSi (pc := 6) (P := fun _ => True) (As := [.long (iL x)]) (rest := []) E hml hown hts (mX7_isName lL G x (by omega)) (va_cwS 1 hts gX7_addFolder_X7_isName rfl rfl rfl vdX7_isName.2 ⟨Nat.le_of_ble_eq_true rfl, Nat.le_of_ble_eq_true rfl⟩) trivial hK rfl hl.1 rfl dX7_addFolder_6 hcs (Nat.le_of_ble_eq_true rfl) ?_
    refine z_ifb_eq (pc := 9) (tgt := 27) E dX7_addFolder_9 (by decide) (fun h9 => ?_) (fun h9 => ?_)
    · exact z_thrS_xA (pc := 27) (rest := []) (is := 177) (text := "not the name of a new folder") E hst0 hown (hts _ (List.mem_of_getElem? (i := 1) rfl)) (hts _ (List.mem_of_getElem? (i := 2) rfl)) (fun w h => hts w (List.mem_cons_of_mem _ (List.mem_append_left _ (List.mem_append_left _ (List.mem_append_right _ (h)))))) hX (List.mem_of_getElem? (i := 4) rfl) (hl.1.trans hml.symm) dX7_addFolder_27 dX7_addFolder_30 dX7_addFolder_31 dX7_addFolder_33 dX7_addFolder_36 htab (Nat.le_of_ble_eq_true rfl) (Nat.le_of_ble_eq_true rfl) (Nat.le_of_ble_eq_true rfl) (Nat.le_of_ble_eq_true rfl) hlocks (by rw [show (kxAddF σ p x) = 2 by (unfold kxAddF; (repeat' split) <;> first | rfl | omega | (exfalso; omega) | contradiction | grind)]; rfl)
    · refine lv_aload_n (pc := 12) E.1 E.2 dX7_addFolder_12 rfl (lv_at hl 0 rfl) ?_
      refine g7_0 (pc := 13) E hts hin7 hown hK hQ.ob (hts _ (List.mem_of_getElem? (i := 5) rfl)) dX7_addFolder_13 ?_
      refine g6_0 (pc := 16) E hts hin6 hown hK hQ.nob (hts _ (List.mem_of_getElem? (i := 6) rfl)) dX7_addFolder_16 ?_
      refine lv_lload_n (pc := 19) E.1 E.2 dX7_addFolder_19 rfl (lv_at hl 2 rfl) ?_
      refine z_rVi (pc := 20) (As := [.long (iL x)]) (rest := []) E hml hown hts (mX3_numberOf lL G (fun k => o (1 + (1 + k))) σ x hI (by omega)) (cwV 1 hts gX7_addFolder_X3_numberOf rfl rfl rfl vdX3_numberOf ⟨Nat.le_of_ble_eq_true rfl, Nat.le_of_ble_eq_true rfl⟩) (oB.recv hK hQ.foo rfl) hQ.now.fo hK rfl hl.1 rfl dX7_addFolder_20 hcs (Nat.le_of_ble_eq_true rfl) ?_
      have hfn := fnS_r hI x
      refine z_iconst (pc := 23) E dX7_addFolder_23 ?_
      refine z_icmp_eq (pc := 24) (tgt := 37) E ⟨by omega, by omega⟩ (by decide) dX7_addFolder_24 (by decide) (fun h24 => ?_) (fun h24 => ?_)
      · refine lv_aload_n (pc := 37) E.1 E.2 dX7_addFolder_37 rfl (lv_at hl 0 rfl) ?_
        refine g7_0 (pc := 38) E hts hin7 hown hK hQ.ob (hts _ (List.mem_of_getElem? (i := 5) rfl)) dX7_addFolder_38 ?_
        refine g6_0 (pc := 41) E hts hin6 hown hK hQ.nob (hts _ (List.mem_of_getElem? (i := 6) rfl)) dX7_addFolder_41 ?_
        refine z_rVi (pc := 44) (As := []) (rest := []) E hml hown hts (mX3_isFull lL G (fun k => o (1 + (1 + k))) σ  hI) (cwV 0 hts gX7_addFolder_X3_isFull rfl rfl rfl vdX3_isFull ⟨Nat.le_of_ble_eq_true rfl, Nat.le_of_ble_eq_true rfl⟩) (oB.recv hK hQ.foo rfl) hQ.now.fo hK rfl hl.1 rfl dX7_addFolder_44 hcs (Nat.le_of_ble_eq_true rfl) ?_
        refine z_ifb_eq (pc := 47) (tgt := 60) E dX7_addFolder_47 (by decide) (fun h47 => ?_) (fun h47 => ?_)
        · refine lv_aload_n (pc := 60) E.1 E.2 dX7_addFolder_60 rfl (lv_at hl 0 rfl) ?_
          exact absurd (show (kxAddF σ p x) = 0 by (unfold kxAddF; (repeat' split) <;> first | rfl | omega | (exfalso; omega) | contradiction | grind)) hbad
        · exact z_thrS_xS (pc := 50) (rest := []) (is := 183) (text := "there are 40 folders") E hst0 hown (hts _ (List.mem_of_getElem? (i := 3) rfl)) (hts _ (List.mem_of_getElem? (i := 4) rfl)) (fun w h => hts w (List.mem_cons_of_mem _ (List.mem_append_left _ (List.mem_append_right _ (h))))) hX (List.mem_of_getElem? (i := 5) rfl) (hl.1.trans hml.symm) dX7_addFolder_50 dX7_addFolder_53 dX7_addFolder_54 dX7_addFolder_56 dX7_addFolder_59 htab (Nat.le_of_ble_eq_true rfl) (Nat.le_of_ble_eq_true rfl) (Nat.le_of_ble_eq_true rfl) (Nat.le_of_ble_eq_true rfl) hlocks (by rw [show (kxAddF σ p x) = 3 by (unfold kxAddF; (repeat' split) <;> first | rfl | omega | (exfalso; omega) | contradiction | grind)]; rfl)
      · exact z_thrS_xA (pc := 27) (rest := []) (is := 177) (text := "not the name of a new folder") E hst0 hown (hts _ (List.mem_of_getElem? (i := 1) rfl)) (hts _ (List.mem_of_getElem? (i := 2) rfl)) (fun w h => hts w (List.mem_cons_of_mem _ (List.mem_append_left _ (List.mem_append_left _ (List.mem_append_right _ (h)))))) hX (List.mem_of_getElem? (i := 4) rfl) (hl.1.trans hml.symm) dX7_addFolder_27 dX7_addFolder_30 dX7_addFolder_31 dX7_addFolder_33 dX7_addFolder_36 htab (Nat.le_of_ble_eq_true rfl) (Nat.le_of_ble_eq_true rfl) (Nat.le_of_ble_eq_true rfl) (Nat.le_of_ble_eq_true rfl) hlocks (by rw [show (kxAddF σ p x) = 2 by (unfold kxAddF; (repeat' split) <;> first | rfl | omega | (exfalso; omega) | contradiction | grind)]; rfl)
  exact z_badV (pc := 2) (As := [.int (iI p)]) (rest := []) E hml hown hts (mxX7_needFolder lL hst0 G o ν σ π δ τ ω p hI (by omega) hc2) (cwV 1 hts gX7_addFolder_X7_needFolder rfl rfl rfl vdX7_needFolder ⟨Nat.le_of_ble_eq_true rfl, Nat.le_of_ble_eq_true rfl⟩) (oB.recv hK hQ.ob rfl) hQ hK hX rfl hl.1 rfl dX7_addFolder_2 ⟨Nat.le_of_ble_eq_true rfl, Nat.le_of_ble_eq_true rfl⟩ (Nat.le_of_ble_eq_true rfl) (by rw [show (kxAddF σ p x) = 1 by (unfold kxAddF; (repeat' split) <;> first | rfl | omega | (exfalso; omega) | contradiction | grind)]; rfl) htab hlocks
set_option maxHeartbeats 1000000 in
set_option maxRecDepth 100000 in
theorem mX7_addFolder (lL : Launch) (G : GG) (o : Nat → Nat) (ν σ : Int → Int) (π : Nat → Int → Int) (δ τ ω : Int → Int) (p : Int) (x : Int) (hI : In σ) (hp : -2147483648 ≤ p ∧ p < 2147483648) (hx : -9223372036854775808 ≤ x ∧ x < 9223372036854775808) (hok : (kxAddF σ p x) = 0) (hc : 0 ≤ ν 2 ∧ ν 2 ≤ 1000000) (hu : 0 ≤ ν 3 ∧ ν 3 ≤ 8) : Met lL yX7_addFolder wsX7_addFolder ({ frames := 4, cells := 0, slots := 0, locals := 153 } : Room) (va_Pc [.ref (o 0), .int (iI p), .long (iL x)] (fun U => QT G o ν σ π δ τ ω U.heap ∧ KK G U)) (va_Qi (fun r (_ : Unit) => r = (iI (σ 2))) (fun _ tZ => QT G o (zu (zu ν 2 (ν 2 + 1)) 3 (min (ν 3 + 1) 8)) (nxAddF σ p x) (pU π (ν 2 % 8) σ) δ τ ω tZ.heap) (Ax o 187)) 0 0 (Ax o 187) := by
  refine z_met (P := (fun H : Heap => QT G o ν σ π δ τ ω H)) (by decide) rfl (Nat.le_of_ble_eq_true rfl) (fun pp ee ss mm below meth cC E hr hml hown hts hlocks hQ hK ls hl => ?_)
  have hl : lv_has ls 4 [(0, .ref (o 0)), (1, .int (iI p)), (2, .long (iL x))] := hl
  have hcs : 0 ≤ (({ frames := 4, cells := 0, slots := 0, locals := 153 } : Room)).cells ∧ 0 ≤ (({ frames := 4, cells := 0, slots := 0, locals := 153 } : Room)).slots := ⟨Nat.zero_le _, Nat.zero_le _⟩
  have hS : va_S (Ax o 187) ss.heap ss.heap [] := va_S.rf
  have hin3 : ∀ w ∈ wsX30, w ∈ wsX7_addFolder := fun w h => List.mem_cons_of_mem _ (List.mem_append_left _ (List.mem_append_left _ (List.mem_append_left _ (List.mem_append_left _ (List.mem_append_left _ (List.mem_append_left _ (List.mem_append_right _ (h))))))))
  have hin6 : ∀ w ∈ wsX60, w ∈ wsX7_addFolder := fun w h => List.mem_cons_of_mem _ (List.mem_append_left _ (List.mem_append_left _ (List.mem_append_left _ (List.mem_append_left _ (List.mem_append_left _ (List.mem_append_left _ (List.mem_append_left _ (List.mem_append_right _ (h)))))))))
  have hin7 : ∀ w ∈ wsX70, w ∈ wsX7_addFolder := fun w h => List.mem_cons_of_mem _ (List.mem_append_left _ (List.mem_append_left _ (List.mem_append_left _ (List.mem_append_left _ (List.mem_append_left _ (List.mem_append_left _ (List.mem_append_left _ (List.mem_append_left _ (List.mem_append_right _ (h))))))))))
  have hF := hI.F
  have hMm := hI.M
  have hGn := hI.Gn
  have hTi := hI.ti
  have hGr := hI.gr
  have hoc := kxAddF_ok hok
  refine lv_aload_n (pc := 0) E.1 E.2 dX7_addFolder_0 rfl (lv_at hl 0 rfl) ?_
  refine lv_iload_n (pc := 1) E.1 E.2 dX7_addFolder_1 rfl (lv_at hl 1 rfl) ?_
  refine z_rVv (pc := 2) (As := [.int (iI p)]) (rest := []) E hml hown hts (mX7_needFolder lL G o ν σ π δ τ ω p hI (by omega) (by omega)) (cwV 1 hts gX7_addFolder_X7_needFolder rfl rfl rfl vdX7_needFolder ⟨Nat.le_of_ble_eq_true rfl, Nat.le_of_ble_eq_true rfl⟩) (oB.recv hK hQ.ob rfl) hQ hK rfl hl.1 rfl dX7_addFolder_2 hcs (Nat.le_of_ble_eq_true rfl) ?_
  refine lv_lload_n (pc := 5) E.1 E.2 dX7_addFolder_5 rfl (lv_at hl 2 rfl) ?_
  refine z_rSi (pc := 6) (P := fun _ => True) (As := [.long (iL x)]) (rest := []) E hml hown hts (mX7_isName lL G x (by omega)) (va_cwS 1 hts gX7_addFolder_X7_isName rfl rfl rfl vdX7_isName.2 ⟨Nat.le_of_ble_eq_true rfl, Nat.le_of_ble_eq_true rfl⟩) trivial hK rfl hl.1 rfl dX7_addFolder_6 hcs (Nat.le_of_ble_eq_true rfl) ?_
  refine z_ifb_eq (pc := 9) (tgt := 27) E dX7_addFolder_9 (by decide) (fun h9 => ?_) (fun h9 => ?_)
  · exact absurd hok (by unfold kxAddF; (repeat' split) <;> first | decide | omega | (exfalso; omega) | grind)
  · refine lv_aload_n (pc := 12) E.1 E.2 dX7_addFolder_12 rfl (lv_at hl 0 rfl) ?_
    refine g7_0 (pc := 13) E hts hin7 hown hK hQ.ob (hts _ (List.mem_of_getElem? (i := 5) rfl)) dX7_addFolder_13 ?_
    refine g6_0 (pc := 16) E hts hin6 hown hK hQ.nob (hts _ (List.mem_of_getElem? (i := 6) rfl)) dX7_addFolder_16 ?_
    refine lv_lload_n (pc := 19) E.1 E.2 dX7_addFolder_19 rfl (lv_at hl 2 rfl) ?_
    refine z_rVi (pc := 20) (As := [.long (iL x)]) (rest := []) E hml hown hts (mX3_numberOf lL G (fun k => o (1 + (1 + k))) σ x hI (by omega)) (cwV 1 hts gX7_addFolder_X3_numberOf rfl rfl rfl vdX3_numberOf ⟨Nat.le_of_ble_eq_true rfl, Nat.le_of_ble_eq_true rfl⟩) (oB.recv hK hQ.foo rfl) hQ.now.fo hK rfl hl.1 rfl dX7_addFolder_20 hcs (Nat.le_of_ble_eq_true rfl) ?_
    have hfn := fnS_r hI x
    refine z_iconst (pc := 23) E dX7_addFolder_23 ?_
    refine z_icmp_eq (pc := 24) (tgt := 37) E ⟨by omega, by omega⟩ (by decide) dX7_addFolder_24 (by decide) (fun h24 => ?_) (fun h24 => ?_)
    · refine lv_aload_n (pc := 37) E.1 E.2 dX7_addFolder_37 rfl (lv_at hl 0 rfl) ?_
      refine g7_0 (pc := 38) E hts hin7 hown hK hQ.ob (hts _ (List.mem_of_getElem? (i := 5) rfl)) dX7_addFolder_38 ?_
      refine g6_0 (pc := 41) E hts hin6 hown hK hQ.nob (hts _ (List.mem_of_getElem? (i := 6) rfl)) dX7_addFolder_41 ?_
      refine z_rVi (pc := 44) (As := []) (rest := []) E hml hown hts (mX3_isFull lL G (fun k => o (1 + (1 + k))) σ  hI) (cwV 0 hts gX7_addFolder_X3_isFull rfl rfl rfl vdX3_isFull ⟨Nat.le_of_ble_eq_true rfl, Nat.le_of_ble_eq_true rfl⟩) (oB.recv hK hQ.foo rfl) hQ.now.fo hK rfl hl.1 rfl dX7_addFolder_44 hcs (Nat.le_of_ble_eq_true rfl) ?_
      refine z_ifb_eq (pc := 47) (tgt := 60) E dX7_addFolder_47 (by decide) (fun h47 => ?_) (fun h47 => ?_)
      · have hnk : nmk x := (nkB_i x).mp hoc.2.1
        refine lv_aload_n (pc := 60) E.1 E.2 dX7_addFolder_60 rfl (lv_at hl 0 rfl) ?_
        refine z_wVv (pc := 61) (As := []) (rest := []) E hml hown hts (mX7_remember lL G o ν σ π δ τ ω  hI hc hu) (cwV 0 hts gX7_addFolder_X7_remember rfl rfl rfl vdX7_remember ⟨Nat.le_of_ble_eq_true rfl, Nat.le_of_ble_eq_true rfl⟩) (oB.recv hK hQ.ob rfl) hQ hK hS (fun _ h => h) rfl hl.1 rfl dX7_addFolder_61 hcs (Nat.le_of_ble_eq_true rfl) (fun H locs hnew hsz hoth hS => ?_)
        have hQ : QT G o (zu (zu ν 2 ((ν 2) + 1)) 3 (min ((ν 3) + 1) 8)) σ (pU π ((ν 2) % 8) σ) δ τ ω H := hnew
        refine lv_aload_n (pc := 64) E.1 E.2 dX7_addFolder_64 rfl (lv_at hl 0 rfl) ?_
        refine g7_0 (pc := 65) E hts hin7 hown hK hQ.ob (hts _ (List.mem_of_getElem? (i := 5) rfl)) dX7_addFolder_65 ?_
        refine g6_0 (pc := 68) E hts hin6 hown hK hQ.nob (hts _ (List.mem_of_getElem? (i := 6) rfl)) dX7_addFolder_68 ?_
        refine lv_iload_n (pc := 71) E.1 E.2 dX7_addFolder_71 rfl (lv_at hl 1 rfl) ?_
        refine lv_lload_n (pc := 72) E.1 E.2 dX7_addFolder_72 rfl (lv_at hl 2 rfl) ?_
        refine z_wVv (pc := 73) (As := [.int (iI p), .long (iL x)]) (rest := []) E hml hown hts (mX3_add lL G (fun k => o (1 + (1 + k))) σ p x hI (by omega) (by omega)) (cwV 2 hts gX7_addFolder_X3_add rfl rfl rfl vdX3_add ⟨Nat.le_of_ble_eq_true rfl, Nat.le_of_ble_eq_true rfl⟩) (oB.recv hK hQ.foo rfl) hQ.now.fo hK hS (Aq.up2 (by decide)) rfl hl.1 rfl dX7_addFolder_73 hcs (Nat.le_of_ble_eq_true rfl) (fun H locs hnew hsz hoth hS => ?_)
        have hQ := QT.upN hQ (ST.upFO hQ.now hnew (fun q h1 h2 => hoth q h1 h2) (fun j hj => adF_n hI (by omega) (by omega))) (fun q h1 h2 => hoth q h1 (fun z => h2 (Aq.in 1 1 18 4 (by decide) q z)))
        refine lv_aload_n (pc := 76) E.1 E.2 dX7_addFolder_76 rfl (lv_at hl 0 rfl) ?_
        refine g7_0 (pc := 77) E hts hin7 hown hK hQ.ob (hts _ (List.mem_of_getElem? (i := 5) rfl)) dX7_addFolder_77 ?_
        refine z_wVv (pc := 80) (As := []) (rest := []) E hml hown hts (mX6_setClocks lL G (fun k => o (1 + k)) (adF σ p x)  (hI.adFI (by omega) (by omega) hnk)) (cwV 0 hts gX7_addFolder_X6_setClocks rfl rfl rfl vdX6_setClocks ⟨Nat.le_of_ble_eq_true rfl, Nat.le_of_ble_eq_true rfl⟩) (oB.recv hK hQ.nob rfl) hQ.now hK hS (Aq.up (by decide)) rfl hl.1 rfl dX7_addFolder_80 hcs (Nat.le_of_ble_eq_true rfl) (fun H locs hnew hsz hoth hS => ?_)
        have hQ := QT.upN hQ hnew (fun q h1 h2 => hoth q h1 h2)
        refine lv_aload_n (pc := 83) E.1 E.2 dX7_addFolder_83 rfl (lv_at hl 0 rfl) ?_
        refine g7_0 (pc := 84) E hts hin7 hown hK hQ.ob (hts _ (List.mem_of_getElem? (i := 5) rfl)) dX7_addFolder_84 ?_
        refine g6_0 (pc := 87) E hts hin6 hown hK hQ.nob (hts _ (List.mem_of_getElem? (i := 6) rfl)) dX7_addFolder_87 ?_
        refine g3_3 (pc := 90) E hts hin3 hown hK hQ.foo (hts _ (List.mem_of_getElem? (i := 7) rfl)) dX7_addFolder_90 ?_
        rw [show ((scA (adF σ p x) 16) 2) = (σ 2 + 1) from (by rw [scA_n _ _ (by omega)]; exact zu_s _ _ _)]
        refine z_iconst (pc := 93) E dX7_addFolder_93 ?_
        refine z_isub (pc := 94) E dX7_addFolder_94 ?_
        exact z_retWi E hr (congrArg iI (by omega)) hQ hS hlocks dX7_addFolder_95
      · exact absurd hok (by unfold kxAddF; (repeat' split) <;> first | decide | omega | (exfalso; omega) | grind)
    · exact absurd hok (by unfold kxAddF; (repeat' split) <;> first | decide | omega | (exfalso; omega) | grind)
set_option maxHeartbeats 1000000 in
set_option maxRecDepth 100000 in
theorem mxX7_removeFolder (lL : Launch) (hst0 : lL.stackTraces = false) (G : GG) (o : Nat → Nat) (ν σ : Int → Int) (π : Nat → Int → Int) (δ τ ω : Int → Int) (f : Int) (hI : In σ) (hf : -2147483648 ≤ f ∧ f < 2147483648) (hbad : ¬ ((kxRemF σ f) = 0)) : vx_Met lL yX7_removeFolder wsX7_removeFolder ({ frames := 7, cells := 1, slots := 6, locals := 153 } : Room) (va_Pc [.ref (o 0), .int (iI f)] (fun U => QT G o ν σ π δ τ ω U.heap ∧ KK G U ∧ KX FF0 U U.heap)) (fun _ _ _ _ => False) (XCe (exq xI xS xI (kxRemF σ f))) 1 6 FF0 := by
  refine z_metX (P := (fun H : Heap => QT G o ν σ π δ τ ω H)) (by decide) rfl (Nat.le_of_ble_eq_true rfl) (fun pp ee ss mm below meth cC E hml hown hts hlocks htab hQ hK hX ls hl => ?_)
  have hl : lv_has ls 2 [(0, .ref (o 0)), (1, .int (iI f))] := hl
  have hcs : 0 ≤ (({ frames := 7, cells := 1, slots := 6, locals := 153 } : Room)).cells ∧ 0 ≤ (({ frames := 7, cells := 1, slots := 6, locals := 153 } : Room)).slots := ⟨Nat.zero_le _, Nat.zero_le _⟩
  have hin6 : ∀ w ∈ wsX60, w ∈ wsX7_removeFolder := fun w h => List.mem_cons_of_mem _ (List.mem_append_left _ (List.mem_append_left _ (List.mem_append_left _ (List.mem_append_left _ (List.mem_append_left _ (List.mem_append_left _ (List.mem_append_right _ (h))))))))
  have hin7 : ∀ w ∈ wsX70, w ∈ wsX7_removeFolder := fun w h => List.mem_cons_of_mem _ (List.mem_append_left _ (List.mem_append_left _ (List.mem_append_left _ (List.mem_append_left _ (List.mem_append_left _ (List.mem_append_left _ (List.mem_append_left _ (List.mem_append_right _ (h)))))))))
  have hF := hI.F
  have hMm := hI.M
  have hGn := hI.Gn
  have hTi := hI.ti
  have hGr := hI.gr
  refine lv_aload_n (pc := 0) E.1 E.2 dX7_removeFolder_0 rfl (lv_at hl 0 rfl) ?_
  refine lv_iload_n (pc := 1) E.1 E.2 dX7_removeFolder_1 rfl (lv_at hl 1 rfl) ?_
  by_cases hc2 : 0 ≤ f ∧ f < σ 2
  · refine z_rVv (pc := 2) (As := [.int (iI f)]) (rest := []) E hml hown hts (mX7_needFolder lL G o ν σ π δ τ ω f hI (by omega) (by omega)) (cwV 1 hts gX7_removeFolder_X7_needFolder rfl rfl rfl vdX7_needFolder ⟨Nat.le_of_ble_eq_true rfl, Nat.le_of_ble_eq_true rfl⟩) (oB.recv hK hQ.ob rfl) hQ hK rfl hl.1 rfl dX7_removeFolder_2 hcs (Nat.le_of_ble_eq_true rfl) ?_
    refine lv_iload_n (pc := 5) E.1 E.2 dX7_removeFolder_5 rfl (lv_at hl 1 rfl) ?_
    refine z_if_eq (pc := 6) (tgt := 37) E ⟨by omega, by omega⟩ dX7_removeFolder_6 (by decide) (fun h6 => ?_) (fun h6 => ?_)
    · exact z_thrS_xS (pc := 37) (rest := []) (is := 189) (text := "the folder is the root or not empty") E hst0 hown (hts _ (List.mem_of_getElem? (i := 1) rfl)) (hts _ (List.mem_of_getElem? (i := 2) rfl)) (fun w h => hts w (List.mem_cons_of_mem _ (List.mem_append_left _ (List.mem_append_right _ (h))))) hX (List.mem_of_getElem? (i := 6) rfl) (hl.1.trans hml.symm) dX7_removeFolder_37 dX7_removeFolder_40 dX7_removeFolder_41 dX7_removeFolder_43 dX7_removeFolder_46 htab (Nat.le_of_ble_eq_true rfl) (Nat.le_of_ble_eq_true rfl) (Nat.le_of_ble_eq_true rfl) (Nat.le_of_ble_eq_true rfl) hlocks (by rw [show (kxRemF σ f) = 2 by (unfold kxRemF; (repeat' split) <;> first | rfl | omega | (exfalso; omega) | contradiction | grind)]; rfl)
    · refine lv_aload_n (pc := 9) E.1 E.2 dX7_removeFolder_9 rfl (lv_at hl 0 rfl) ?_
      refine g7_0 (pc := 10) E hts hin7 hown hK hQ.ob (hts _ (List.mem_of_getElem? (i := 3) rfl)) dX7_removeFolder_10 ?_
      refine g6_0 (pc := 13) E hts hin6 hown hK hQ.nob (hts _ (List.mem_of_getElem? (i := 4) rfl)) dX7_removeFolder_13 ?_
      refine lv_iload_n (pc := 16) E.1 E.2 dX7_removeFolder_16 rfl (lv_at hl 1 rfl) ?_
      refine z_rVi (pc := 17) (As := [.int (iI f)]) (rest := []) E hml hown hts (mX3_childrenOf lL G (fun k => o (1 + (1 + k))) σ f hI (by omega)) (cwV 1 hts gX7_removeFolder_X3_childrenOf rfl rfl rfl vdX3_childrenOf ⟨Nat.le_of_ble_eq_true rfl, Nat.le_of_ble_eq_true rfl⟩) (oB.recv hK hQ.foo rfl) hQ.now.fo hK rfl hl.1 rfl dX7_removeFolder_17 hcs (Nat.le_of_ble_eq_true rfl) ?_
      have hbz := hI.biSb f
      refine z_if_gt (pc := 20) (tgt := 37) E ⟨by omega, by omega⟩ dX7_removeFolder_20 (by decide) (fun h20 => ?_) (fun h20 => ?_)
      · exact z_thrS_xS (pc := 37) (rest := []) (is := 189) (text := "the folder is the root or not empty") E hst0 hown (hts _ (List.mem_of_getElem? (i := 1) rfl)) (hts _ (List.mem_of_getElem? (i := 2) rfl)) (fun w h => hts w (List.mem_cons_of_mem _ (List.mem_append_left _ (List.mem_append_right _ (h))))) hX (List.mem_of_getElem? (i := 6) rfl) (hl.1.trans hml.symm) dX7_removeFolder_37 dX7_removeFolder_40 dX7_removeFolder_41 dX7_removeFolder_43 dX7_removeFolder_46 htab (Nat.le_of_ble_eq_true rfl) (Nat.le_of_ble_eq_true rfl) (Nat.le_of_ble_eq_true rfl) (Nat.le_of_ble_eq_true rfl) hlocks (by rw [show (kxRemF σ f) = 2 by (unfold kxRemF; (repeat' split) <;> first | rfl | omega | (exfalso; omega) | contradiction | grind)]; rfl)
      · refine lv_aload_n (pc := 23) E.1 E.2 dX7_removeFolder_23 rfl (lv_at hl 0 rfl) ?_
        refine g7_0 (pc := 24) E hts hin7 hown hK hQ.ob (hts _ (List.mem_of_getElem? (i := 3) rfl)) dX7_removeFolder_24 ?_
        refine g6_1 (pc := 27) E hts hin6 hown hK hQ.nob (hts _ (List.mem_of_getElem? (i := 5) rfl)) dX7_removeFolder_27 ?_
        refine lv_iload_n (pc := 30) E.1 E.2 dX7_removeFolder_30 rfl (lv_at hl 1 rfl) ?_
        refine z_rVi (pc := 31) (As := [.int (iI f)]) (rest := []) E hml hown hts (mX2_totalIn lL G (fun k => o (1 + (5 + k))) σ f hI (by omega)) (cwV 1 hts gX7_removeFolder_X2_totalIn rfl rfl rfl vdX2_totalIn ⟨Nat.le_of_ble_eq_true rfl, Nat.le_of_ble_eq_true rfl⟩) (oB.recv hK hQ.fio rfl) hQ.now.fi hK rfl hl.1 rfl dX7_removeFolder_31 hcs (Nat.le_of_ble_eq_true rfl) ?_
        have hfz := hI.fiSb f
        refine z_if_le (pc := 34) (tgt := 47) E ⟨by omega, by omega⟩ dX7_removeFolder_34 (by decide) (fun h34 => ?_) (fun h34 => ?_)
        · refine lv_aload_n (pc := 47) E.1 E.2 dX7_removeFolder_47 rfl (lv_at hl 0 rfl) ?_
          exact absurd (show (kxRemF σ f) = 0 by (unfold kxRemF; (repeat' split) <;> first | rfl | omega | (exfalso; omega) | contradiction | grind)) hbad
        · exact z_thrS_xS (pc := 37) (rest := []) (is := 189) (text := "the folder is the root or not empty") E hst0 hown (hts _ (List.mem_of_getElem? (i := 1) rfl)) (hts _ (List.mem_of_getElem? (i := 2) rfl)) (fun w h => hts w (List.mem_cons_of_mem _ (List.mem_append_left _ (List.mem_append_right _ (h))))) hX (List.mem_of_getElem? (i := 6) rfl) (hl.1.trans hml.symm) dX7_removeFolder_37 dX7_removeFolder_40 dX7_removeFolder_41 dX7_removeFolder_43 dX7_removeFolder_46 htab (Nat.le_of_ble_eq_true rfl) (Nat.le_of_ble_eq_true rfl) (Nat.le_of_ble_eq_true rfl) (Nat.le_of_ble_eq_true rfl) hlocks (by rw [show (kxRemF σ f) = 2 by (unfold kxRemF; (repeat' split) <;> first | rfl | omega | (exfalso; omega) | contradiction | grind)]; rfl)
  exact z_badV (pc := 2) (As := [.int (iI f)]) (rest := []) E hml hown hts (mxX7_needFolder lL hst0 G o ν σ π δ τ ω f hI (by omega) hc2) (cwV 1 hts gX7_removeFolder_X7_needFolder rfl rfl rfl vdX7_needFolder ⟨Nat.le_of_ble_eq_true rfl, Nat.le_of_ble_eq_true rfl⟩) (oB.recv hK hQ.ob rfl) hQ hK hX rfl hl.1 rfl dX7_removeFolder_2 ⟨Nat.le_of_ble_eq_true rfl, Nat.le_of_ble_eq_true rfl⟩ (Nat.le_of_ble_eq_true rfl) (by rw [show (kxRemF σ f) = 1 by (unfold kxRemF; (repeat' split) <;> first | rfl | omega | (exfalso; omega) | contradiction | grind)]; rfl) htab hlocks
set_option maxHeartbeats 1000000 in
set_option maxRecDepth 100000 in
theorem mX7_removeFolder (lL : Launch) (G : GG) (o : Nat → Nat) (ν σ : Int → Int) (π : Nat → Int → Int) (δ τ ω : Int → Int) (f : Int) (hI : In σ) (hf : -2147483648 ≤ f ∧ f < 2147483648) (hok : (kxRemF σ f) = 0) (hc : 0 ≤ ν 2 ∧ ν 2 ≤ 1000000) (hu : 0 ≤ ν 3 ∧ ν 3 ≤ 8) : Met lL yX7_removeFolder wsX7_removeFolder ({ frames := 4, cells := 0, slots := 0, locals := 153 } : Room) (va_Pc [.ref (o 0), .int (iI f)] (fun U => QT G o ν σ π δ τ ω U.heap ∧ KK G U)) (va_Qi (fun r (_ : Unit) => r = (iI (σ 2 - 1))) (fun _ tZ => QT G o (zu (zu ν 2 (ν 2 + 1)) 3 (min (ν 3 + 1) 8)) (nxRemF σ f) (pU π (ν 2 % 8) σ) δ τ ω tZ.heap) (Ax o 187)) 0 0 (Ax o 187) := by
  refine z_met (P := (fun H : Heap => QT G o ν σ π δ τ ω H)) (by decide) rfl (Nat.le_of_ble_eq_true rfl) (fun pp ee ss mm below meth cC E hr hml hown hts hlocks hQ hK ls hl => ?_)
  have hl : lv_has ls 2 [(0, .ref (o 0)), (1, .int (iI f))] := hl
  have hcs : 0 ≤ (({ frames := 4, cells := 0, slots := 0, locals := 153 } : Room)).cells ∧ 0 ≤ (({ frames := 4, cells := 0, slots := 0, locals := 153 } : Room)).slots := ⟨Nat.zero_le _, Nat.zero_le _⟩
  have hS : va_S (Ax o 187) ss.heap ss.heap [] := va_S.rf
  have hin3 : ∀ w ∈ wsX30, w ∈ wsX7_removeFolder := fun w h => List.mem_cons_of_mem _ (List.mem_append_left _ (List.mem_append_left _ (List.mem_append_left _ (List.mem_append_left _ (List.mem_append_left _ (List.mem_append_right _ (h)))))))
  have hin6 : ∀ w ∈ wsX60, w ∈ wsX7_removeFolder := fun w h => List.mem_cons_of_mem _ (List.mem_append_left _ (List.mem_append_left _ (List.mem_append_left _ (List.mem_append_left _ (List.mem_append_left _ (List.mem_append_left _ (List.mem_append_right _ (h))))))))
  have hin7 : ∀ w ∈ wsX70, w ∈ wsX7_removeFolder := fun w h => List.mem_cons_of_mem _ (List.mem_append_left _ (List.mem_append_left _ (List.mem_append_left _ (List.mem_append_left _ (List.mem_append_left _ (List.mem_append_left _ (List.mem_append_left _ (List.mem_append_right _ (h)))))))))
  have hF := hI.F
  have hMm := hI.M
  have hGn := hI.Gn
  have hTi := hI.ti
  have hGr := hI.gr
  have hoc := kxRemF_ok hok
  have hf1 : 1 ≤ f ∧ f < σ 2 := by omega
  have hbz := hI.biSb f
  have hfz := hI.fiSb f
  have hb0 : biS σ f = 0 := by omega
  have hl0 : fiS σ f = 0 := by omega
  have hIr := hI.rfAI hf1 hb0 hl0
  have e3 : dcA (rf1 σ f) 69 f (σ 2 - 1) 3 = σ 3 := fr_n hI hf1 (by omega)
  refine lv_aload_n (pc := 0) E.1 E.2 dX7_removeFolder_0 rfl (lv_at hl 0 rfl) ?_
  refine lv_iload_n (pc := 1) E.1 E.2 dX7_removeFolder_1 rfl (lv_at hl 1 rfl) ?_
  refine z_rVv (pc := 2) (As := [.int (iI f)]) (rest := []) E hml hown hts (mX7_needFolder lL G o ν σ π δ τ ω f hI (by omega) (by omega)) (cwV 1 hts gX7_removeFolder_X7_needFolder rfl rfl rfl vdX7_needFolder ⟨Nat.le_of_ble_eq_true rfl, Nat.le_of_ble_eq_true rfl⟩) (oB.recv hK hQ.ob rfl) hQ hK rfl hl.1 rfl dX7_removeFolder_2 hcs (Nat.le_of_ble_eq_true rfl) ?_
  refine lv_iload_n (pc := 5) E.1 E.2 dX7_removeFolder_5 rfl (lv_at hl 1 rfl) ?_
  refine z_if_eq (pc := 6) (tgt := 37) E ⟨by omega, by omega⟩ dX7_removeFolder_6 (by decide) (fun h6 => ?_) (fun h6 => ?_)
  · exact absurd hok (by unfold kxRemF; (repeat' split) <;> first | decide | omega | (exfalso; omega) | grind)
  · refine lv_aload_n (pc := 9) E.1 E.2 dX7_removeFolder_9 rfl (lv_at hl 0 rfl) ?_
    refine g7_0 (pc := 10) E hts hin7 hown hK hQ.ob (hts _ (List.mem_of_getElem? (i := 3) rfl)) dX7_removeFolder_10 ?_
    refine g6_0 (pc := 13) E hts hin6 hown hK hQ.nob (hts _ (List.mem_of_getElem? (i := 4) rfl)) dX7_removeFolder_13 ?_
    refine lv_iload_n (pc := 16) E.1 E.2 dX7_removeFolder_16 rfl (lv_at hl 1 rfl) ?_
    refine z_rVi (pc := 17) (As := [.int (iI f)]) (rest := []) E hml hown hts (mX3_childrenOf lL G (fun k => o (1 + (1 + k))) σ f hI (by omega)) (cwV 1 hts gX7_removeFolder_X3_childrenOf rfl rfl rfl vdX3_childrenOf ⟨Nat.le_of_ble_eq_true rfl, Nat.le_of_ble_eq_true rfl⟩) (oB.recv hK hQ.foo rfl) hQ.now.fo hK rfl hl.1 rfl dX7_removeFolder_17 hcs (Nat.le_of_ble_eq_true rfl) ?_
    refine z_if_gt (pc := 20) (tgt := 37) E ⟨by omega, by omega⟩ dX7_removeFolder_20 (by decide) (fun h20 => ?_) (fun h20 => ?_)
    · exact absurd hok (by unfold kxRemF; (repeat' split) <;> first | decide | omega | (exfalso; omega) | grind)
    · refine lv_aload_n (pc := 23) E.1 E.2 dX7_removeFolder_23 rfl (lv_at hl 0 rfl) ?_
      refine g7_0 (pc := 24) E hts hin7 hown hK hQ.ob (hts _ (List.mem_of_getElem? (i := 3) rfl)) dX7_removeFolder_24 ?_
      refine g6_1 (pc := 27) E hts hin6 hown hK hQ.nob (hts _ (List.mem_of_getElem? (i := 5) rfl)) dX7_removeFolder_27 ?_
      refine lv_iload_n (pc := 30) E.1 E.2 dX7_removeFolder_30 rfl (lv_at hl 1 rfl) ?_
      refine z_rVi (pc := 31) (As := [.int (iI f)]) (rest := []) E hml hown hts (mX2_totalIn lL G (fun k => o (1 + (5 + k))) σ f hI (by omega)) (cwV 1 hts gX7_removeFolder_X2_totalIn rfl rfl rfl vdX2_totalIn ⟨Nat.le_of_ble_eq_true rfl, Nat.le_of_ble_eq_true rfl⟩) (oB.recv hK hQ.fio rfl) hQ.now.fi hK rfl hl.1 rfl dX7_removeFolder_31 hcs (Nat.le_of_ble_eq_true rfl) ?_
      refine z_if_le (pc := 34) (tgt := 47) E ⟨by omega, by omega⟩ dX7_removeFolder_34 (by decide) (fun h34 => ?_) (fun h34 => ?_)
      · refine lv_aload_n (pc := 47) E.1 E.2 dX7_removeFolder_47 rfl (lv_at hl 0 rfl) ?_
        refine z_wVv (pc := 48) (As := []) (rest := []) E hml hown hts (mX7_remember lL G o ν σ π δ τ ω  hI hc hu) (cwV 0 hts gX7_removeFolder_X7_remember rfl rfl rfl vdX7_remember ⟨Nat.le_of_ble_eq_true rfl, Nat.le_of_ble_eq_true rfl⟩) (oB.recv hK hQ.ob rfl) hQ hK hS (fun _ h => h) rfl hl.1 rfl dX7_removeFolder_48 hcs (Nat.le_of_ble_eq_true rfl) (fun H locs hnew hsz hoth hS => ?_)
        have hQ : QT G o (zu (zu ν 2 ((ν 2) + 1)) 3 (min ((ν 3) + 1) 8)) σ (pU π ((ν 2) % 8) σ) δ τ ω H := hnew
        refine lv_aload_n (pc := 51) E.1 E.2 dX7_removeFolder_51 rfl (lv_at hl 0 rfl) ?_
        refine g7_0 (pc := 52) E hts hin7 hown hK hQ.ob (hts _ (List.mem_of_getElem? (i := 3) rfl)) dX7_removeFolder_52 ?_
        refine g6_0 (pc := 55) E hts hin6 hown hK hQ.nob (hts _ (List.mem_of_getElem? (i := 4) rfl)) dX7_removeFolder_55 ?_
        refine lv_iload_n (pc := 58) E.1 E.2 dX7_removeFolder_58 rfl (lv_at hl 1 rfl) ?_
        refine z_wVv (pc := 59) (As := [.int (iI f)]) (rest := []) E hml hown hts (mX3_removeAt lL G (fun k => o (1 + (1 + k))) σ f hI (by omega)) (cwV 1 hts gX7_removeFolder_X3_removeAt rfl rfl rfl vdX3_removeAt ⟨Nat.le_of_ble_eq_true rfl, Nat.le_of_ble_eq_true rfl⟩) (oB.recv hK hQ.foo rfl) hQ.now.fo hK hS (Aq.up2 (by decide)) rfl hl.1 rfl dX7_removeFolder_59 hcs (Nat.le_of_ble_eq_true rfl) (fun H locs hnew hsz hoth hS => ?_)
        have hQ := QT.upN hQ (ST.upFO hQ.now hnew (fun q h1 h2 => hoth q h1 h2) (fun j hj => fr_n hI hf1 (by omega))) (fun q h1 h2 => hoth q h1 (fun z => h2 (Aq.in 1 1 18 4 (by decide) q z)))
        refine lv_aload_n (pc := 62) E.1 E.2 dX7_removeFolder_62 rfl (lv_at hl 0 rfl) ?_
        refine g7_0 (pc := 63) E hts hin7 hown hK hQ.ob (hts _ (List.mem_of_getElem? (i := 3) rfl)) dX7_removeFolder_63 ?_
        refine g6_1 (pc := 66) E hts hin6 hown hK hQ.nob (hts _ (List.mem_of_getElem? (i := 5) rfl)) dX7_removeFolder_66 ?_
        refine lv_iload_n (pc := 69) E.1 E.2 dX7_removeFolder_69 rfl (lv_at hl 1 rfl) ?_
        refine z_wVv (pc := 70) (As := [.int (iI f)]) (rest := []) E hml hown hts (mX2_closeGap lL G (fun k => o (1 + (5 + k))) ((dcA (rf1 σ f) 69 f (σ 2 - 1))) f  (by rw [e3]; exact hMm) (by omega) (fun k h0 h1 => by rw [e3] at h1; rw [rf1_m hI hf1 h0]; have q := hI.fil h0 h1; omega)) (cwV 1 hts gX7_removeFolder_X2_closeGap rfl rfl rfl vdX2_closeGap ⟨Nat.le_of_ble_eq_true rfl, Nat.le_of_ble_eq_true rfl⟩) (oB.recv hK hQ.fio rfl) hQ.now.fi hK hS (Aq.up2 (by decide)) rfl hl.1 rfl dX7_removeFolder_70 hcs (Nat.le_of_ble_eq_true rfl) (fun H locs hnew hsz hoth hS => ?_)
        have hQ := QT.upN hQ (ST.upFI hQ.now hnew (fun q h1 h2 => hoth q h1 h2) (fun j hj => dcA_m (by rw [e3]; omega)) (by rw [fr_2 hF hf1]; omega)) (fun q h1 h2 => hoth q h1 (fun z => h2 (Aq.in 1 5 18 3 (by decide) q z)))
        rw [e3] at hQ
        have hQ : QT G o (zu (zu ν 2 ((ν 2) + 1)) 3 (min ((ν 3) + 1) 8)) (rfA σ f) (pU π ((ν 2) % 8) σ) δ τ ω H := hQ
        refine lv_aload_n (pc := 73) E.1 E.2 dX7_removeFolder_73 rfl (lv_at hl 0 rfl) ?_
        refine g7_0 (pc := 74) E hts hin7 hown hK hQ.ob (hts _ (List.mem_of_getElem? (i := 3) rfl)) dX7_removeFolder_74 ?_
        refine z_wVv (pc := 77) (As := []) (rest := []) E hml hown hts (mX6_setClocks lL G (fun k => o (1 + k)) (rfA σ f)  hIr) (cwV 0 hts gX7_removeFolder_X6_setClocks rfl rfl rfl vdX6_setClocks ⟨Nat.le_of_ble_eq_true rfl, Nat.le_of_ble_eq_true rfl⟩) (oB.recv hK hQ.nob rfl) hQ.now hK hS (Aq.up (by decide)) rfl hl.1 rfl dX7_removeFolder_77 hcs (Nat.le_of_ble_eq_true rfl) (fun H locs hnew hsz hoth hS => ?_)
        have hQ := QT.upN hQ hnew (fun q h1 h2 => hoth q h1 h2)
        refine lv_aload_n (pc := 80) E.1 E.2 dX7_removeFolder_80 rfl (lv_at hl 0 rfl) ?_
        refine g7_0 (pc := 81) E hts hin7 hown hK hQ.ob (hts _ (List.mem_of_getElem? (i := 3) rfl)) dX7_removeFolder_81 ?_
        refine g6_0 (pc := 84) E hts hin6 hown hK hQ.nob (hts _ (List.mem_of_getElem? (i := 4) rfl)) dX7_removeFolder_84 ?_
        refine g3_3 (pc := 87) E hts hin3 hown hK hQ.foo (hts _ (List.mem_of_getElem? (i := 6) rfl)) dX7_removeFolder_87 ?_
        rw [show ((scA (rfA σ f) 16) 2) = (σ 2 - 1) from (by rw [scA_n _ _ (by omega)]; exact rfA_2 hI hf1)]
        exact z_retWi E hr rfl hQ hS hlocks dX7_removeFolder_90
      · exact absurd hok (by unfold kxRemF; (repeat' split) <;> first | decide | omega | (exfalso; omega) | grind)
set_option maxHeartbeats 1000000 in
set_option maxRecDepth 100000 in
theorem mxX7_tag (lL : Launch) (hst0 : lL.stackTraces = false) (G : GG) (o : Nat → Nat) (ν σ : Int → Int) (π : Nat → Int → Int) (δ τ ω : Int → Int) (f : Int) (t : Int) (hI : In σ) (hf : -2147483648 ≤ f ∧ f < 2147483648) (ht : -2147483648 ≤ t ∧ t < 2147483648) (hbad : ¬ ((kxTag σ f t) = 0)) : vx_Met lL yX7_tag wsX7_tag ({ frames := 8, cells := 1, slots := 6, locals := 157 } : Room) (va_Pc [.ref (o 0), .int (iI f), .int (iI t)] (fun U => QT G o ν σ π δ τ ω U.heap ∧ KK G U ∧ KX FF0 U U.heap)) (fun _ _ _ _ => False) (XCe (exq xI xA xS (kxTag σ f t))) 1 6 FF0 := by
  refine z_metX (P := (fun H : Heap => QT G o ν σ π δ τ ω H)) (by decide) rfl (Nat.le_of_ble_eq_true rfl) (fun pp ee ss mm below meth cC E hml hown hts hlocks htab hQ hK hX ls hl => ?_)
  have hl : lv_has ls 4 [(0, .ref (o 0)), (1, .int (iI f)), (2, .int (iI t))] := hl
  have hcs : 0 ≤ (({ frames := 8, cells := 1, slots := 6, locals := 157 } : Room)).cells ∧ 0 ≤ (({ frames := 8, cells := 1, slots := 6, locals := 157 } : Room)).slots := ⟨Nat.zero_le _, Nat.zero_le _⟩
  have hF := hI.F
  have hMm := hI.M
  have hGn := hI.Gn
  have hTi := hI.ti
  have hGr := hI.gr
  refine lv_aload_n (pc := 0) E.1 E.2 dX7_tag_0 rfl (lv_at hl 0 rfl) ?_
  refine lv_iload_n (pc := 1) E.1 E.2 dX7_tag_1 rfl (lv_at hl 1 rfl) ?_
  refine lv_iload_n (pc := 2) E.1 E.2 dX7_tag_2 rfl (lv_at hl 2 rfl) ?_
  by_cases hc3 : (kxTagR σ f t) = 0
  · have hoc3 := kxTagR_ok hc3
    refine z_rVi (pc := 3) (As := [.int (iI f), .int (iI t)]) (rest := []) E hml hown hts (mX7_tagReason lL G o ν σ π δ τ ω f t hI (by omega) (by omega) (by unfold kxTagR; (repeat' split) <;> first | rfl | omega | (exfalso; omega) | contradiction | grind)) (cwV 2 hts gX7_tag_X7_tagReason rfl rfl rfl vdX7_tagReason ⟨Nat.le_of_ble_eq_true rfl, Nat.le_of_ble_eq_true rfl⟩) (oB.recv hK hQ.ob rfl) hQ hK rfl hl.1 rfl dX7_tag_3 hcs (Nat.le_of_ble_eq_true rfl) ?_
    have hrt := rtS_b σ f t
    by_cases hc6 : (rtS σ f t) = 0
    · refine z_rSv (pc := 6) (P := fun _ => True) (As := [.int (iI (rtS σ f t))]) (rest := []) E hml hown hts (mX7_needNoReason lL G (rtS σ f t) (by omega) (by omega)) (va_cwS 1 hts gX7_tag_X7_needNoReason rfl rfl rfl vdX7_needNoReason.2 ⟨Nat.le_of_ble_eq_true rfl, Nat.le_of_ble_eq_true rfl⟩) trivial hK rfl hl.1 rfl dX7_tag_6 hcs (Nat.le_of_ble_eq_true rfl) ?_
      refine lv_aload_n (pc := 9) E.1 E.2 dX7_tag_9 rfl (lv_at hl 0 rfl) ?_
      exact absurd (show (kxTag σ f t) = 0 by (unfold kxTag; (repeat' split) <;> first | rfl | omega | (exfalso; omega) | contradiction | grind)) hbad
    exact z_badS (pc := 6) (P := fun _ => True) (As := [.int (iI (rtS σ f t))]) (rest := []) E hml hown hts (mxX7_needNoReason lL hst0 G (rtS σ f t) (by omega) hc6) (va_cwS 1 hts gX7_tag_X7_needNoReason rfl rfl rfl vdX7_needNoReason.2 ⟨Nat.le_of_ble_eq_true rfl, Nat.le_of_ble_eq_true rfl⟩) trivial hK hX rfl hl.1 rfl dX7_tag_6 ⟨Nat.le_of_ble_eq_true rfl, Nat.le_of_ble_eq_true rfl⟩ (Nat.le_of_ble_eq_true rfl) (by rw [show (kxTag σ f t) = 3 by (unfold kxTag; (repeat' split) <;> first | rfl | omega | (exfalso; omega) | contradiction | grind)]; rfl) htab hlocks
  exact z_badV (pc := 3) (As := [.int (iI f), .int (iI t)]) (rest := []) E hml hown hts (mxX7_tagReason lL hst0 G o ν σ π δ τ ω f t hI (by omega) (by omega) hc3) (cwV 2 hts gX7_tag_X7_tagReason rfl rfl rfl vdX7_tagReason ⟨Nat.le_of_ble_eq_true rfl, Nat.le_of_ble_eq_true rfl⟩) (oB.recv hK hQ.ob rfl) hQ hK hX rfl hl.1 rfl dX7_tag_3 ⟨Nat.le_of_ble_eq_true rfl, Nat.le_of_ble_eq_true rfl⟩ (Nat.le_of_ble_eq_true rfl) (by unfold kxTagR at hc3 ⊢; unfold kxTag; (repeat' split) <;> first | rfl | omega | (exfalso; omega) | (exfalso; exact hc3 (by rw [if_pos (by assumption), if_pos (by assumption)])) | (exfalso; exact hc3 (if_pos (by assumption))) | grind) htab hlocks
set_option maxHeartbeats 1000000 in
set_option maxRecDepth 100000 in
theorem mX7_tag (lL : Launch) (G : GG) (o : Nat → Nat) (ν σ : Int → Int) (π : Nat → Int → Int) (δ τ ω : Int → Int) (f : Int) (t : Int) (hI : In σ) (hf : -2147483648 ≤ f ∧ f < 2147483648) (ht : -2147483648 ≤ t ∧ t < 2147483648) (hok : (kxTag σ f t) = 0) (hc : 0 ≤ ν 2 ∧ ν 2 ≤ 1000000) (hu : 0 ≤ ν 3 ∧ ν 3 ≤ 8) (hU : Ub σ) : Met lL yX7_tag wsX7_tag ({ frames := 6, cells := 0, slots := 0, locals := 157 } : Room) (va_Pc [.ref (o 0), .int (iI f), .int (iI t)] (fun U => QT G o ν σ π δ τ ω U.heap ∧ KK G U)) (va_Qi (fun r (_ : Unit) => r = (iI (axTag σ f t))) (fun _ tZ => QT G o (zu (zu ν 2 (ν 2 + 1)) 3 (min (ν 3 + 1) 8)) (nxTag σ f t) (pU π (ν 2 % 8) σ) δ τ ω tZ.heap) (Ax o 187)) 0 0 (Ax o 187) := by
  refine z_met (P := (fun H : Heap => QT G o ν σ π δ τ ω H)) (by decide) rfl (Nat.le_of_ble_eq_true rfl) (fun pp ee ss mm below meth cC E hr hml hown hts hlocks hQ hK ls hl => ?_)
  have hl : lv_has ls 4 [(0, .ref (o 0)), (1, .int (iI f)), (2, .int (iI t))] := hl
  have hcs : 0 ≤ (({ frames := 6, cells := 0, slots := 0, locals := 157 } : Room)).cells ∧ 0 ≤ (({ frames := 6, cells := 0, slots := 0, locals := 157 } : Room)).slots := ⟨Nat.zero_le _, Nat.zero_le _⟩
  have hS : va_S (Ax o 187) ss.heap ss.heap [] := va_S.rf
  have hin6 : ∀ w ∈ wsX60, w ∈ wsX7_tag := fun w h => List.mem_cons_of_mem _ (List.mem_append_left _ (List.mem_append_left _ (List.mem_append_left _ (List.mem_append_left _ (List.mem_append_left _ (List.mem_append_left _ (List.mem_append_left _ (List.mem_append_right _ (h)))))))))
  have hin7 : ∀ w ∈ wsX70, w ∈ wsX7_tag := fun w h => List.mem_cons_of_mem _ (List.mem_append_left _ (List.mem_append_left _ (List.mem_append_left _ (List.mem_append_left _ (List.mem_append_left _ (List.mem_append_left _ (List.mem_append_left _ (List.mem_append_left _ (List.mem_append_right _ (h))))))))))
  have hF := hI.F
  have hMm := hI.M
  have hGn := hI.Gn
  have hTi := hI.ti
  have hGr := hI.gr
  have hoc := kxTag_ok hok
  have hpj := hI.pjr (f := f) (Or.inr hoc.1)
  have hpw := hI.pwb (f := f) (t := t) hoc.1 hoc.2.1
  refine lv_aload_n (pc := 0) E.1 E.2 dX7_tag_0 rfl (lv_at hl 0 rfl) ?_
  refine lv_iload_n (pc := 1) E.1 E.2 dX7_tag_1 rfl (lv_at hl 1 rfl) ?_
  refine lv_iload_n (pc := 2) E.1 E.2 dX7_tag_2 rfl (lv_at hl 2 rfl) ?_
  refine z_rVi (pc := 3) (As := [.int (iI f), .int (iI t)]) (rest := []) E hml hown hts (mX7_tagReason lL G o ν σ π δ τ ω f t hI (by omega) (by omega) (by unfold kxTagR; (repeat' split) <;> first | rfl | omega | (exfalso; omega) | contradiction | grind)) (cwV 2 hts gX7_tag_X7_tagReason rfl rfl rfl vdX7_tagReason ⟨Nat.le_of_ble_eq_true rfl, Nat.le_of_ble_eq_true rfl⟩) (oB.recv hK hQ.ob rfl) hQ hK rfl hl.1 rfl dX7_tag_3 hcs (Nat.le_of_ble_eq_true rfl) ?_
  have hrt := rtS_b σ f t
  refine z_rSv (pc := 6) (P := fun _ => True) (As := [.int (iI (rtS σ f t))]) (rest := []) E hml hown hts (mX7_needNoReason lL G (rtS σ f t) (by omega) (by omega)) (va_cwS 1 hts gX7_tag_X7_needNoReason rfl rfl rfl vdX7_needNoReason.2 ⟨Nat.le_of_ble_eq_true rfl, Nat.le_of_ble_eq_true rfl⟩) trivial hK rfl hl.1 rfl dX7_tag_6 hcs (Nat.le_of_ble_eq_true rfl) ?_
  refine lv_aload_n (pc := 9) E.1 E.2 dX7_tag_9 rfl (lv_at hl 0 rfl) ?_
  refine z_wVv (pc := 10) (As := []) (rest := []) E hml hown hts (mX7_remember lL G o ν σ π δ τ ω  hI hc hu) (cwV 0 hts gX7_tag_X7_remember rfl rfl rfl vdX7_remember ⟨Nat.le_of_ble_eq_true rfl, Nat.le_of_ble_eq_true rfl⟩) (oB.recv hK hQ.ob rfl) hQ hK hS (fun _ h => h) rfl hl.1 rfl dX7_tag_10 hcs (Nat.le_of_ble_eq_true rfl) (fun H locs hnew hsz hoth hS => ?_)
  have hQ : QT G o (zu (zu ν 2 ((ν 2) + 1)) 3 (min ((ν 3) + 1) 8)) σ (pU π ((ν 2) % 8) σ) δ τ ω H := hnew
  refine lv_aload_n (pc := 13) E.1 E.2 dX7_tag_13 rfl (lv_at hl 0 rfl) ?_
  refine g7_0 (pc := 14) E hts hin7 hown hK hQ.ob (hts _ (List.mem_of_getElem? (i := 1) rfl)) dX7_tag_14 ?_
  refine lv_iload_n (pc := 17) E.1 E.2 dX7_tag_17 rfl (lv_at hl 1 rfl) ?_
  refine lv_aload_n (pc := 18) E.1 E.2 dX7_tag_18 rfl (lv_at hl 0 rfl) ?_
  refine g7_0 (pc := 19) E hts hin7 hown hK hQ.ob (hts _ (List.mem_of_getElem? (i := 1) rfl)) dX7_tag_19 ?_
  refine g6_0 (pc := 22) E hts hin6 hown hK hQ.nob (hts _ (List.mem_of_getElem? (i := 2) rfl)) dX7_tag_22 ?_
  refine lv_iload_n (pc := 25) E.1 E.2 dX7_tag_25 rfl (lv_at hl 1 rfl) ?_
  refine lv_iload_n (pc := 26) E.1 E.2 dX7_tag_26 rfl (lv_at hl 2 rfl) ?_
  refine z_rVi (pc := 27) (As := [.int (iI f), .int (iI t)]) (rest := [.int (iI f), .ref (o 1)]) E hml hown hts (mX3_projectIfTagged lL G (fun k => o (1 + (1 + k))) σ f t hI (by omega) (by omega)) (cwV 2 hts gX7_tag_X3_projectIfTagged rfl rfl rfl vdX3_projectIfTagged ⟨Nat.le_of_ble_eq_true rfl, Nat.le_of_ble_eq_true rfl⟩) (oB.recv hK hQ.foo rfl) hQ.now.fo hK rfl hl.1 rfl dX7_tag_27 hcs (Nat.le_of_ble_eq_true rfl) ?_
  refine z_wVi (pc := 30) (As := [.int (iI f), .int (iI (pwS σ f t))]) (rest := []) E hml hown hts (mX6_transferOpenPart lL G (fun k => o (1 + k)) σ f (pwS σ f t) hI (by omega) (by omega)) (cwV 2 hts gX7_tag_X6_transferOpenPart rfl rfl rfl vdX6_transferOpenPart ⟨Nat.le_of_ble_eq_true rfl, Nat.le_of_ble_eq_true rfl⟩) (oB.recv hK hQ.nob rfl) hQ.now hK hS (Aq.up (by decide)) rfl hl.1 rfl dX7_tag_30 hcs (Nat.le_of_ble_eq_true rfl) (fun H locs hnew hsz hoth hS => ?_)
  have hQ := QT.upN hQ hnew (fun q h1 h2 => hoth q h1 h2)
  refine lv_istore_n (pc := 33) (lv' := [(3, .int (iI (if pjF σ f = (pwS σ f t) then 0 else opS σ f 0))), (0, .ref (o 0)), (1, .int (iI f)), (2, .int (iI t))]) E.1 E.2 dX7_tag_33 rfl hl (by decide) rfl (fun ls hl => ?_)
  refine lv_aload_n (pc := 34) E.1 E.2 dX7_tag_34 rfl (lv_at hl 1 rfl) ?_
  refine g7_0 (pc := 35) E hts hin7 hown hK hQ.ob (hts _ (List.mem_of_getElem? (i := 1) rfl)) dX7_tag_35 ?_
  refine g6_0 (pc := 38) E hts hin6 hown hK hQ.nob (hts _ (List.mem_of_getElem? (i := 2) rfl)) dX7_tag_38 ?_
  refine lv_iload_n (pc := 41) E.1 E.2 dX7_tag_41 rfl (lv_at hl 2 rfl) ?_
  refine lv_iload_n (pc := 42) E.1 E.2 dX7_tag_42 rfl (lv_at hl 3 rfl) ?_
  refine z_wVv (pc := 43) (As := [.int (iI f), .int (iI t)]) (rest := []) E hml hown hts (mX3_setTag lL G (fun k => o (1 + (1 + k))) (paA σ f (pjF σ f) (pwS σ f t)) f t (hI.paAI f hpj hpw hU) (by rw [paA_n hpj hpw (by omega)]; exact hoc.1) (by omega)) (cwV 2 hts gX7_tag_X3_setTag rfl rfl rfl vdX3_setTag ⟨Nat.le_of_ble_eq_true rfl, Nat.le_of_ble_eq_true rfl⟩) (oB.recv hK hQ.foo rfl) hQ.now.fo hK hS (Aq.up2 (by decide)) rfl hl.1 rfl dX7_tag_43 hcs (Nat.le_of_ble_eq_true rfl) (fun H locs hnew hsz hoth hS => ?_)
  have hQ := QT.upN hQ (ST.upFO hQ.now hnew (fun q h1 h2 => hoth q h1 h2) (fun j hj => by first | rw [zu_n _ _ (by omega)] | rw [zu_n _ _ (by omega), zu_n _ _ (by omega)])) (fun q h1 h2 => hoth q h1 (fun z => h2 (Aq.in 1 1 18 4 (by decide) q z)))
  refine lv_aload_n (pc := 46) E.1 E.2 dX7_tag_46 rfl (lv_at hl 1 rfl) ?_
  refine g7_0 (pc := 47) E hts hin7 hown hK hQ.ob (hts _ (List.mem_of_getElem? (i := 1) rfl)) dX7_tag_47 ?_
  refine z_wVv (pc := 50) (As := []) (rest := []) E hml hown hts (mX6_setClocks lL G (fun k => o (1 + k)) (zu (paA σ f (pjF σ f) (pwS σ f t)) (109 + f) t)  ((hI.paAI f hpj hpw hU).tagS (by rw [paA_n hpj hpw (by omega)]; exact hoc.1) hoc.2.1)) (cwV 0 hts gX7_tag_X6_setClocks rfl rfl rfl vdX6_setClocks ⟨Nat.le_of_ble_eq_true rfl, Nat.le_of_ble_eq_true rfl⟩) (oB.recv hK hQ.nob rfl) hQ.now hK hS (Aq.up (by decide)) rfl hl.1 rfl dX7_tag_50 hcs (Nat.le_of_ble_eq_true rfl) (fun H locs hnew hsz hoth hS => ?_)
  have hQ := QT.upN hQ hnew (fun q h1 h2 => hoth q h1 h2)
  refine lv_iload_n (pc := 53) E.1 E.2 dX7_tag_53 rfl (lv_at hl 0 rfl) ?_
  exact z_retWi E hr (congrArg iI (by rfl)) hQ hS hlocks dX7_tag_54
set_option maxHeartbeats 1000000 in
set_option maxRecDepth 100000 in
theorem mxX7_moveFolder (lL : Launch) (hst0 : lL.stackTraces = false) (G : GG) (o : Nat → Nat) (ν σ : Int → Int) (π : Nat → Int → Int) (δ τ ω : Int → Int) (f : Int) (q : Int) (hI : In σ) (hf : -2147483648 ≤ f ∧ f < 2147483648) (hq : -2147483648 ≤ q ∧ q < 2147483648) (hbad : ¬ ((kxMove σ f q) = 0)) : vx_Met lL yX7_moveFolder wsX7_moveFolder ({ frames := 8, cells := 1, slots := 6, locals := 157 } : Room) (va_Pc [.ref (o 0), .int (iI f), .int (iI q)] (fun U => QT G o ν σ π δ τ ω U.heap ∧ KK G U ∧ KX FF0 U U.heap)) (fun _ _ _ _ => False) (XCe (exq xI xS xI (kxMove σ f q))) 1 6 FF0 := by
  refine z_metX (P := (fun H : Heap => QT G o ν σ π δ τ ω H)) (by decide) rfl (Nat.le_of_ble_eq_true rfl) (fun pp ee ss mm below meth cC E hml hown hts hlocks htab hQ hK hX ls hl => ?_)
  have hl : lv_has ls 4 [(0, .ref (o 0)), (1, .int (iI f)), (2, .int (iI q))] := hl
  have hcs : 0 ≤ (({ frames := 8, cells := 1, slots := 6, locals := 157 } : Room)).cells ∧ 0 ≤ (({ frames := 8, cells := 1, slots := 6, locals := 157 } : Room)).slots := ⟨Nat.zero_le _, Nat.zero_le _⟩
  have hF := hI.F
  have hMm := hI.M
  have hGn := hI.Gn
  have hTi := hI.ti
  have hGr := hI.gr
  refine lv_aload_n (pc := 0) E.1 E.2 dX7_moveFolder_0 rfl (lv_at hl 0 rfl) ?_
  refine lv_iload_n (pc := 1) E.1 E.2 dX7_moveFolder_1 rfl (lv_at hl 1 rfl) ?_
  refine lv_iload_n (pc := 2) E.1 E.2 dX7_moveFolder_2 rfl (lv_at hl 2 rfl) ?_
  by_cases hc3 : (kxMoveR σ f q) = 0
  · have hoc3 := kxMoveR_ok hc3
    refine z_rVi (pc := 3) (As := [.int (iI f), .int (iI q)]) (rest := []) E hml hown hts (mX7_moveReason lL G o ν σ π δ τ ω f q hI (by omega) (by omega) (by unfold kxMoveR; (repeat' split) <;> first | rfl | omega | (exfalso; omega) | contradiction | grind)) (cwV 2 hts gX7_moveFolder_X7_moveReason rfl rfl rfl vdX7_moveReason ⟨Nat.le_of_ble_eq_true rfl, Nat.le_of_ble_eq_true rfl⟩) (oB.recv hK hQ.ob rfl) hQ hK rfl hl.1 rfl dX7_moveFolder_3 hcs (Nat.le_of_ble_eq_true rfl) ?_
    have hrt := rmS_b σ f q
    by_cases hc6 : (rmS σ f q) = 0
    · refine z_rSv (pc := 6) (P := fun _ => True) (As := [.int (iI (rmS σ f q))]) (rest := []) E hml hown hts (mX7_needNoReason lL G (rmS σ f q) (by omega) (by omega)) (va_cwS 1 hts gX7_moveFolder_X7_needNoReason rfl rfl rfl vdX7_needNoReason.2 ⟨Nat.le_of_ble_eq_true rfl, Nat.le_of_ble_eq_true rfl⟩) trivial hK rfl hl.1 rfl dX7_moveFolder_6 hcs (Nat.le_of_ble_eq_true rfl) ?_
      refine lv_aload_n (pc := 9) E.1 E.2 dX7_moveFolder_9 rfl (lv_at hl 0 rfl) ?_
      exact absurd (show (kxMove σ f q) = 0 by (unfold kxMove; (repeat' split) <;> first | rfl | omega | (exfalso; omega) | contradiction | grind)) hbad
    exact z_badS (pc := 6) (P := fun _ => True) (As := [.int (iI (rmS σ f q))]) (rest := []) E hml hown hts (mxX7_needNoReason lL hst0 G (rmS σ f q) (by omega) hc6) (va_cwS 1 hts gX7_moveFolder_X7_needNoReason rfl rfl rfl vdX7_needNoReason.2 ⟨Nat.le_of_ble_eq_true rfl, Nat.le_of_ble_eq_true rfl⟩) trivial hK hX rfl hl.1 rfl dX7_moveFolder_6 ⟨Nat.le_of_ble_eq_true rfl, Nat.le_of_ble_eq_true rfl⟩ (Nat.le_of_ble_eq_true rfl) (by rw [show (kxMove σ f q) = 2 by (unfold kxMove; (repeat' split) <;> first | rfl | omega | (exfalso; omega) | contradiction | grind)]; rfl) htab hlocks
  exact z_badV (pc := 3) (As := [.int (iI f), .int (iI q)]) (rest := []) E hml hown hts (mxX7_moveReason lL hst0 G o ν σ π δ τ ω f q hI (by omega) (by omega) hc3) (cwV 2 hts gX7_moveFolder_X7_moveReason rfl rfl rfl vdX7_moveReason ⟨Nat.le_of_ble_eq_true rfl, Nat.le_of_ble_eq_true rfl⟩) (oB.recv hK hQ.ob rfl) hQ hK hX rfl hl.1 rfl dX7_moveFolder_3 ⟨Nat.le_of_ble_eq_true rfl, Nat.le_of_ble_eq_true rfl⟩ (Nat.le_of_ble_eq_true rfl) (by unfold kxMoveR at hc3 ⊢; unfold kxMove; (repeat' split) <;> first | rfl | omega | (exfalso; omega) | (exfalso; exact hc3 (by rw [if_pos (by assumption), if_pos (by assumption)])) | (exfalso; exact hc3 (if_pos (by assumption))) | grind) htab hlocks
set_option maxHeartbeats 1000000 in
set_option maxRecDepth 100000 in
theorem mX7_moveFolder (lL : Launch) (G : GG) (o : Nat → Nat) (ν σ : Int → Int) (π : Nat → Int → Int) (δ τ ω : Int → Int) (f : Int) (q : Int) (hI : In σ) (hf : -2147483648 ≤ f ∧ f < 2147483648) (hq : -2147483648 ≤ q ∧ q < 2147483648) (hok : (kxMove σ f q) = 0) (hc : 0 ≤ ν 2 ∧ ν 2 ≤ 1000000) (hu : 0 ≤ ν 3 ∧ ν 3 ≤ 8) (hU : Ub σ) : Met lL yX7_moveFolder wsX7_moveFolder ({ frames := 6, cells := 0, slots := 0, locals := 157 } : Room) (va_Pc [.ref (o 0), .int (iI f), .int (iI q)] (fun U => QT G o ν σ π δ τ ω U.heap ∧ KK G U)) (va_Qi (fun r (_ : Unit) => r = (iI (axMove σ f q))) (fun _ tZ => QT G o (zu (zu ν 2 (ν 2 + 1)) 3 (min (ν 3 + 1) 8)) (nxMove σ f q) (pU π (ν 2 % 8) σ) δ τ ω tZ.heap) (Ax o 187)) 0 0 (Ax o 187) := by
  refine z_met (P := (fun H : Heap => QT G o ν σ π δ τ ω H)) (by decide) rfl (Nat.le_of_ble_eq_true rfl) (fun pp ee ss mm below meth cC E hr hml hown hts hlocks hQ hK ls hl => ?_)
  have hl : lv_has ls 4 [(0, .ref (o 0)), (1, .int (iI f)), (2, .int (iI q))] := hl
  have hcs : 0 ≤ (({ frames := 6, cells := 0, slots := 0, locals := 157 } : Room)).cells ∧ 0 ≤ (({ frames := 6, cells := 0, slots := 0, locals := 157 } : Room)).slots := ⟨Nat.zero_le _, Nat.zero_le _⟩
  have hS : va_S (Ax o 187) ss.heap ss.heap [] := va_S.rf
  have hin6 : ∀ w ∈ wsX60, w ∈ wsX7_moveFolder := fun w h => List.mem_cons_of_mem _ (List.mem_append_left _ (List.mem_append_left _ (List.mem_append_left _ (List.mem_append_left _ (List.mem_append_left _ (List.mem_append_left _ (List.mem_append_right _ (h))))))))
  have hin7 : ∀ w ∈ wsX70, w ∈ wsX7_moveFolder := fun w h => List.mem_cons_of_mem _ (List.mem_append_left _ (List.mem_append_left _ (List.mem_append_left _ (List.mem_append_left _ (List.mem_append_left _ (List.mem_append_left _ (List.mem_append_left _ (List.mem_append_right _ (h)))))))))
  have hF := hI.F
  have hMm := hI.M
  have hGn := hI.Gn
  have hTi := hI.ti
  have hGr := hI.gr
  have hoc := kxMove_ok hok
  have hrb := rmS_b σ f q
  have hmv := rmS_0 (show rmS σ f q = 0 by omega)
  have hpj := hI.pjr (f := f) (Or.inr hoc.1)
  have hpw := hI.pub (f := f) (q := q) hoc.1 hoc.2.1
  refine lv_aload_n (pc := 0) E.1 E.2 dX7_moveFolder_0 rfl (lv_at hl 0 rfl) ?_
  refine lv_iload_n (pc := 1) E.1 E.2 dX7_moveFolder_1 rfl (lv_at hl 1 rfl) ?_
  refine lv_iload_n (pc := 2) E.1 E.2 dX7_moveFolder_2 rfl (lv_at hl 2 rfl) ?_
  refine z_rVi (pc := 3) (As := [.int (iI f), .int (iI q)]) (rest := []) E hml hown hts (mX7_moveReason lL G o ν σ π δ τ ω f q hI (by omega) (by omega) (by unfold kxMoveR; (repeat' split) <;> first | rfl | omega | (exfalso; omega) | contradiction | grind)) (cwV 2 hts gX7_moveFolder_X7_moveReason rfl rfl rfl vdX7_moveReason ⟨Nat.le_of_ble_eq_true rfl, Nat.le_of_ble_eq_true rfl⟩) (oB.recv hK hQ.ob rfl) hQ hK rfl hl.1 rfl dX7_moveFolder_3 hcs (Nat.le_of_ble_eq_true rfl) ?_
  have hrt := rmS_b σ f q
  refine z_rSv (pc := 6) (P := fun _ => True) (As := [.int (iI (rmS σ f q))]) (rest := []) E hml hown hts (mX7_needNoReason lL G (rmS σ f q) (by omega) (by omega)) (va_cwS 1 hts gX7_moveFolder_X7_needNoReason rfl rfl rfl vdX7_needNoReason.2 ⟨Nat.le_of_ble_eq_true rfl, Nat.le_of_ble_eq_true rfl⟩) trivial hK rfl hl.1 rfl dX7_moveFolder_6 hcs (Nat.le_of_ble_eq_true rfl) ?_
  refine lv_aload_n (pc := 9) E.1 E.2 dX7_moveFolder_9 rfl (lv_at hl 0 rfl) ?_
  refine z_wVv (pc := 10) (As := []) (rest := []) E hml hown hts (mX7_remember lL G o ν σ π δ τ ω  hI hc hu) (cwV 0 hts gX7_moveFolder_X7_remember rfl rfl rfl vdX7_remember ⟨Nat.le_of_ble_eq_true rfl, Nat.le_of_ble_eq_true rfl⟩) (oB.recv hK hQ.ob rfl) hQ hK hS (fun _ h => h) rfl hl.1 rfl dX7_moveFolder_10 hcs (Nat.le_of_ble_eq_true rfl) (fun H locs hnew hsz hoth hS => ?_)
  have hQ : QT G o (zu (zu ν 2 ((ν 2) + 1)) 3 (min ((ν 3) + 1) 8)) σ (pU π ((ν 2) % 8) σ) δ τ ω H := hnew
  refine lv_aload_n (pc := 13) E.1 E.2 dX7_moveFolder_13 rfl (lv_at hl 0 rfl) ?_
  refine g7_0 (pc := 14) E hts hin7 hown hK hQ.ob (hts _ (List.mem_of_getElem? (i := 1) rfl)) dX7_moveFolder_14 ?_
  refine lv_iload_n (pc := 17) E.1 E.2 dX7_moveFolder_17 rfl (lv_at hl 1 rfl) ?_
  refine lv_aload_n (pc := 18) E.1 E.2 dX7_moveFolder_18 rfl (lv_at hl 0 rfl) ?_
  refine g7_0 (pc := 19) E hts hin7 hown hK hQ.ob (hts _ (List.mem_of_getElem? (i := 1) rfl)) dX7_moveFolder_19 ?_
  refine g6_0 (pc := 22) E hts hin6 hown hK hQ.nob (hts _ (List.mem_of_getElem? (i := 2) rfl)) dX7_moveFolder_22 ?_
  refine lv_iload_n (pc := 25) E.1 E.2 dX7_moveFolder_25 rfl (lv_at hl 1 rfl) ?_
  refine lv_iload_n (pc := 26) E.1 E.2 dX7_moveFolder_26 rfl (lv_at hl 2 rfl) ?_
  refine z_rVi (pc := 27) (As := [.int (iI f), .int (iI q)]) (rest := [.int (iI f), .ref (o 1)]) E hml hown hts (mX3_projectIfMoved lL G (fun k => o (1 + (1 + k))) σ f q hI (by omega) (by omega)) (cwV 2 hts gX7_moveFolder_X3_projectIfMoved rfl rfl rfl vdX3_projectIfMoved ⟨Nat.le_of_ble_eq_true rfl, Nat.le_of_ble_eq_true rfl⟩) (oB.recv hK hQ.foo rfl) hQ.now.fo hK rfl hl.1 rfl dX7_moveFolder_27 hcs (Nat.le_of_ble_eq_true rfl) ?_
  refine z_wVi (pc := 30) (As := [.int (iI f), .int (iI (puS σ f q))]) (rest := []) E hml hown hts (mX6_transferOpenPart lL G (fun k => o (1 + k)) σ f (puS σ f q) hI (by omega) (by omega)) (cwV 2 hts gX7_moveFolder_X6_transferOpenPart rfl rfl rfl vdX6_transferOpenPart ⟨Nat.le_of_ble_eq_true rfl, Nat.le_of_ble_eq_true rfl⟩) (oB.recv hK hQ.nob rfl) hQ.now hK hS (Aq.up (by decide)) rfl hl.1 rfl dX7_moveFolder_30 hcs (Nat.le_of_ble_eq_true rfl) (fun H locs hnew hsz hoth hS => ?_)
  have hQ := QT.upN hQ hnew (fun q h1 h2 => hoth q h1 h2)
  refine lv_istore_n (pc := 33) (lv' := [(3, .int (iI (if pjF σ f = (puS σ f q) then 0 else opS σ f 0))), (0, .ref (o 0)), (1, .int (iI f)), (2, .int (iI q))]) E.1 E.2 dX7_moveFolder_33 rfl hl (by decide) rfl (fun ls hl => ?_)
  refine lv_aload_n (pc := 34) E.1 E.2 dX7_moveFolder_34 rfl (lv_at hl 1 rfl) ?_
  refine g7_0 (pc := 35) E hts hin7 hown hK hQ.ob (hts _ (List.mem_of_getElem? (i := 1) rfl)) dX7_moveFolder_35 ?_
  refine g6_0 (pc := 38) E hts hin6 hown hK hQ.nob (hts _ (List.mem_of_getElem? (i := 2) rfl)) dX7_moveFolder_38 ?_
  refine lv_iload_n (pc := 41) E.1 E.2 dX7_moveFolder_41 rfl (lv_at hl 2 rfl) ?_
  refine lv_iload_n (pc := 42) E.1 E.2 dX7_moveFolder_42 rfl (lv_at hl 3 rfl) ?_
  refine z_wVv (pc := 43) (As := [.int (iI f), .int (iI q)]) (rest := []) E hml hown hts (mX3_setParent lL G (fun k => o (1 + (1 + k))) (paA σ f (pjF σ f) (puS σ f q)) f q (hI.paAI f hpj hpw hU) (by rw [paA_n hpj hpw (by omega)]; exact hoc.1) (by omega)) (cwV 2 hts gX7_moveFolder_X3_setParent rfl rfl rfl vdX3_setParent ⟨Nat.le_of_ble_eq_true rfl, Nat.le_of_ble_eq_true rfl⟩) (oB.recv hK hQ.foo rfl) hQ.now.fo hK hS (Aq.up2 (by decide)) rfl hl.1 rfl dX7_moveFolder_43 hcs (Nat.le_of_ble_eq_true rfl) (fun H locs hnew hsz hoth hS => ?_)
  have hQ := QT.upN hQ (ST.upFO hQ.now hnew (fun q h1 h2 => hoth q h1 h2) (fun j hj => by first | rw [zu_n _ _ (by omega)] | rw [zu_n _ _ (by omega), zu_n _ _ (by omega)])) (fun q h1 h2 => hoth q h1 (fun z => h2 (Aq.in 1 1 18 4 (by decide) q z)))
  refine lv_aload_n (pc := 46) E.1 E.2 dX7_moveFolder_46 rfl (lv_at hl 1 rfl) ?_
  refine g7_0 (pc := 47) E hts hin7 hown hK hQ.ob (hts _ (List.mem_of_getElem? (i := 1) rfl)) dX7_moveFolder_47 ?_
  refine z_wVv (pc := 50) (As := []) (rest := []) E hml hown hts (mX6_setClocks lL G (fun k => o (1 + k)) (zu (paA σ f (pjF σ f) (puS σ f q)) (69 + f) q)  ((hI.paAI f hpj hpw hU).parS (by rw [paA_n hpj hpw (by omega)]; omega) (by rw [paA_n hpj hpw (by omega)]; exact hoc.2.1) (by rw [blF_pa hI hpj hpw hoc.2.1]; exact hmv.2))) (cwV 0 hts gX7_moveFolder_X6_setClocks rfl rfl rfl vdX6_setClocks ⟨Nat.le_of_ble_eq_true rfl, Nat.le_of_ble_eq_true rfl⟩) (oB.recv hK hQ.nob rfl) hQ.now hK hS (Aq.up (by decide)) rfl hl.1 rfl dX7_moveFolder_50 hcs (Nat.le_of_ble_eq_true rfl) (fun H locs hnew hsz hoth hS => ?_)
  have hQ := QT.upN hQ hnew (fun q h1 h2 => hoth q h1 h2)
  refine lv_iload_n (pc := 53) E.1 E.2 dX7_moveFolder_53 rfl (lv_at hl 0 rfl) ?_
  exact z_retWi E hr (congrArg iI (by rfl)) hQ hS hlocks dX7_moveFolder_54
set_option maxHeartbeats 1000000 in
set_option maxRecDepth 100000 in
theorem mxX7_write (lL : Launch) (hst0 : lL.stackTraces = false) (G : GG) (o : Nat → Nat) (ν σ : Int → Int) (π : Nat → Int → Int) (δ τ ω : Int → Int) (f : Int) (b : Int) (hI : In σ) (hf : -2147483648 ≤ f ∧ f < 2147483648) (hb : -2147483648 ≤ b ∧ b < 2147483648) (hbad : ¬ ((kxWrite σ f b) = 0)) : vx_Met lL yX7_write wsX7_write ({ frames := 8, cells := 1, slots := 6, locals := 153 } : Room) (va_Pc [.ref (o 0), .int (iI f), .int (iI b)] (fun U => QT G o ν σ π δ τ ω U.heap ∧ KK G U ∧ KX FF0 U U.heap)) (fun _ _ _ _ => False) (XCe (exq xI xA xS (kxWrite σ f b))) 1 6 FF0 := by
  refine z_metX (P := (fun H : Heap => QT G o ν σ π δ τ ω H)) (by decide) rfl (Nat.le_of_ble_eq_true rfl) (fun pp ee ss mm below meth cC E hml hown hts hlocks htab hQ hK hX ls hl => ?_)
  have hl : lv_has ls 3 [(0, .ref (o 0)), (1, .int (iI f)), (2, .int (iI b))] := hl
  have hcs : 0 ≤ (({ frames := 8, cells := 1, slots := 6, locals := 153 } : Room)).cells ∧ 0 ≤ (({ frames := 8, cells := 1, slots := 6, locals := 153 } : Room)).slots := ⟨Nat.zero_le _, Nat.zero_le _⟩
  have hin6 : ∀ w ∈ wsX60, w ∈ wsX7_write := fun w h => List.mem_cons_of_mem _ (List.mem_append_left _ (List.mem_append_left _ (List.mem_append_left _ (List.mem_append_left _ (List.mem_append_left _ (List.mem_append_left _ (List.mem_append_left _ (List.mem_append_right _ (h)))))))))
  have hin7 : ∀ w ∈ wsX70, w ∈ wsX7_write := fun w h => List.mem_cons_of_mem _ (List.mem_append_left _ (List.mem_append_left _ (List.mem_append_left _ (List.mem_append_left _ (List.mem_append_left _ (List.mem_append_left _ (List.mem_append_left _ (List.mem_append_left _ (List.mem_append_right _ (h))))))))))
  have hF := hI.F
  have hMm := hI.M
  have hGn := hI.Gn
  have hTi := hI.ti
  have hGr := hI.gr
  refine lv_aload_n (pc := 0) E.1 E.2 dX7_write_0 rfl (lv_at hl 0 rfl) ?_
  refine lv_iload_n (pc := 1) E.1 E.2 dX7_write_1 rfl (lv_at hl 1 rfl) ?_
  refine lv_iload_n (pc := 2) E.1 E.2 dX7_write_2 rfl (lv_at hl 2 rfl) ?_
  by_cases hc3 : (kxWriteR σ f b) = 0
  · have hoc3 := kxWriteR_ok hc3
    refine z_rVi (pc := 3) (As := [.int (iI f), .int (iI b)]) (rest := []) E hml hown hts (mX7_writeReason lL G o ν σ π δ τ ω f b hI (by omega) (by omega) (by unfold kxWriteR; (repeat' split) <;> first | rfl | omega | (exfalso; omega) | contradiction | grind)) (cwV 2 hts gX7_write_X7_writeReason rfl rfl rfl vdX7_writeReason ⟨Nat.le_of_ble_eq_true rfl, Nat.le_of_ble_eq_true rfl⟩) (oB.recv hK hQ.ob rfl) hQ hK rfl hl.1 rfl dX7_write_3 hcs (Nat.le_of_ble_eq_true rfl) ?_
    have hrt := rsS_b σ (pjF σ f) b 1
    rw [show (axWriteR σ f b) = (rsS σ (pjF σ f) b 1) from rfl]
    by_cases hc6 : (rsS σ (pjF σ f) b 1) = 0
    · refine z_rSv (pc := 6) (P := fun _ => True) (As := [.int (iI (rsS σ (pjF σ f) b 1))]) (rest := []) E hml hown hts (mX7_needNoReason lL G (rsS σ (pjF σ f) b 1) (by omega) (by omega)) (va_cwS 1 hts gX7_write_X7_needNoReason rfl rfl rfl vdX7_needNoReason.2 ⟨Nat.le_of_ble_eq_true rfl, Nat.le_of_ble_eq_true rfl⟩) trivial hK rfl hl.1 rfl dX7_write_6 hcs (Nat.le_of_ble_eq_true rfl) ?_
      refine lv_aload_n (pc := 9) E.1 E.2 dX7_write_9 rfl (lv_at hl 0 rfl) ?_
      refine g7_0 (pc := 10) E hts hin7 hown hK hQ.ob (hts _ (List.mem_of_getElem? (i := 3) rfl)) dX7_write_10 ?_
      refine g6_1 (pc := 13) E hts hin6 hown hK hQ.nob (hts _ (List.mem_of_getElem? (i := 4) rfl)) dX7_write_13 ?_
      refine z_rVi (pc := 16) (As := []) (rest := []) E hml hown hts (mX2_isFull lL G (fun k => o (1 + (5 + k))) σ  hI) (cwV 0 hts gX7_write_X2_isFull rfl rfl rfl vdX2_isFull ⟨Nat.le_of_ble_eq_true rfl, Nat.le_of_ble_eq_true rfl⟩) (oB.recv hK hQ.fio rfl) hQ.now.fi hK rfl hl.1 rfl dX7_write_16 hcs (Nat.le_of_ble_eq_true rfl) ?_
      refine z_ifb_eq (pc := 19) (tgt := 32) E dX7_write_19 (by decide) (fun h19 => ?_) (fun h19 => ?_)
      · refine lv_aload_n (pc := 32) E.1 E.2 dX7_write_32 rfl (lv_at hl 0 rfl) ?_
        exact absurd (show (kxWrite σ f b) = 0 by (unfold kxWrite; (repeat' split) <;> first | rfl | omega | (exfalso; omega) | contradiction | grind)) hbad
      · exact z_thrS_xS (pc := 22) (rest := []) (is := 251) (text := "there are 60 files") E hst0 hown (hts _ (List.mem_of_getElem? (i := 1) rfl)) (hts _ (List.mem_of_getElem? (i := 2) rfl)) (fun w h => hts w (List.mem_cons_of_mem _ (List.mem_append_left _ (List.mem_append_left _ (List.mem_append_right _ (h)))))) hX (List.mem_of_getElem? (i := 8) rfl) (hl.1.trans hml.symm) dX7_write_22 dX7_write_25 dX7_write_26 dX7_write_28 dX7_write_31 htab (Nat.le_of_ble_eq_true rfl) (Nat.le_of_ble_eq_true rfl) (Nat.le_of_ble_eq_true rfl) (Nat.le_of_ble_eq_true rfl) hlocks (by rw [show (kxWrite σ f b) = 3 by (unfold kxWrite; (repeat' split) <;> first | rfl | omega | (exfalso; omega) | contradiction | grind)]; rfl)
    exact z_badS (pc := 6) (P := fun _ => True) (As := [.int (iI (rsS σ (pjF σ f) b 1))]) (rest := []) E hml hown hts (mxX7_needNoReason lL hst0 G (rsS σ (pjF σ f) b 1) (by omega) hc6) (va_cwS 1 hts gX7_write_X7_needNoReason rfl rfl rfl vdX7_needNoReason.2 ⟨Nat.le_of_ble_eq_true rfl, Nat.le_of_ble_eq_true rfl⟩) trivial hK hX rfl hl.1 rfl dX7_write_6 ⟨Nat.le_of_ble_eq_true rfl, Nat.le_of_ble_eq_true rfl⟩ (Nat.le_of_ble_eq_true rfl) (by rw [show (kxWrite σ f b) = 3 by (unfold kxWrite; (repeat' split) <;> first | rfl | omega | (exfalso; omega) | contradiction | grind)]; rfl) htab hlocks
  exact z_badV (pc := 3) (As := [.int (iI f), .int (iI b)]) (rest := []) E hml hown hts (mxX7_writeReason lL hst0 G o ν σ π δ τ ω f b hI (by omega) (by omega) hc3) (cwV 2 hts gX7_write_X7_writeReason rfl rfl rfl vdX7_writeReason ⟨Nat.le_of_ble_eq_true rfl, Nat.le_of_ble_eq_true rfl⟩) (oB.recv hK hQ.ob rfl) hQ hK hX rfl hl.1 rfl dX7_write_3 ⟨Nat.le_of_ble_eq_true rfl, Nat.le_of_ble_eq_true rfl⟩ (Nat.le_of_ble_eq_true rfl) (by unfold kxWriteR at hc3 ⊢; unfold kxWrite; (repeat' split) <;> first | rfl | omega | (exfalso; omega) | (exfalso; exact hc3 (by rw [if_pos (by assumption), if_pos (by assumption)])) | (exfalso; exact hc3 (if_pos (by assumption))) | grind) htab hlocks
set_option maxHeartbeats 1000000 in
set_option maxRecDepth 100000 in
theorem mX7_write (lL : Launch) (G : GG) (o : Nat → Nat) (ν σ : Int → Int) (π : Nat → Int → Int) (δ τ ω : Int → Int) (f : Int) (b : Int) (hI : In σ) (hf : -2147483648 ≤ f ∧ f < 2147483648) (hb : -2147483648 ≤ b ∧ b < 2147483648) (hok : (kxWrite σ f b) = 0) (hc : 0 ≤ ν 2 ∧ ν 2 ≤ 1000000) (hu : 0 ≤ ν 3 ∧ ν 3 ≤ 8) (hU : Ub σ) : Met lL yX7_write wsX7_write ({ frames := 5, cells := 0, slots := 0, locals := 153 } : Room) (va_Pc [.ref (o 0), .int (iI f), .int (iI b)] (fun U => QT G o ν σ π δ τ ω U.heap ∧ KK G U)) (va_Qi (fun r (_ : Unit) => r = (iI (σ 3))) (fun _ tZ => QT G o (zu (zu ν 2 (ν 2 + 1)) 3 (min (ν 3 + 1) 8)) (nxWrite σ f b) (pU π (ν 2 % 8) σ) δ τ ω tZ.heap) (Ax o 187)) 0 0 (Ax o 187) := by
  refine z_met (P := (fun H : Heap => QT G o ν σ π δ τ ω H)) (by decide) rfl (Nat.le_of_ble_eq_true rfl) (fun pp ee ss mm below meth cC E hr hml hown hts hlocks hQ hK ls hl => ?_)
  have hl : lv_has ls 3 [(0, .ref (o 0)), (1, .int (iI f)), (2, .int (iI b))] := hl
  have hcs : 0 ≤ (({ frames := 5, cells := 0, slots := 0, locals := 153 } : Room)).cells ∧ 0 ≤ (({ frames := 5, cells := 0, slots := 0, locals := 153 } : Room)).slots := ⟨Nat.zero_le _, Nat.zero_le _⟩
  have hS : va_S (Ax o 187) ss.heap ss.heap [] := va_S.rf
  have hin2 : ∀ w ∈ wsX20, w ∈ wsX7_write := fun w h => List.mem_cons_of_mem _ (List.mem_append_left _ (List.mem_append_left _ (List.mem_append_left _ (List.mem_append_left _ (List.mem_append_left _ (List.mem_append_left _ (List.mem_append_right _ (h))))))))
  have hin6 : ∀ w ∈ wsX60, w ∈ wsX7_write := fun w h => List.mem_cons_of_mem _ (List.mem_append_left _ (List.mem_append_left _ (List.mem_append_left _ (List.mem_append_left _ (List.mem_append_left _ (List.mem_append_left _ (List.mem_append_left _ (List.mem_append_right _ (h)))))))))
  have hin7 : ∀ w ∈ wsX70, w ∈ wsX7_write := fun w h => List.mem_cons_of_mem _ (List.mem_append_left _ (List.mem_append_left _ (List.mem_append_left _ (List.mem_append_left _ (List.mem_append_left _ (List.mem_append_left _ (List.mem_append_left _ (List.mem_append_left _ (List.mem_append_right _ (h))))))))))
  have hF := hI.F
  have hMm := hI.M
  have hGn := hI.Gn
  have hTi := hI.ti
  have hGr := hI.gr
  have hoc := kxWrite_ok hok
  have hpj := hI.pjr (f := f) (Or.inr hoc.1)
  have hI2 : In (afF σ f b) := hI.afFI (by omega) hoc.1 hoc.2.1
  have e22 : afF σ f b 2 = σ 2 := afF_n hI.M (by omega)
  refine lv_aload_n (pc := 0) E.1 E.2 dX7_write_0 rfl (lv_at hl 0 rfl) ?_
  refine lv_iload_n (pc := 1) E.1 E.2 dX7_write_1 rfl (lv_at hl 1 rfl) ?_
  refine lv_iload_n (pc := 2) E.1 E.2 dX7_write_2 rfl (lv_at hl 2 rfl) ?_
  refine z_rVi (pc := 3) (As := [.int (iI f), .int (iI b)]) (rest := []) E hml hown hts (mX7_writeReason lL G o ν σ π δ τ ω f b hI (by omega) (by omega) (by unfold kxWriteR; (repeat' split) <;> first | rfl | omega | (exfalso; omega) | contradiction | grind)) (cwV 2 hts gX7_write_X7_writeReason rfl rfl rfl vdX7_writeReason ⟨Nat.le_of_ble_eq_true rfl, Nat.le_of_ble_eq_true rfl⟩) (oB.recv hK hQ.ob rfl) hQ hK rfl hl.1 rfl dX7_write_3 hcs (Nat.le_of_ble_eq_true rfl) ?_
  have hrt := rsS_b σ (pjF σ f) b 1
  rw [show (axWriteR σ f b) = (rsS σ (pjF σ f) b 1) from rfl]
  refine z_rSv (pc := 6) (P := fun _ => True) (As := [.int (iI (rsS σ (pjF σ f) b 1))]) (rest := []) E hml hown hts (mX7_needNoReason lL G (rsS σ (pjF σ f) b 1) (by omega) (by omega)) (va_cwS 1 hts gX7_write_X7_needNoReason rfl rfl rfl vdX7_needNoReason.2 ⟨Nat.le_of_ble_eq_true rfl, Nat.le_of_ble_eq_true rfl⟩) trivial hK rfl hl.1 rfl dX7_write_6 hcs (Nat.le_of_ble_eq_true rfl) ?_
  refine lv_aload_n (pc := 9) E.1 E.2 dX7_write_9 rfl (lv_at hl 0 rfl) ?_
  refine g7_0 (pc := 10) E hts hin7 hown hK hQ.ob (hts _ (List.mem_of_getElem? (i := 3) rfl)) dX7_write_10 ?_
  refine g6_1 (pc := 13) E hts hin6 hown hK hQ.nob (hts _ (List.mem_of_getElem? (i := 4) rfl)) dX7_write_13 ?_
  refine z_rVi (pc := 16) (As := []) (rest := []) E hml hown hts (mX2_isFull lL G (fun k => o (1 + (5 + k))) σ  hI) (cwV 0 hts gX7_write_X2_isFull rfl rfl rfl vdX2_isFull ⟨Nat.le_of_ble_eq_true rfl, Nat.le_of_ble_eq_true rfl⟩) (oB.recv hK hQ.fio rfl) hQ.now.fi hK rfl hl.1 rfl dX7_write_16 hcs (Nat.le_of_ble_eq_true rfl) ?_
  refine z_ifb_eq (pc := 19) (tgt := 32) E dX7_write_19 (by decide) (fun h19 => ?_) (fun h19 => ?_)
  · refine lv_aload_n (pc := 32) E.1 E.2 dX7_write_32 rfl (lv_at hl 0 rfl) ?_
    refine z_wVv (pc := 33) (As := []) (rest := []) E hml hown hts (mX7_remember lL G o ν σ π δ τ ω  hI hc hu) (cwV 0 hts gX7_write_X7_remember rfl rfl rfl vdX7_remember ⟨Nat.le_of_ble_eq_true rfl, Nat.le_of_ble_eq_true rfl⟩) (oB.recv hK hQ.ob rfl) hQ hK hS (fun _ h => h) rfl hl.1 rfl dX7_write_33 hcs (Nat.le_of_ble_eq_true rfl) (fun H locs hnew hsz hoth hS => ?_)
    have hQ : QT G o (zu (zu ν 2 ((ν 2) + 1)) 3 (min ((ν 3) + 1) 8)) σ (pU π ((ν 2) % 8) σ) δ τ ω H := hnew
    refine lv_aload_n (pc := 36) E.1 E.2 dX7_write_36 rfl (lv_at hl 0 rfl) ?_
    refine g7_0 (pc := 37) E hts hin7 hown hK hQ.ob (hts _ (List.mem_of_getElem? (i := 3) rfl)) dX7_write_37 ?_
    refine g6_1 (pc := 40) E hts hin6 hown hK hQ.nob (hts _ (List.mem_of_getElem? (i := 4) rfl)) dX7_write_40 ?_
    refine lv_iload_n (pc := 43) E.1 E.2 dX7_write_43 rfl (lv_at hl 1 rfl) ?_
    refine lv_iload_n (pc := 44) E.1 E.2 dX7_write_44 rfl (lv_at hl 2 rfl) ?_
    refine z_wVv (pc := 45) (As := [.int (iI f), .int (iI b)]) (rest := []) E hml hown hts (mX2_add lL G (fun k => o (1 + (5 + k))) σ f b hI (by omega) (by omega) (by omega)) (cwV 2 hts gX7_write_X2_add rfl rfl rfl vdX2_add ⟨Nat.le_of_ble_eq_true rfl, Nat.le_of_ble_eq_true rfl⟩) (oB.recv hK hQ.fio rfl) hQ.now.fi hK hS (Aq.up2 (by decide)) rfl hl.1 rfl dX7_write_45 hcs (Nat.le_of_ble_eq_true rfl) (fun H locs hnew hsz hoth hS => ?_)
    have hQ := QT.upN hQ (ST.upFI hQ.now hnew (fun q h1 h2 => hoth q h1 h2) (fun j hj => afF_n2 hI (by omega) (by omega)) (by first | omega | (rw [zu_n _ _ (by omega)]; omega))) (fun q h1 h2 => hoth q h1 (fun z => h2 (Aq.in 1 5 18 3 (by decide) q z)))
    refine lv_aload_n (pc := 48) E.1 E.2 dX7_write_48 rfl (lv_at hl 0 rfl) ?_
    refine g7_0 (pc := 49) E hts hin7 hown hK hQ.ob (hts _ (List.mem_of_getElem? (i := 3) rfl)) dX7_write_49 ?_
    refine g6_2 (pc := 52) E hts hin6 hown hK hQ.nob (hts _ (List.mem_of_getElem? (i := 5) rfl)) dX7_write_52 ?_
    refine lv_aload_n (pc := 55) E.1 E.2 dX7_write_55 rfl (lv_at hl 0 rfl) ?_
    refine g7_0 (pc := 56) E hts hin7 hown hK hQ.ob (hts _ (List.mem_of_getElem? (i := 3) rfl)) dX7_write_56 ?_
    refine g6_0 (pc := 59) E hts hin6 hown hK hQ.nob (hts _ (List.mem_of_getElem? (i := 6) rfl)) dX7_write_59 ?_
    refine lv_iload_n (pc := 62) E.1 E.2 dX7_write_62 rfl (lv_at hl 1 rfl) ?_
    refine z_rVi (pc := 63) (As := [.int (iI f)]) (rest := [.ref (o 9)]) E hml hown hts (mX3_projectOf lL G (fun k => o (1 + (1 + k))) (afF σ f b) f hI2 (Or.inr (by rw [e22]; exact hoc.1))) (cwV 1 hts gX7_write_X3_projectOf rfl rfl rfl vdX3_projectOf ⟨Nat.le_of_ble_eq_true rfl, Nat.le_of_ble_eq_true rfl⟩) (oB.recv hK hQ.foo rfl) hQ.now.fo hK rfl hl.1 rfl dX7_write_63 hcs (Nat.le_of_ble_eq_true rfl) ?_
    rw [show (pjF (afF σ f b) f) = (pjF σ f) from (afF_pj hI f b (Or.inr hoc.1))]
    refine lv_iload_n (pc := 66) E.1 E.2 dX7_write_66 rfl (lv_at hl 2 rfl) ?_
    refine z_iconst (pc := 67) E dX7_write_67 ?_
    refine z_wVv (pc := 68) (As := [.int (iI (pjF σ f)), .int (iI b), .int (iI 1)]) (rest := []) E hml hown hts (mX0_change lL G (fun k => o (1 + (8 + k))) (afF σ f b) (pjF σ f) b 1  (by omega) (by omega) (by omega) (fun k h0 h1 => by rw [afF_n hI.M (by omega)]; have q := hI.acc h0 h1; omega)) (cwV 3 hts gX7_write_X0_change rfl rfl rfl vdX0_change ⟨Nat.le_of_ble_eq_true rfl, Nat.le_of_ble_eq_true rfl⟩) (oB.recv hK hQ.aco rfl) hQ.now.ac hK hS (Aq.up2 (by decide)) rfl hl.1 rfl dX7_write_68 hcs (Nat.le_of_ble_eq_true rfl) (fun H locs hnew hsz hoth hS => ?_)
    have hQ := QT.upN hQ (ST.upAC hQ.now hnew (fun q h1 h2 => hoth q h1 h2) (fun j hj => coA_n (by omega) (by omega))) (fun q h1 h2 => hoth q h1 (fun z => h2 (Aq.in 1 8 18 5 (by decide) q z)))
    refine lv_aload_n (pc := 71) E.1 E.2 dX7_write_71 rfl (lv_at hl 0 rfl) ?_
    refine g7_0 (pc := 72) E hts hin7 hown hK hQ.ob (hts _ (List.mem_of_getElem? (i := 3) rfl)) dX7_write_72 ?_
    refine z_wVv (pc := 75) (As := []) (rest := []) E hml hown hts (mX6_setClocks lL G (fun k => o (1 + k)) (coA (afF σ f b) (pjF σ f) b 1)  (hI2.coAI hpj (by omega) (by omega) (fun k k0 k1 => by rw [afF_n hI.M (by omega)]; exact hU k k0 k1))) (cwV 0 hts gX7_write_X6_setClocks rfl rfl rfl vdX6_setClocks ⟨Nat.le_of_ble_eq_true rfl, Nat.le_of_ble_eq_true rfl⟩) (oB.recv hK hQ.nob rfl) hQ.now hK hS (Aq.up (by decide)) rfl hl.1 rfl dX7_write_75 hcs (Nat.le_of_ble_eq_true rfl) (fun H locs hnew hsz hoth hS => ?_)
    have hQ := QT.upN hQ hnew (fun q h1 h2 => hoth q h1 h2)
    refine lv_aload_n (pc := 78) E.1 E.2 dX7_write_78 rfl (lv_at hl 0 rfl) ?_
    refine g7_0 (pc := 79) E hts hin7 hown hK hQ.ob (hts _ (List.mem_of_getElem? (i := 3) rfl)) dX7_write_79 ?_
    refine g6_1 (pc := 82) E hts hin6 hown hK hQ.nob (hts _ (List.mem_of_getElem? (i := 4) rfl)) dX7_write_82 ?_
    refine g2_2 (pc := 85) E hts hin2 hown hK hQ.fio (hts _ (List.mem_of_getElem? (i := 7) rfl)) dX7_write_85 ?_
    rw [show ((scA (coA (afF σ f b) (pjF σ f) b 1) 16) 3) = (σ 3 + 1) from (by rw [scA_n _ _ (by omega), coA_n hpj (by omega)]; exact zu_s _ _ _)]
    refine z_iconst (pc := 88) E dX7_write_88 ?_
    refine z_isub (pc := 89) E dX7_write_89 ?_
    exact z_retWi E hr (congrArg iI (by omega)) hQ hS hlocks dX7_write_90
  · exact absurd hok (by unfold kxWrite; (repeat' split) <;> first | decide | omega | (exfalso; omega) | grind)
set_option maxHeartbeats 1000000 in
set_option maxRecDepth 100000 in
theorem mxX7_resize (lL : Launch) (hst0 : lL.stackTraces = false) (G : GG) (o : Nat → Nat) (ν σ : Int → Int) (π : Nat → Int → Int) (δ τ ω : Int → Int) (k : Int) (b : Int) (hI : In σ) (hk : -2147483648 ≤ k ∧ k < 2147483648) (hb : -2147483648 ≤ b ∧ b < 2147483648) (hbad : ¬ ((kxResize σ k b) = 0)) : vx_Met lL yX7_resize wsX7_resize ({ frames := 7, cells := 1, slots := 6, locals := 153 } : Room) (va_Pc [.ref (o 0), .int (iI k), .int (iI b)] (fun U => QT G o ν σ π δ τ ω U.heap ∧ KK G U ∧ KX FF0 U U.heap)) (fun _ _ _ _ => False) (XCe (exq xI xA xS (kxResize σ k b))) 1 6 FF0 := by
  refine z_metX (P := (fun H : Heap => QT G o ν σ π δ τ ω H)) (by decide) rfl (Nat.le_of_ble_eq_true rfl) (fun pp ee ss mm below meth cC E hml hown hts hlocks htab hQ hK hX ls hl => ?_)
  have hl : lv_has ls 5 [(0, .ref (o 0)), (1, .int (iI k)), (2, .int (iI b))] := hl
  have hcs : 0 ≤ (({ frames := 7, cells := 1, slots := 6, locals := 153 } : Room)).cells ∧ 0 ≤ (({ frames := 7, cells := 1, slots := 6, locals := 153 } : Room)).slots := ⟨Nat.zero_le _, Nat.zero_le _⟩
  have hin6 : ∀ w ∈ wsX60, w ∈ wsX7_resize := fun w h => List.mem_cons_of_mem _ (List.mem_append_left _ (List.mem_append_left _ (List.mem_append_left _ (List.mem_append_left _ (List.mem_append_left _ (List.mem_append_left _ (List.mem_append_left _ (List.mem_append_right _ (h)))))))))
  have hin7 : ∀ w ∈ wsX70, w ∈ wsX7_resize := fun w h => List.mem_cons_of_mem _ (List.mem_append_left _ (List.mem_append_left _ (List.mem_append_left _ (List.mem_append_left _ (List.mem_append_left _ (List.mem_append_left _ (List.mem_append_left _ (List.mem_append_left _ (List.mem_append_right _ (h))))))))))
  have hF := hI.F
  have hMm := hI.M
  have hGn := hI.Gn
  have hTi := hI.ti
  have hGr := hI.gr
  refine lv_aload_n (pc := 0) E.1 E.2 dX7_resize_0 rfl (lv_at hl 0 rfl) ?_
  refine lv_iload_n (pc := 1) E.1 E.2 dX7_resize_1 rfl (lv_at hl 1 rfl) ?_
  by_cases hc2 : 0 ≤ k ∧ k < σ 3
  · refine z_rVv (pc := 2) (As := [.int (iI k)]) (rest := []) E hml hown hts (mX7_needFile lL G o ν σ π δ τ ω k hI (by omega) (by omega)) (cwV 1 hts gX7_resize_X7_needFile rfl rfl rfl vdX7_needFile ⟨Nat.le_of_ble_eq_true rfl, Nat.le_of_ble_eq_true rfl⟩) (oB.recv hK hQ.ob rfl) hQ hK rfl hl.1 rfl dX7_resize_2 hcs (Nat.le_of_ble_eq_true rfl) ?_
    refine lv_iload_n (pc := 5) E.1 E.2 dX7_resize_5 rfl (lv_at hl 2 rfl) ?_
    refine z_iconst (pc := 6) E dX7_resize_6 ?_
    refine z_sipush (pc := 7) E (by decide) dX7_resize_7 ?_
    by_cases hc10 : 0 ≤ b ∧ b ≤ 9999
    · refine z_rSv (pc := 10) (P := fun _ => True) (As := [.int (iI b), .int (iI 0), .int (iI 9999)]) (rest := []) E hml hown hts (mX7_needRange lL G b 0 9999 (by omega) (by omega) (by omega) (by omega)) (va_cwS 3 hts gX7_resize_X7_needRange rfl rfl rfl vdX7_needRange.2 ⟨Nat.le_of_ble_eq_true rfl, Nat.le_of_ble_eq_true rfl⟩) trivial hK rfl hl.1 rfl dX7_resize_10 hcs (Nat.le_of_ble_eq_true rfl) ?_
      refine lv_aload_n (pc := 13) E.1 E.2 dX7_resize_13 rfl (lv_at hl 0 rfl) ?_
      refine g7_0 (pc := 14) E hts hin7 hown hK hQ.ob (hts _ (List.mem_of_getElem? (i := 1) rfl)) dX7_resize_14 ?_
      refine lv_iload_n (pc := 17) E.1 E.2 dX7_resize_17 rfl (lv_at hl 1 rfl) ?_
      refine z_rVi (pc := 18) (As := [.int (iI k)]) (rest := []) E hml hown hts (mX6_projectOfFile lL G (fun k => o (1 + k)) σ k hI (by omega)) (cwV 1 hts gX7_resize_X6_projectOfFile rfl rfl rfl vdX6_projectOfFile ⟨Nat.le_of_ble_eq_true rfl, Nat.le_of_ble_eq_true rfl⟩) (oB.recv hK hQ.nob rfl) hQ.now hK rfl hl.1 rfl dX7_resize_18 hcs (Nat.le_of_ble_eq_true rfl) ?_
      have hfk0 := hI.fil (k := k) (by omega) (by omega)
      have hpj0 := hI.pjr (f := σ (189 + k)) (Or.inr hfk0.1)
      refine lv_istore_n (pc := 21) (lv' := [(3, .int (iI (pjF σ (σ (189 + k))))), (0, .ref (o 0)), (1, .int (iI k)), (2, .int (iI b))]) E.1 E.2 dX7_resize_21 rfl hl (by decide) rfl (fun ls hl => ?_)
      refine lv_aload_n (pc := 22) E.1 E.2 dX7_resize_22 rfl (lv_at hl 1 rfl) ?_
      refine g7_0 (pc := 23) E hts hin7 hown hK hQ.ob (hts _ (List.mem_of_getElem? (i := 1) rfl)) dX7_resize_23 ?_
      refine g6_1 (pc := 26) E hts hin6 hown hK hQ.nob (hts _ (List.mem_of_getElem? (i := 2) rfl)) dX7_resize_26 ?_
      refine lv_iload_n (pc := 29) E.1 E.2 dX7_resize_29 rfl (lv_at hl 2 rfl) ?_
      refine z_rVi (pc := 30) (As := [.int (iI k)]) (rest := []) E hml hown hts (mX2_sizeOf lL G (fun k => o (1 + (5 + k))) σ k hI (by omega)) (cwV 1 hts gX7_resize_X2_sizeOf rfl rfl rfl vdX2_sizeOf ⟨Nat.le_of_ble_eq_true rfl, Nat.le_of_ble_eq_true rfl⟩) (oB.recv hK hQ.fio rfl) hQ.now.fi hK rfl hl.1 rfl dX7_resize_30 hcs (Nat.le_of_ble_eq_true rfl) ?_
      rw [show (if 0 ≤ k ∧ k < σ 3 then σ (249 + k) else 0) = (σ (249 + k)) from (if_pos (by omega))]
      refine lv_istore (pc := 33) (lv' := [(4, .int (iI (σ (249 + k)))), (3, .int (iI (pjF σ (σ (189 + k))))), (0, .ref (o 0)), (1, .int (iI k)), (2, .int (iI b))]) E.1 E.2 dX7_resize_33 hl (by decide) rfl (fun ls hl => ?_)
      refine lv_aload_n (pc := 35) E.1 E.2 dX7_resize_35 rfl (lv_at hl 2 rfl) ?_
      refine g7_0 (pc := 36) E hts hin7 hown hK hQ.ob (hts _ (List.mem_of_getElem? (i := 1) rfl)) dX7_resize_36 ?_
      refine lv_iload_n (pc := 39) E.1 E.2 dX7_resize_39 rfl (lv_at hl 1 rfl) ?_
      refine lv_iload_n (pc := 40) E.1 E.2 dX7_resize_40 rfl (lv_at hl 4 rfl) ?_
      refine lv_iload (pc := 41) E.1 E.2 dX7_resize_41 (lv_at hl 0 rfl) ?_
      refine z_isub (pc := 43) E dX7_resize_43 ?_
      refine z_iconst (pc := 44) E dX7_resize_44 ?_
      refine z_rVi (pc := 45) (As := [.int (iI (pjF σ (σ (189 + k)))), .int (iI (b - (σ (249 + k)))), .int (iI 0)]) (rest := []) E hml hown hts (mX6_growthReason lL G (fun k => o (1 + k)) σ (pjF σ (σ (189 + k))) (b - (σ (249 + k))) 0 hI (by omega) (by omega) (by omega)) (cwV 3 hts gX7_resize_X6_growthReason rfl rfl rfl vdX6_growthReason ⟨Nat.le_of_ble_eq_true rfl, Nat.le_of_ble_eq_true rfl⟩) (oB.recv hK hQ.nob rfl) hQ.now hK rfl hl.1 rfl dX7_resize_45 hcs (Nat.le_of_ble_eq_true rfl) ?_
      have hrs := rsS_b σ (pjF σ (σ (189 + k))) (b - σ (249 + k)) 0
      by_cases hc48 : (rsS σ (pjF σ (σ (189 + k))) (b - (σ (249 + k))) 0) = 0
      · refine z_rSv (pc := 48) (P := fun _ => True) (As := [.int (iI (rsS σ (pjF σ (σ (189 + k))) (b - (σ (249 + k))) 0))]) (rest := []) E hml hown hts (mX7_needNoReason lL G (rsS σ (pjF σ (σ (189 + k))) (b - (σ (249 + k))) 0) (by omega) (by omega)) (va_cwS 1 hts gX7_resize_X7_needNoReason rfl rfl rfl vdX7_needNoReason.2 ⟨Nat.le_of_ble_eq_true rfl, Nat.le_of_ble_eq_true rfl⟩) trivial hK rfl hl.1 rfl dX7_resize_48 hcs (Nat.le_of_ble_eq_true rfl) ?_
        refine lv_aload_n (pc := 51) E.1 E.2 dX7_resize_51 rfl (lv_at hl 2 rfl) ?_
        exact absurd (show (kxResize σ k b) = 0 by (unfold kxResize; (repeat' split) <;> first | rfl | omega | (exfalso; omega) | contradiction | grind)) hbad
      exact z_badS (pc := 48) (P := fun _ => True) (As := [.int (iI (rsS σ (pjF σ (σ (189 + k))) (b - (σ (249 + k))) 0))]) (rest := []) E hml hown hts (mxX7_needNoReason lL hst0 G (rsS σ (pjF σ (σ (189 + k))) (b - (σ (249 + k))) 0) (by omega) hc48) (va_cwS 1 hts gX7_resize_X7_needNoReason rfl rfl rfl vdX7_needNoReason.2 ⟨Nat.le_of_ble_eq_true rfl, Nat.le_of_ble_eq_true rfl⟩) trivial hK hX rfl hl.1 rfl dX7_resize_48 ⟨Nat.le_of_ble_eq_true rfl, Nat.le_of_ble_eq_true rfl⟩ (Nat.le_of_ble_eq_true rfl) (by rw [show (kxResize σ k b) = 3 by (unfold kxResize; (repeat' split) <;> first | rfl | omega | (exfalso; omega) | contradiction | grind)]; rfl) htab hlocks
    exact z_badS (pc := 10) (P := fun _ => True) (As := [.int (iI b), .int (iI 0), .int (iI 9999)]) (rest := []) E hml hown hts (mxX7_needRange lL hst0 G b 0 9999 (by omega) (by omega) (by omega) hc10) (va_cwS 3 hts gX7_resize_X7_needRange rfl rfl rfl vdX7_needRange.2 ⟨Nat.le_of_ble_eq_true rfl, Nat.le_of_ble_eq_true rfl⟩) trivial hK hX rfl hl.1 rfl dX7_resize_10 ⟨Nat.le_of_ble_eq_true rfl, Nat.le_of_ble_eq_true rfl⟩ (Nat.le_of_ble_eq_true rfl) (by rw [show (kxResize σ k b) = 2 by (unfold kxResize; (repeat' split) <;> first | rfl | omega | (exfalso; omega) | contradiction | grind)]; rfl) htab hlocks
  exact z_badV (pc := 2) (As := [.int (iI k)]) (rest := []) E hml hown hts (mxX7_needFile lL hst0 G o ν σ π δ τ ω k hI (by omega) hc2) (cwV 1 hts gX7_resize_X7_needFile rfl rfl rfl vdX7_needFile ⟨Nat.le_of_ble_eq_true rfl, Nat.le_of_ble_eq_true rfl⟩) (oB.recv hK hQ.ob rfl) hQ hK hX rfl hl.1 rfl dX7_resize_2 ⟨Nat.le_of_ble_eq_true rfl, Nat.le_of_ble_eq_true rfl⟩ (Nat.le_of_ble_eq_true rfl) (by rw [show (kxResize σ k b) = 1 by (unfold kxResize; (repeat' split) <;> first | rfl | omega | (exfalso; omega) | contradiction | grind)]; rfl) htab hlocks
set_option maxHeartbeats 1000000 in
set_option maxRecDepth 100000 in
theorem mX7_resize (lL : Launch) (G : GG) (o : Nat → Nat) (ν σ : Int → Int) (π : Nat → Int → Int) (δ τ ω : Int → Int) (k : Int) (b : Int) (hI : In σ) (hk : -2147483648 ≤ k ∧ k < 2147483648) (hb : -2147483648 ≤ b ∧ b < 2147483648) (hok : (kxResize σ k b) = 0) (hc : 0 ≤ ν 2 ∧ ν 2 ≤ 1000000) (hu : 0 ≤ ν 3 ∧ ν 3 ≤ 8) (hU : Ub σ) : Met lL yX7_resize wsX7_resize ({ frames := 4, cells := 0, slots := 0, locals := 153 } : Room) (va_Pc [.ref (o 0), .int (iI k), .int (iI b)] (fun U => QT G o ν σ π δ τ ω U.heap ∧ KK G U)) (va_Qi (fun r (_ : Unit) => r = (iI (σ (249 + k)))) (fun _ tZ => QT G o (zu (zu ν 2 (ν 2 + 1)) 3 (min (ν 3 + 1) 8)) (nxResize σ k b) (pU π (ν 2 % 8) σ) δ τ ω tZ.heap) (Ax o 187)) 0 0 (Ax o 187) := by
  refine z_met (P := (fun H : Heap => QT G o ν σ π δ τ ω H)) (by decide) rfl (Nat.le_of_ble_eq_true rfl) (fun pp ee ss mm below meth cC E hr hml hown hts hlocks hQ hK ls hl => ?_)
  have hl : lv_has ls 5 [(0, .ref (o 0)), (1, .int (iI k)), (2, .int (iI b))] := hl
  have hcs : 0 ≤ (({ frames := 4, cells := 0, slots := 0, locals := 153 } : Room)).cells ∧ 0 ≤ (({ frames := 4, cells := 0, slots := 0, locals := 153 } : Room)).slots := ⟨Nat.zero_le _, Nat.zero_le _⟩
  have hS : va_S (Ax o 187) ss.heap ss.heap [] := va_S.rf
  have hin6 : ∀ w ∈ wsX60, w ∈ wsX7_resize := fun w h => List.mem_cons_of_mem _ (List.mem_append_left _ (List.mem_append_left _ (List.mem_append_left _ (List.mem_append_left _ (List.mem_append_left _ (List.mem_append_left _ (List.mem_append_left _ (List.mem_append_right _ (h)))))))))
  have hin7 : ∀ w ∈ wsX70, w ∈ wsX7_resize := fun w h => List.mem_cons_of_mem _ (List.mem_append_left _ (List.mem_append_left _ (List.mem_append_left _ (List.mem_append_left _ (List.mem_append_left _ (List.mem_append_left _ (List.mem_append_left _ (List.mem_append_left _ (List.mem_append_right _ (h))))))))))
  have hF := hI.F
  have hMm := hI.M
  have hGn := hI.Gn
  have hTi := hI.ti
  have hGr := hI.gr
  have hoc := kxResize_ok hok
  have hfk := hI.fil hoc.1.1 hoc.1.2
  have hpj := hI.pjr (f := σ (189 + k)) (Or.inr hfk.1)
  refine lv_aload_n (pc := 0) E.1 E.2 dX7_resize_0 rfl (lv_at hl 0 rfl) ?_
  refine lv_iload_n (pc := 1) E.1 E.2 dX7_resize_1 rfl (lv_at hl 1 rfl) ?_
  refine z_rVv (pc := 2) (As := [.int (iI k)]) (rest := []) E hml hown hts (mX7_needFile lL G o ν σ π δ τ ω k hI (by omega) (by omega)) (cwV 1 hts gX7_resize_X7_needFile rfl rfl rfl vdX7_needFile ⟨Nat.le_of_ble_eq_true rfl, Nat.le_of_ble_eq_true rfl⟩) (oB.recv hK hQ.ob rfl) hQ hK rfl hl.1 rfl dX7_resize_2 hcs (Nat.le_of_ble_eq_true rfl) ?_
  refine lv_iload_n (pc := 5) E.1 E.2 dX7_resize_5 rfl (lv_at hl 2 rfl) ?_
  refine z_iconst (pc := 6) E dX7_resize_6 ?_
  refine z_sipush (pc := 7) E (by decide) dX7_resize_7 ?_
  refine z_rSv (pc := 10) (P := fun _ => True) (As := [.int (iI b), .int (iI 0), .int (iI 9999)]) (rest := []) E hml hown hts (mX7_needRange lL G b 0 9999 (by omega) (by omega) (by omega) (by omega)) (va_cwS 3 hts gX7_resize_X7_needRange rfl rfl rfl vdX7_needRange.2 ⟨Nat.le_of_ble_eq_true rfl, Nat.le_of_ble_eq_true rfl⟩) trivial hK rfl hl.1 rfl dX7_resize_10 hcs (Nat.le_of_ble_eq_true rfl) ?_
  refine lv_aload_n (pc := 13) E.1 E.2 dX7_resize_13 rfl (lv_at hl 0 rfl) ?_
  refine g7_0 (pc := 14) E hts hin7 hown hK hQ.ob (hts _ (List.mem_of_getElem? (i := 1) rfl)) dX7_resize_14 ?_
  refine lv_iload_n (pc := 17) E.1 E.2 dX7_resize_17 rfl (lv_at hl 1 rfl) ?_
  refine z_rVi (pc := 18) (As := [.int (iI k)]) (rest := []) E hml hown hts (mX6_projectOfFile lL G (fun k => o (1 + k)) σ k hI (by omega)) (cwV 1 hts gX7_resize_X6_projectOfFile rfl rfl rfl vdX6_projectOfFile ⟨Nat.le_of_ble_eq_true rfl, Nat.le_of_ble_eq_true rfl⟩) (oB.recv hK hQ.nob rfl) hQ.now hK rfl hl.1 rfl dX7_resize_18 hcs (Nat.le_of_ble_eq_true rfl) ?_
  have hfk0 := hI.fil (k := k) (by omega) (by omega)
  have hpj0 := hI.pjr (f := σ (189 + k)) (Or.inr hfk0.1)
  refine lv_istore_n (pc := 21) (lv' := [(3, .int (iI (pjF σ (σ (189 + k))))), (0, .ref (o 0)), (1, .int (iI k)), (2, .int (iI b))]) E.1 E.2 dX7_resize_21 rfl hl (by decide) rfl (fun ls hl => ?_)
  refine lv_aload_n (pc := 22) E.1 E.2 dX7_resize_22 rfl (lv_at hl 1 rfl) ?_
  refine g7_0 (pc := 23) E hts hin7 hown hK hQ.ob (hts _ (List.mem_of_getElem? (i := 1) rfl)) dX7_resize_23 ?_
  refine g6_1 (pc := 26) E hts hin6 hown hK hQ.nob (hts _ (List.mem_of_getElem? (i := 2) rfl)) dX7_resize_26 ?_
  refine lv_iload_n (pc := 29) E.1 E.2 dX7_resize_29 rfl (lv_at hl 2 rfl) ?_
  refine z_rVi (pc := 30) (As := [.int (iI k)]) (rest := []) E hml hown hts (mX2_sizeOf lL G (fun k => o (1 + (5 + k))) σ k hI (by omega)) (cwV 1 hts gX7_resize_X2_sizeOf rfl rfl rfl vdX2_sizeOf ⟨Nat.le_of_ble_eq_true rfl, Nat.le_of_ble_eq_true rfl⟩) (oB.recv hK hQ.fio rfl) hQ.now.fi hK rfl hl.1 rfl dX7_resize_30 hcs (Nat.le_of_ble_eq_true rfl) ?_
  rw [show (if 0 ≤ k ∧ k < σ 3 then σ (249 + k) else 0) = (σ (249 + k)) from (if_pos (by omega))]
  refine lv_istore (pc := 33) (lv' := [(4, .int (iI (σ (249 + k)))), (3, .int (iI (pjF σ (σ (189 + k))))), (0, .ref (o 0)), (1, .int (iI k)), (2, .int (iI b))]) E.1 E.2 dX7_resize_33 hl (by decide) rfl (fun ls hl => ?_)
  refine lv_aload_n (pc := 35) E.1 E.2 dX7_resize_35 rfl (lv_at hl 2 rfl) ?_
  refine g7_0 (pc := 36) E hts hin7 hown hK hQ.ob (hts _ (List.mem_of_getElem? (i := 1) rfl)) dX7_resize_36 ?_
  refine lv_iload_n (pc := 39) E.1 E.2 dX7_resize_39 rfl (lv_at hl 1 rfl) ?_
  refine lv_iload_n (pc := 40) E.1 E.2 dX7_resize_40 rfl (lv_at hl 4 rfl) ?_
  refine lv_iload (pc := 41) E.1 E.2 dX7_resize_41 (lv_at hl 0 rfl) ?_
  refine z_isub (pc := 43) E dX7_resize_43 ?_
  refine z_iconst (pc := 44) E dX7_resize_44 ?_
  refine z_rVi (pc := 45) (As := [.int (iI (pjF σ (σ (189 + k)))), .int (iI (b - (σ (249 + k)))), .int (iI 0)]) (rest := []) E hml hown hts (mX6_growthReason lL G (fun k => o (1 + k)) σ (pjF σ (σ (189 + k))) (b - (σ (249 + k))) 0 hI (by omega) (by omega) (by omega)) (cwV 3 hts gX7_resize_X6_growthReason rfl rfl rfl vdX6_growthReason ⟨Nat.le_of_ble_eq_true rfl, Nat.le_of_ble_eq_true rfl⟩) (oB.recv hK hQ.nob rfl) hQ.now hK rfl hl.1 rfl dX7_resize_45 hcs (Nat.le_of_ble_eq_true rfl) ?_
  have hrs := rsS_b σ (pjF σ (σ (189 + k))) (b - σ (249 + k)) 0
  refine z_rSv (pc := 48) (P := fun _ => True) (As := [.int (iI (rsS σ (pjF σ (σ (189 + k))) (b - (σ (249 + k))) 0))]) (rest := []) E hml hown hts (mX7_needNoReason lL G (rsS σ (pjF σ (σ (189 + k))) (b - (σ (249 + k))) 0) (by omega) (by omega)) (va_cwS 1 hts gX7_resize_X7_needNoReason rfl rfl rfl vdX7_needNoReason.2 ⟨Nat.le_of_ble_eq_true rfl, Nat.le_of_ble_eq_true rfl⟩) trivial hK rfl hl.1 rfl dX7_resize_48 hcs (Nat.le_of_ble_eq_true rfl) ?_
  refine lv_aload_n (pc := 51) E.1 E.2 dX7_resize_51 rfl (lv_at hl 2 rfl) ?_
  refine z_wVv (pc := 52) (As := []) (rest := []) E hml hown hts (mX7_remember lL G o ν σ π δ τ ω  hI hc hu) (cwV 0 hts gX7_resize_X7_remember rfl rfl rfl vdX7_remember ⟨Nat.le_of_ble_eq_true rfl, Nat.le_of_ble_eq_true rfl⟩) (oB.recv hK hQ.ob rfl) hQ hK hS (fun _ h => h) rfl hl.1 rfl dX7_resize_52 hcs (Nat.le_of_ble_eq_true rfl) (fun H locs hnew hsz hoth hS => ?_)
  have hQ : QT G o (zu (zu ν 2 ((ν 2) + 1)) 3 (min ((ν 3) + 1) 8)) σ (pU π ((ν 2) % 8) σ) δ τ ω H := hnew
  refine lv_aload_n (pc := 55) E.1 E.2 dX7_resize_55 rfl (lv_at hl 2 rfl) ?_
  refine g7_0 (pc := 56) E hts hin7 hown hK hQ.ob (hts _ (List.mem_of_getElem? (i := 1) rfl)) dX7_resize_56 ?_
  refine g6_1 (pc := 59) E hts hin6 hown hK hQ.nob (hts _ (List.mem_of_getElem? (i := 2) rfl)) dX7_resize_59 ?_
  refine lv_iload_n (pc := 62) E.1 E.2 dX7_resize_62 rfl (lv_at hl 3 rfl) ?_
  refine lv_iload_n (pc := 63) E.1 E.2 dX7_resize_63 rfl (lv_at hl 4 rfl) ?_
  refine z_wVv (pc := 64) (As := [.int (iI k), .int (iI b)]) (rest := []) E hml hown hts (mX2_setSize lL G (fun k => o (1 + (5 + k))) σ k b hI (by omega) (by omega)) (cwV 2 hts gX7_resize_X2_setSize rfl rfl rfl vdX2_setSize ⟨Nat.le_of_ble_eq_true rfl, Nat.le_of_ble_eq_true rfl⟩) (oB.recv hK hQ.fio rfl) hQ.now.fi hK hS (Aq.up2 (by decide)) rfl hl.1 rfl dX7_resize_64 hcs (Nat.le_of_ble_eq_true rfl) (fun H locs hnew hsz hoth hS => ?_)
  have hQ := QT.upN hQ (ST.upFI hQ.now hnew (fun q h1 h2 => hoth q h1 h2) (fun j hj => by first | rw [zu_n _ _ (by omega)] | rw [zu_n _ _ (by omega), zu_n _ _ (by omega)]) (by first | omega | (rw [zu_n _ _ (by omega)]; omega))) (fun q h1 h2 => hoth q h1 (fun z => h2 (Aq.in 1 5 18 3 (by decide) q z)))
  refine lv_aload_n (pc := 67) E.1 E.2 dX7_resize_67 rfl (lv_at hl 2 rfl) ?_
  refine g7_0 (pc := 68) E hts hin7 hown hK hQ.ob (hts _ (List.mem_of_getElem? (i := 1) rfl)) dX7_resize_68 ?_
  refine g6_2 (pc := 71) E hts hin6 hown hK hQ.nob (hts _ (List.mem_of_getElem? (i := 3) rfl)) dX7_resize_71 ?_
  refine lv_iload_n (pc := 74) E.1 E.2 dX7_resize_74 rfl (lv_at hl 1 rfl) ?_
  refine lv_iload_n (pc := 75) E.1 E.2 dX7_resize_75 rfl (lv_at hl 4 rfl) ?_
  refine lv_iload (pc := 76) E.1 E.2 dX7_resize_76 (lv_at hl 0 rfl) ?_
  refine z_isub (pc := 78) E dX7_resize_78 ?_
  refine z_iconst (pc := 79) E dX7_resize_79 ?_
  refine z_wVv (pc := 80) (As := [.int (iI (pjF σ (σ (189 + k)))), .int (iI (b - (σ (249 + k)))), .int (iI 0)]) (rest := []) E hml hown hts (mX0_change lL G (fun k => o (1 + (8 + k))) (zu σ (249 + k) b) (pjF σ (σ (189 + k))) (b - (σ (249 + k))) 0  (by omega) (by omega) (by omega) (fun j h0 h1 => by rw [zu_n _ _ (by omega)]; have q := hI.acc h0 h1; omega)) (cwV 3 hts gX7_resize_X0_change rfl rfl rfl vdX0_change ⟨Nat.le_of_ble_eq_true rfl, Nat.le_of_ble_eq_true rfl⟩) (oB.recv hK hQ.aco rfl) hQ.now.ac hK hS (Aq.up2 (by decide)) rfl hl.1 rfl dX7_resize_80 hcs (Nat.le_of_ble_eq_true rfl) (fun H locs hnew hsz hoth hS => ?_)
  have hQ := QT.upN hQ (ST.upAC hQ.now hnew (fun q h1 h2 => hoth q h1 h2) (fun j hj => coA_n (by omega) (by omega))) (fun q h1 h2 => hoth q h1 (fun z => h2 (Aq.in 1 8 18 5 (by decide) q z)))
  rw [coA_zu σ hpj (by omega)] at hQ
  have hQ : QT G o (zu (zu ν 2 ((ν 2) + 1)) 3 (min ((ν 3) + 1) 8)) (zu (coA σ (pjF σ (σ (189 + k))) (b - σ (249 + k)) 0) (249 + k) b) (pU π ((ν 2) % 8) σ) δ τ ω H := hQ
  refine lv_aload_n (pc := 83) E.1 E.2 dX7_resize_83 rfl (lv_at hl 2 rfl) ?_
  refine g7_0 (pc := 84) E hts hin7 hown hK hQ.ob (hts _ (List.mem_of_getElem? (i := 1) rfl)) dX7_resize_84 ?_
  refine z_wVv (pc := 87) (As := []) (rest := []) E hml hown hts (mX6_setClocks lL G (fun k => o (1 + k)) (zu (coA σ (pjF σ (σ (189 + k))) (b - σ (249 + k)) 0) (249 + k) b)  ((hI.coAI hpj (by omega) (by omega) hU).siz (by rw [coA_n hpj (by omega)]; exact hoc.1) hoc.2.1)) (cwV 0 hts gX7_resize_X6_setClocks rfl rfl rfl vdX6_setClocks ⟨Nat.le_of_ble_eq_true rfl, Nat.le_of_ble_eq_true rfl⟩) (oB.recv hK hQ.nob rfl) hQ.now hK hS (Aq.up (by decide)) rfl hl.1 rfl dX7_resize_87 hcs (Nat.le_of_ble_eq_true rfl) (fun H locs hnew hsz hoth hS => ?_)
  have hQ := QT.upN hQ hnew (fun q h1 h2 => hoth q h1 h2)
  refine lv_iload (pc := 90) E.1 E.2 dX7_resize_90 (lv_at hl 0 rfl) ?_
  exact z_retWi E hr rfl hQ hS hlocks dX7_resize_92
set_option maxHeartbeats 1000000 in
set_option maxRecDepth 100000 in
theorem mxX7_delete (lL : Launch) (hst0 : lL.stackTraces = false) (G : GG) (o : Nat → Nat) (ν σ : Int → Int) (π : Nat → Int → Int) (δ τ ω : Int → Int) (k : Int) (hI : In σ) (hk : -2147483648 ≤ k ∧ k < 2147483648) (hbad : ¬ ((kxFi σ k) = 0)) : vx_Met lL yX7_delete wsX7_delete ({ frames := 7, cells := 1, slots := 6, locals := 153 } : Room) (va_Pc [.ref (o 0), .int (iI k)] (fun U => QT G o ν σ π δ τ ω U.heap ∧ KK G U ∧ KX FF0 U U.heap)) (fun _ _ _ _ => False) (XCe (exq xI xI xI (kxFi σ k))) 1 6 FF0 := by
  refine z_metX (P := (fun H : Heap => QT G o ν σ π δ τ ω H)) (by decide) rfl (Nat.le_of_ble_eq_true rfl) (fun pp ee ss mm below meth cC E hml hown hts hlocks htab hQ hK hX ls hl => ?_)
  have hl : lv_has ls 2 [(0, .ref (o 0)), (1, .int (iI k))] := hl
  have hcs : 0 ≤ (({ frames := 7, cells := 1, slots := 6, locals := 153 } : Room)).cells ∧ 0 ≤ (({ frames := 7, cells := 1, slots := 6, locals := 153 } : Room)).slots := ⟨Nat.zero_le _, Nat.zero_le _⟩
  have hF := hI.F
  have hMm := hI.M
  have hGn := hI.Gn
  have hTi := hI.ti
  have hGr := hI.gr
  refine lv_aload_n (pc := 0) E.1 E.2 dX7_delete_0 rfl (lv_at hl 0 rfl) ?_
  refine lv_iload_n (pc := 1) E.1 E.2 dX7_delete_1 rfl (lv_at hl 1 rfl) ?_
  by_cases hc2 : 0 ≤ k ∧ k < σ 3
  · refine z_rVv (pc := 2) (As := [.int (iI k)]) (rest := []) E hml hown hts (mX7_needFile lL G o ν σ π δ τ ω k hI (by omega) (by omega)) (cwV 1 hts gX7_delete_X7_needFile rfl rfl rfl vdX7_needFile ⟨Nat.le_of_ble_eq_true rfl, Nat.le_of_ble_eq_true rfl⟩) (oB.recv hK hQ.ob rfl) hQ hK rfl hl.1 rfl dX7_delete_2 hcs (Nat.le_of_ble_eq_true rfl) ?_
    refine lv_aload_n (pc := 5) E.1 E.2 dX7_delete_5 rfl (lv_at hl 0 rfl) ?_
    exact absurd (show (kxFi σ k) = 0 by (unfold kxFi; (repeat' split) <;> first | rfl | omega | (exfalso; omega) | contradiction | grind)) hbad
  exact z_badV (pc := 2) (As := [.int (iI k)]) (rest := []) E hml hown hts (mxX7_needFile lL hst0 G o ν σ π δ τ ω k hI (by omega) hc2) (cwV 1 hts gX7_delete_X7_needFile rfl rfl rfl vdX7_needFile ⟨Nat.le_of_ble_eq_true rfl, Nat.le_of_ble_eq_true rfl⟩) (oB.recv hK hQ.ob rfl) hQ hK hX rfl hl.1 rfl dX7_delete_2 ⟨Nat.le_of_ble_eq_true rfl, Nat.le_of_ble_eq_true rfl⟩ (Nat.le_of_ble_eq_true rfl) (by rw [show (kxFi σ k) = 1 by (unfold kxFi; (repeat' split) <;> first | rfl | omega | (exfalso; omega) | contradiction | grind)]; rfl) htab hlocks
set_option maxHeartbeats 1000000 in
set_option maxRecDepth 100000 in
theorem mX7_delete (lL : Launch) (G : GG) (o : Nat → Nat) (ν σ : Int → Int) (π : Nat → Int → Int) (δ τ ω : Int → Int) (k : Int) (hI : In σ) (hk : -2147483648 ≤ k ∧ k < 2147483648) (hok : (kxFi σ k) = 0) (hc : 0 ≤ ν 2 ∧ ν 2 ≤ 1000000) (hu : 0 ≤ ν 3 ∧ ν 3 ≤ 8) : Met lL yX7_delete wsX7_delete ({ frames := 4, cells := 0, slots := 0, locals := 153 } : Room) (va_Pc [.ref (o 0), .int (iI k)] (fun U => QT G o ν σ π δ τ ω U.heap ∧ KK G U)) (va_Qi (fun r (_ : Unit) => r = (iI (σ 3 - 1))) (fun _ tZ => QT G o (zu (zu ν 2 (ν 2 + 1)) 3 (min (ν 3 + 1) 8)) (nxDelete σ k) (pU π (ν 2 % 8) σ) δ τ ω tZ.heap) (Ax o 187)) 0 0 (Ax o 187) := by
  refine z_met (P := (fun H : Heap => QT G o ν σ π δ τ ω H)) (by decide) rfl (Nat.le_of_ble_eq_true rfl) (fun pp ee ss mm below meth cC E hr hml hown hts hlocks hQ hK ls hl => ?_)
  have hl : lv_has ls 2 [(0, .ref (o 0)), (1, .int (iI k))] := hl
  have hcs : 0 ≤ (({ frames := 4, cells := 0, slots := 0, locals := 153 } : Room)).cells ∧ 0 ≤ (({ frames := 4, cells := 0, slots := 0, locals := 153 } : Room)).slots := ⟨Nat.zero_le _, Nat.zero_le _⟩
  have hS : va_S (Ax o 187) ss.heap ss.heap [] := va_S.rf
  have hin2 : ∀ w ∈ wsX20, w ∈ wsX7_delete := fun w h => List.mem_cons_of_mem _ (List.mem_append_left _ (List.mem_append_left _ (List.mem_append_left _ (List.mem_append_left _ (List.mem_append_right _ (h))))))
  have hin6 : ∀ w ∈ wsX60, w ∈ wsX7_delete := fun w h => List.mem_cons_of_mem _ (List.mem_append_left _ (List.mem_append_left _ (List.mem_append_left _ (List.mem_append_left _ (List.mem_append_left _ (List.mem_append_right _ (h)))))))
  have hin7 : ∀ w ∈ wsX70, w ∈ wsX7_delete := fun w h => List.mem_cons_of_mem _ (List.mem_append_left _ (List.mem_append_left _ (List.mem_append_left _ (List.mem_append_left _ (List.mem_append_left _ (List.mem_append_left _ (List.mem_append_right _ (h))))))))
  have hF := hI.F
  have hMm := hI.M
  have hGn := hI.Gn
  have hTi := hI.ti
  have hGr := hI.gr
  have hoc := kxFi_ok hok
  have hfk := hI.fil hoc.1 hoc.2
  have hpj := hI.pjr (f := σ (189 + k)) (Or.inr hfk.1)
  have e3 : coA σ (pjF σ (σ (189 + k))) (-σ (249 + k)) (-1) 3 = σ 3 := coA_n hpj (by omega)
  have hI2 : In (coA σ (pjF σ (σ (189 + k))) (-σ (249 + k)) (-1)) := hI.coAl hpj (by omega) (by omega)
  have hk3 : 0 ≤ k ∧ k < coA σ (pjF σ (σ (189 + k))) (-σ (249 + k)) (-1) 3 := by rw [e3]; exact hoc
  refine lv_aload_n (pc := 0) E.1 E.2 dX7_delete_0 rfl (lv_at hl 0 rfl) ?_
  refine lv_iload_n (pc := 1) E.1 E.2 dX7_delete_1 rfl (lv_at hl 1 rfl) ?_
  refine z_rVv (pc := 2) (As := [.int (iI k)]) (rest := []) E hml hown hts (mX7_needFile lL G o ν σ π δ τ ω k hI (by omega) (by omega)) (cwV 1 hts gX7_delete_X7_needFile rfl rfl rfl vdX7_needFile ⟨Nat.le_of_ble_eq_true rfl, Nat.le_of_ble_eq_true rfl⟩) (oB.recv hK hQ.ob rfl) hQ hK rfl hl.1 rfl dX7_delete_2 hcs (Nat.le_of_ble_eq_true rfl) ?_
  refine lv_aload_n (pc := 5) E.1 E.2 dX7_delete_5 rfl (lv_at hl 0 rfl) ?_
  refine z_wVv (pc := 6) (As := []) (rest := []) E hml hown hts (mX7_remember lL G o ν σ π δ τ ω  hI hc hu) (cwV 0 hts gX7_delete_X7_remember rfl rfl rfl vdX7_remember ⟨Nat.le_of_ble_eq_true rfl, Nat.le_of_ble_eq_true rfl⟩) (oB.recv hK hQ.ob rfl) hQ hK hS (fun _ h => h) rfl hl.1 rfl dX7_delete_6 hcs (Nat.le_of_ble_eq_true rfl) (fun H locs hnew hsz hoth hS => ?_)
  have hQ : QT G o (zu (zu ν 2 ((ν 2) + 1)) 3 (min ((ν 3) + 1) 8)) σ (pU π ((ν 2) % 8) σ) δ τ ω H := hnew
  refine lv_aload_n (pc := 9) E.1 E.2 dX7_delete_9 rfl (lv_at hl 0 rfl) ?_
  refine g7_0 (pc := 10) E hts hin7 hown hK hQ.ob (hts _ (List.mem_of_getElem? (i := 1) rfl)) dX7_delete_10 ?_
  refine g6_2 (pc := 13) E hts hin6 hown hK hQ.nob (hts _ (List.mem_of_getElem? (i := 2) rfl)) dX7_delete_13 ?_
  refine lv_aload_n (pc := 16) E.1 E.2 dX7_delete_16 rfl (lv_at hl 0 rfl) ?_
  refine g7_0 (pc := 17) E hts hin7 hown hK hQ.ob (hts _ (List.mem_of_getElem? (i := 1) rfl)) dX7_delete_17 ?_
  refine lv_iload_n (pc := 20) E.1 E.2 dX7_delete_20 rfl (lv_at hl 1 rfl) ?_
  refine z_rVi (pc := 21) (As := [.int (iI k)]) (rest := [.ref (o 9)]) E hml hown hts (mX6_projectOfFile lL G (fun k => o (1 + k)) σ k hI (by omega)) (cwV 1 hts gX7_delete_X6_projectOfFile rfl rfl rfl vdX6_projectOfFile ⟨Nat.le_of_ble_eq_true rfl, Nat.le_of_ble_eq_true rfl⟩) (oB.recv hK hQ.nob rfl) hQ.now hK rfl hl.1 rfl dX7_delete_21 hcs (Nat.le_of_ble_eq_true rfl) ?_
  refine lv_aload_n (pc := 24) E.1 E.2 dX7_delete_24 rfl (lv_at hl 0 rfl) ?_
  refine g7_0 (pc := 25) E hts hin7 hown hK hQ.ob (hts _ (List.mem_of_getElem? (i := 1) rfl)) dX7_delete_25 ?_
  refine g6_1 (pc := 28) E hts hin6 hown hK hQ.nob (hts _ (List.mem_of_getElem? (i := 3) rfl)) dX7_delete_28 ?_
  refine lv_iload_n (pc := 31) E.1 E.2 dX7_delete_31 rfl (lv_at hl 1 rfl) ?_
  refine z_rVi (pc := 32) (As := [.int (iI k)]) (rest := [.int (iI (pjF σ (σ (189 + k)))), .ref (o 9)]) E hml hown hts (mX2_sizeOf lL G (fun k => o (1 + (5 + k))) σ k hI (by omega)) (cwV 1 hts gX7_delete_X2_sizeOf rfl rfl rfl vdX2_sizeOf ⟨Nat.le_of_ble_eq_true rfl, Nat.le_of_ble_eq_true rfl⟩) (oB.recv hK hQ.fio rfl) hQ.now.fi hK rfl hl.1 rfl dX7_delete_32 hcs (Nat.le_of_ble_eq_true rfl) ?_
  rw [show (if 0 ≤ k ∧ k < σ 3 then σ (249 + k) else 0) = (σ (249 + k)) from (if_pos (by omega))]
  refine z_ineg (pc := 35) E dX7_delete_35 ?_
  refine z_iconst (pc := 36) E dX7_delete_36 ?_
  refine z_wVv (pc := 37) (As := [.int (iI (pjF σ (σ (189 + k)))), .int (iI (-(σ (249 + k)))), .int (iI (-1))]) (rest := []) E hml hown hts (mX0_change lL G (fun k => o (1 + (8 + k))) σ (pjF σ (σ (189 + k))) (-(σ (249 + k))) (-1)  (by omega) (by omega) (by omega) (fun j h0 h1 => by have q := hI.acc h0 h1; omega)) (cwV 3 hts gX7_delete_X0_change rfl rfl rfl vdX0_change ⟨Nat.le_of_ble_eq_true rfl, Nat.le_of_ble_eq_true rfl⟩) (oB.recv hK hQ.aco rfl) hQ.now.ac hK hS (Aq.up2 (by decide)) rfl hl.1 rfl dX7_delete_37 hcs (Nat.le_of_ble_eq_true rfl) (fun H locs hnew hsz hoth hS => ?_)
  have hQ := QT.upN hQ (ST.upAC hQ.now hnew (fun q h1 h2 => hoth q h1 h2) (fun j hj => coA_n (by omega) (by omega))) (fun q h1 h2 => hoth q h1 (fun z => h2 (Aq.in 1 8 18 5 (by decide) q z)))
  refine lv_aload_n (pc := 40) E.1 E.2 dX7_delete_40 rfl (lv_at hl 0 rfl) ?_
  refine g7_0 (pc := 41) E hts hin7 hown hK hQ.ob (hts _ (List.mem_of_getElem? (i := 1) rfl)) dX7_delete_41 ?_
  refine g6_1 (pc := 44) E hts hin6 hown hK hQ.nob (hts _ (List.mem_of_getElem? (i := 3) rfl)) dX7_delete_44 ?_
  refine lv_iload_n (pc := 47) E.1 E.2 dX7_delete_47 rfl (lv_at hl 1 rfl) ?_
  refine z_wVv (pc := 48) (As := [.int (iI k)]) (rest := []) E hml hown hts (mX2_removeAt lL G (fun k => o (1 + (5 + k))) (coA σ (pjF σ (σ (189 + k))) (-(σ (249 + k))) (-1)) k hI2 hk3) (cwV 1 hts gX7_delete_X2_removeAt rfl rfl rfl vdX2_removeAt ⟨Nat.le_of_ble_eq_true rfl, Nat.le_of_ble_eq_true rfl⟩) (oB.recv hK hQ.fio rfl) hQ.now.fi hK hS (Aq.up2 (by decide)) rfl hl.1 rfl dX7_delete_48 hcs (Nat.le_of_ble_eq_true rfl) (fun H locs hnew hsz hoth hS => ?_)
  have hQ := QT.upN hQ (ST.upFI hQ.now hnew (fun q h1 h2 => hoth q h1 h2) (fun j hj => dfA_n hI2 hk3 (by omega)) (by rw [coA_n hpj (by omega)]; omega)) (fun q h1 h2 => hoth q h1 (fun z => h2 (Aq.in 1 5 18 3 (by decide) q z)))
  refine lv_aload_n (pc := 51) E.1 E.2 dX7_delete_51 rfl (lv_at hl 0 rfl) ?_
  refine g7_0 (pc := 52) E hts hin7 hown hK hQ.ob (hts _ (List.mem_of_getElem? (i := 1) rfl)) dX7_delete_52 ?_
  refine z_wVv (pc := 55) (As := []) (rest := []) E hml hown hts (mX6_setClocks lL G (fun k => o (1 + k)) (dfA (coA σ (pjF σ (σ (189 + k))) (-(σ (249 + k))) (-1)) k)  (hI2.dfAI hk3)) (cwV 0 hts gX7_delete_X6_setClocks rfl rfl rfl vdX6_setClocks ⟨Nat.le_of_ble_eq_true rfl, Nat.le_of_ble_eq_true rfl⟩) (oB.recv hK hQ.nob rfl) hQ.now hK hS (Aq.up (by decide)) rfl hl.1 rfl dX7_delete_55 hcs (Nat.le_of_ble_eq_true rfl) (fun H locs hnew hsz hoth hS => ?_)
  have hQ := QT.upN hQ hnew (fun q h1 h2 => hoth q h1 h2)
  refine lv_aload_n (pc := 58) E.1 E.2 dX7_delete_58 rfl (lv_at hl 0 rfl) ?_
  refine g7_0 (pc := 59) E hts hin7 hown hK hQ.ob (hts _ (List.mem_of_getElem? (i := 1) rfl)) dX7_delete_59 ?_
  refine g6_1 (pc := 62) E hts hin6 hown hK hQ.nob (hts _ (List.mem_of_getElem? (i := 3) rfl)) dX7_delete_62 ?_
  refine g2_2 (pc := 65) E hts hin2 hown hK hQ.fio (hts _ (List.mem_of_getElem? (i := 4) rfl)) dX7_delete_65 ?_
  rw [show ((scA (dfA (coA σ (pjF σ (σ (189 + k))) (-(σ (249 + k))) (-1)) k) 16) 3) = (σ 3 - 1) from (by rw [scA_n _ _ (by omega), df_3 hI2.M hk3, e3])]
  exact z_retWi E hr rfl hQ hS hlocks dX7_delete_68
set_option maxHeartbeats 1000000 in
set_option maxRecDepth 100000 in
theorem mxX7_moveFile (lL : Launch) (hst0 : lL.stackTraces = false) (G : GG) (o : Nat → Nat) (ν σ : Int → Int) (π : Nat → Int → Int) (δ τ ω : Int → Int) (k : Int) (f : Int) (hI : In σ) (hk : -2147483648 ≤ k ∧ k < 2147483648) (hf : -2147483648 ≤ f ∧ f < 2147483648) (hbad : ¬ ((kxMoveFi σ k f) = 0)) : vx_Met lL yX7_moveFile wsX7_moveFile ({ frames := 7, cells := 1, slots := 6, locals := 153 } : Room) (va_Pc [.ref (o 0), .int (iI k), .int (iI f)] (fun U => QT G o ν σ π δ τ ω U.heap ∧ KK G U ∧ KX FF0 U U.heap)) (fun _ _ _ _ => False) (XCe (exq xI xS xI (kxMoveFi σ k f))) 1 6 FF0 := by
  refine z_metX (P := (fun H : Heap => QT G o ν σ π δ τ ω H)) (by decide) rfl (Nat.le_of_ble_eq_true rfl) (fun pp ee ss mm below meth cC E hml hown hts hlocks htab hQ hK hX ls hl => ?_)
  have hl : lv_has ls 6 [(0, .ref (o 0)), (1, .int (iI k)), (2, .int (iI f))] := hl
  have hcs : 0 ≤ (({ frames := 7, cells := 1, slots := 6, locals := 153 } : Room)).cells ∧ 0 ≤ (({ frames := 7, cells := 1, slots := 6, locals := 153 } : Room)).slots := ⟨Nat.zero_le _, Nat.zero_le _⟩
  have hin6 : ∀ w ∈ wsX60, w ∈ wsX7_moveFile := fun w h => List.mem_cons_of_mem _ (List.mem_append_left _ (List.mem_append_left _ (List.mem_append_left _ (List.mem_append_left _ (List.mem_append_left _ (List.mem_append_left _ (List.mem_append_right _ (h))))))))
  have hin7 : ∀ w ∈ wsX70, w ∈ wsX7_moveFile := fun w h => List.mem_cons_of_mem _ (List.mem_append_left _ (List.mem_append_left _ (List.mem_append_left _ (List.mem_append_left _ (List.mem_append_left _ (List.mem_append_left _ (List.mem_append_left _ (List.mem_append_right _ (h)))))))))
  have hF := hI.F
  have hMm := hI.M
  have hGn := hI.Gn
  have hTi := hI.ti
  have hGr := hI.gr
  refine lv_aload_n (pc := 0) E.1 E.2 dX7_moveFile_0 rfl (lv_at hl 0 rfl) ?_
  refine lv_iload_n (pc := 1) E.1 E.2 dX7_moveFile_1 rfl (lv_at hl 1 rfl) ?_
  by_cases hc2 : 0 ≤ k ∧ k < σ 3
  · refine z_rVv (pc := 2) (As := [.int (iI k)]) (rest := []) E hml hown hts (mX7_needFile lL G o ν σ π δ τ ω k hI (by omega) (by omega)) (cwV 1 hts gX7_moveFile_X7_needFile rfl rfl rfl vdX7_needFile ⟨Nat.le_of_ble_eq_true rfl, Nat.le_of_ble_eq_true rfl⟩) (oB.recv hK hQ.ob rfl) hQ hK rfl hl.1 rfl dX7_moveFile_2 hcs (Nat.le_of_ble_eq_true rfl) ?_
    refine lv_aload_n (pc := 5) E.1 E.2 dX7_moveFile_5 rfl (lv_at hl 0 rfl) ?_
    refine lv_iload_n (pc := 6) E.1 E.2 dX7_moveFile_6 rfl (lv_at hl 2 rfl) ?_
    by_cases hc7 : 0 ≤ f ∧ f < σ 2
    · refine z_rVv (pc := 7) (As := [.int (iI f)]) (rest := []) E hml hown hts (mX7_needFolder lL G o ν σ π δ τ ω f hI (by omega) (by omega)) (cwV 1 hts gX7_moveFile_X7_needFolder rfl rfl rfl vdX7_needFolder ⟨Nat.le_of_ble_eq_true rfl, Nat.le_of_ble_eq_true rfl⟩) (oB.recv hK hQ.ob rfl) hQ hK rfl hl.1 rfl dX7_moveFile_7 hcs (Nat.le_of_ble_eq_true rfl) ?_
      refine lv_aload_n (pc := 10) E.1 E.2 dX7_moveFile_10 rfl (lv_at hl 0 rfl) ?_
      refine g7_0 (pc := 11) E hts hin7 hown hK hQ.ob (hts _ (List.mem_of_getElem? (i := 1) rfl)) dX7_moveFile_11 ?_
      refine lv_iload_n (pc := 14) E.1 E.2 dX7_moveFile_14 rfl (lv_at hl 1 rfl) ?_
      refine z_rVi (pc := 15) (As := [.int (iI k)]) (rest := []) E hml hown hts (mX6_projectOfFile lL G (fun k => o (1 + k)) σ k hI (by omega)) (cwV 1 hts gX7_moveFile_X6_projectOfFile rfl rfl rfl vdX6_projectOfFile ⟨Nat.le_of_ble_eq_true rfl, Nat.le_of_ble_eq_true rfl⟩) (oB.recv hK hQ.nob rfl) hQ.now hK rfl hl.1 rfl dX7_moveFile_15 hcs (Nat.le_of_ble_eq_true rfl) ?_
      have hfk0 := hI.fil (k := k) (by omega) (by omega)
      have hpj0 := hI.pjr (f := σ (189 + k)) (Or.inr hfk0.1)
      refine lv_istore_n (pc := 18) (lv' := [(3, .int (iI (pjF σ (σ (189 + k))))), (0, .ref (o 0)), (1, .int (iI k)), (2, .int (iI f))]) E.1 E.2 dX7_moveFile_18 rfl hl (by decide) rfl (fun ls hl => ?_)
      refine lv_aload_n (pc := 19) E.1 E.2 dX7_moveFile_19 rfl (lv_at hl 1 rfl) ?_
      refine g7_0 (pc := 20) E hts hin7 hown hK hQ.ob (hts _ (List.mem_of_getElem? (i := 1) rfl)) dX7_moveFile_20 ?_
      refine g6_0 (pc := 23) E hts hin6 hown hK hQ.nob (hts _ (List.mem_of_getElem? (i := 2) rfl)) dX7_moveFile_23 ?_
      refine lv_iload_n (pc := 26) E.1 E.2 dX7_moveFile_26 rfl (lv_at hl 3 rfl) ?_
      refine z_rVi (pc := 27) (As := [.int (iI f)]) (rest := []) E hml hown hts (mX3_projectOf lL G (fun k => o (1 + (1 + k))) σ f hI (Or.inr (by omega))) (cwV 1 hts gX7_moveFile_X3_projectOf rfl rfl rfl vdX3_projectOf ⟨Nat.le_of_ble_eq_true rfl, Nat.le_of_ble_eq_true rfl⟩) (oB.recv hK hQ.foo rfl) hQ.now.fo hK rfl hl.1 rfl dX7_moveFile_27 hcs (Nat.le_of_ble_eq_true rfl) ?_
      have hpt0 := hI.pjr (f := f) (Or.inr (by omega))
      refine lv_istore (pc := 30) (lv' := [(4, .int (iI (pjF σ f))), (3, .int (iI (pjF σ (σ (189 + k))))), (0, .ref (o 0)), (1, .int (iI k)), (2, .int (iI f))]) E.1 E.2 dX7_moveFile_30 hl (by decide) rfl (fun ls hl => ?_)
      refine lv_aload_n (pc := 32) E.1 E.2 dX7_moveFile_32 rfl (lv_at hl 2 rfl) ?_
      refine g7_0 (pc := 33) E hts hin7 hown hK hQ.ob (hts _ (List.mem_of_getElem? (i := 1) rfl)) dX7_moveFile_33 ?_
      refine g6_1 (pc := 36) E hts hin6 hown hK hQ.nob (hts _ (List.mem_of_getElem? (i := 3) rfl)) dX7_moveFile_36 ?_
      refine lv_iload_n (pc := 39) E.1 E.2 dX7_moveFile_39 rfl (lv_at hl 3 rfl) ?_
      refine z_rVi (pc := 40) (As := [.int (iI k)]) (rest := []) E hml hown hts (mX2_sizeOf lL G (fun k => o (1 + (5 + k))) σ k hI (by omega)) (cwV 1 hts gX7_moveFile_X2_sizeOf rfl rfl rfl vdX2_sizeOf ⟨Nat.le_of_ble_eq_true rfl, Nat.le_of_ble_eq_true rfl⟩) (oB.recv hK hQ.fio rfl) hQ.now.fi hK rfl hl.1 rfl dX7_moveFile_40 hcs (Nat.le_of_ble_eq_true rfl) ?_
      rw [show (if 0 ≤ k ∧ k < σ 3 then σ (249 + k) else 0) = (σ (249 + k)) from (if_pos (by omega))]
      refine lv_istore (pc := 43) (lv' := [(5, .int (iI (σ (249 + k)))), (4, .int (iI (pjF σ f))), (3, .int (iI (pjF σ (σ (189 + k))))), (0, .ref (o 0)), (1, .int (iI k)), (2, .int (iI f))]) E.1 E.2 dX7_moveFile_43 hl (by decide) rfl (fun ls hl => ?_)
      refine lv_iload_n (pc := 45) E.1 E.2 dX7_moveFile_45 rfl (lv_at hl 2 rfl) ?_
      refine lv_iload (pc := 46) E.1 E.2 dX7_moveFile_46 (lv_at hl 1 rfl) ?_
      refine z_icmp_eq (pc := 48) (tgt := 66) E ⟨by omega, by omega⟩ ⟨by omega, by omega⟩ dX7_moveFile_48 (by decide) (fun h48 => ?_) (fun h48 => ?_)
      · have hrq : rcS σ k f = 0 := by unfold rcS; first | rw [if_pos h48] | rw [if_pos h48.symm]
        refine lv_aload_n (pc := 66) E.1 E.2 dX7_moveFile_66 rfl (lv_at hl 3 rfl) ?_
        exact absurd (show (kxMoveFi σ k f) = 0 by (unfold kxMoveFi; (repeat' split) <;> first | rfl | omega | (exfalso; omega) | contradiction | grind)) hbad
      · refine lv_aload_n (pc := 51) E.1 E.2 dX7_moveFile_51 rfl (lv_at hl 3 rfl) ?_
        refine g7_0 (pc := 52) E hts hin7 hown hK hQ.ob (hts _ (List.mem_of_getElem? (i := 1) rfl)) dX7_moveFile_52 ?_
        refine lv_iload (pc := 55) E.1 E.2 dX7_moveFile_55 (lv_at hl 1 rfl) ?_
        refine lv_iload (pc := 57) E.1 E.2 dX7_moveFile_57 (lv_at hl 0 rfl) ?_
        refine z_iconst (pc := 59) E dX7_moveFile_59 ?_
        refine z_rVi (pc := 60) (As := [.int (iI (pjF σ f)), .int (iI (σ (249 + k))), .int (iI 1)]) (rest := []) E hml hown hts (mX6_growthReason lL G (fun k => o (1 + k)) σ (pjF σ f) (σ (249 + k)) 1 hI (by omega) (by omega) (by omega)) (cwV 3 hts gX7_moveFile_X6_growthReason rfl rfl rfl vdX6_growthReason ⟨Nat.le_of_ble_eq_true rfl, Nat.le_of_ble_eq_true rfl⟩) (oB.recv hK hQ.nob rfl) hQ.now hK rfl hl.1 rfl dX7_moveFile_60 hcs (Nat.le_of_ble_eq_true rfl) ?_
        have hrs := rsS_b σ (pjF σ f) (σ (249 + k)) 1
        have hrd := rcS_v (show ¬ pjF σ f = pjF σ (σ (189 + k)) from fun z => by omega)
        by_cases hc63 : (rsS σ (pjF σ f) (σ (249 + k)) 1) = 0
        · refine z_rSv (pc := 63) (P := fun _ => True) (As := [.int (iI (rsS σ (pjF σ f) (σ (249 + k)) 1))]) (rest := []) E hml hown hts (mX7_needNoReason lL G (rsS σ (pjF σ f) (σ (249 + k)) 1) (by omega) (by omega)) (va_cwS 1 hts gX7_moveFile_X7_needNoReason rfl rfl rfl vdX7_needNoReason.2 ⟨Nat.le_of_ble_eq_true rfl, Nat.le_of_ble_eq_true rfl⟩) trivial hK rfl hl.1 rfl dX7_moveFile_63 hcs (Nat.le_of_ble_eq_true rfl) ?_
          refine lv_aload_n (pc := 66) E.1 E.2 dX7_moveFile_66 rfl (lv_at hl 3 rfl) ?_
          exact absurd (show (kxMoveFi σ k f) = 0 by (unfold kxMoveFi; (repeat' split) <;> first | rfl | omega | (exfalso; omega) | contradiction | grind)) hbad
        exact z_badS (pc := 63) (P := fun _ => True) (As := [.int (iI (rsS σ (pjF σ f) (σ (249 + k)) 1))]) (rest := []) E hml hown hts (mxX7_needNoReason lL hst0 G (rsS σ (pjF σ f) (σ (249 + k)) 1) (by omega) hc63) (va_cwS 1 hts gX7_moveFile_X7_needNoReason rfl rfl rfl vdX7_needNoReason.2 ⟨Nat.le_of_ble_eq_true rfl, Nat.le_of_ble_eq_true rfl⟩) trivial hK hX rfl hl.1 rfl dX7_moveFile_63 ⟨Nat.le_of_ble_eq_true rfl, Nat.le_of_ble_eq_true rfl⟩ (Nat.le_of_ble_eq_true rfl) (by rw [show (kxMoveFi σ k f) = 2 by (unfold kxMoveFi; (repeat' split) <;> first | rfl | omega | (exfalso; omega) | contradiction | grind)]; rfl) htab hlocks
    exact z_badV (pc := 7) (As := [.int (iI f)]) (rest := []) E hml hown hts (mxX7_needFolder lL hst0 G o ν σ π δ τ ω f hI (by omega) hc7) (cwV 1 hts gX7_moveFile_X7_needFolder rfl rfl rfl vdX7_needFolder ⟨Nat.le_of_ble_eq_true rfl, Nat.le_of_ble_eq_true rfl⟩) (oB.recv hK hQ.ob rfl) hQ hK hX rfl hl.1 rfl dX7_moveFile_7 ⟨Nat.le_of_ble_eq_true rfl, Nat.le_of_ble_eq_true rfl⟩ (Nat.le_of_ble_eq_true rfl) (by rw [show (kxMoveFi σ k f) = 1 by (unfold kxMoveFi; (repeat' split) <;> first | rfl | omega | (exfalso; omega) | contradiction | grind)]; rfl) htab hlocks
  exact z_badV (pc := 2) (As := [.int (iI k)]) (rest := []) E hml hown hts (mxX7_needFile lL hst0 G o ν σ π δ τ ω k hI (by omega) hc2) (cwV 1 hts gX7_moveFile_X7_needFile rfl rfl rfl vdX7_needFile ⟨Nat.le_of_ble_eq_true rfl, Nat.le_of_ble_eq_true rfl⟩) (oB.recv hK hQ.ob rfl) hQ hK hX rfl hl.1 rfl dX7_moveFile_2 ⟨Nat.le_of_ble_eq_true rfl, Nat.le_of_ble_eq_true rfl⟩ (Nat.le_of_ble_eq_true rfl) (by rw [show (kxMoveFi σ k f) = 1 by (unfold kxMoveFi; (repeat' split) <;> first | rfl | omega | (exfalso; omega) | contradiction | grind)]; rfl) htab hlocks
set_option maxHeartbeats 1000000 in
set_option maxRecDepth 100000 in
theorem mX7_moveFile (lL : Launch) (G : GG) (o : Nat → Nat) (ν σ : Int → Int) (π : Nat → Int → Int) (δ τ ω : Int → Int) (k : Int) (f : Int) (hI : In σ) (hk : -2147483648 ≤ k ∧ k < 2147483648) (hf : -2147483648 ≤ f ∧ f < 2147483648) (hok : (kxMoveFi σ k f) = 0) (hc : 0 ≤ ν 2 ∧ ν 2 ≤ 1000000) (hu : 0 ≤ ν 3 ∧ ν 3 ≤ 8) (hU : Ub σ) : Met lL yX7_moveFile wsX7_moveFile ({ frames := 4, cells := 0, slots := 0, locals := 153 } : Room) (va_Pc [.ref (o 0), .int (iI k), .int (iI f)] (fun U => QT G o ν σ π δ τ ω U.heap ∧ KK G U)) (va_Qi (fun r (_ : Unit) => r = (iI (axMoveFi σ k f))) (fun _ tZ => QT G o (zu (zu ν 2 (ν 2 + 1)) 3 (min (ν 3 + 1) 8)) (nxMoveFi σ k f) (pU π (ν 2 % 8) σ) δ τ ω tZ.heap) (Ax o 187)) 0 0 (Ax o 187) := by
  refine z_met (P := (fun H : Heap => QT G o ν σ π δ τ ω H)) (by decide) rfl (Nat.le_of_ble_eq_true rfl) (fun pp ee ss mm below meth cC E hr hml hown hts hlocks hQ hK ls hl => ?_)
  have hl : lv_has ls 6 [(0, .ref (o 0)), (1, .int (iI k)), (2, .int (iI f))] := hl
  have hcs : 0 ≤ (({ frames := 4, cells := 0, slots := 0, locals := 153 } : Room)).cells ∧ 0 ≤ (({ frames := 4, cells := 0, slots := 0, locals := 153 } : Room)).slots := ⟨Nat.zero_le _, Nat.zero_le _⟩
  have hS : va_S (Ax o 187) ss.heap ss.heap [] := va_S.rf
  have hin6 : ∀ w ∈ wsX60, w ∈ wsX7_moveFile := fun w h => List.mem_cons_of_mem _ (List.mem_append_left _ (List.mem_append_left _ (List.mem_append_left _ (List.mem_append_left _ (List.mem_append_left _ (List.mem_append_left _ (List.mem_append_right _ (h))))))))
  have hin7 : ∀ w ∈ wsX70, w ∈ wsX7_moveFile := fun w h => List.mem_cons_of_mem _ (List.mem_append_left _ (List.mem_append_left _ (List.mem_append_left _ (List.mem_append_left _ (List.mem_append_left _ (List.mem_append_left _ (List.mem_append_left _ (List.mem_append_right _ (h)))))))))
  have hF := hI.F
  have hMm := hI.M
  have hGn := hI.Gn
  have hTi := hI.ti
  have hGr := hI.gr
  have hoc := kxMoveFi_ok hok
  have hfk := hI.fil hoc.1.1 hoc.1.2
  have hpj := hI.pjr (f := σ (189 + k)) (Or.inr hfk.1)
  have hpt := hI.pjr (f := f) (Or.inr hoc.2.1)
  have hrz := rcS_b σ k f
  have hrc : rcS σ k f = 0 := by omega
  refine lv_aload_n (pc := 0) E.1 E.2 dX7_moveFile_0 rfl (lv_at hl 0 rfl) ?_
  refine lv_iload_n (pc := 1) E.1 E.2 dX7_moveFile_1 rfl (lv_at hl 1 rfl) ?_
  refine z_rVv (pc := 2) (As := [.int (iI k)]) (rest := []) E hml hown hts (mX7_needFile lL G o ν σ π δ τ ω k hI (by omega) (by omega)) (cwV 1 hts gX7_moveFile_X7_needFile rfl rfl rfl vdX7_needFile ⟨Nat.le_of_ble_eq_true rfl, Nat.le_of_ble_eq_true rfl⟩) (oB.recv hK hQ.ob rfl) hQ hK rfl hl.1 rfl dX7_moveFile_2 hcs (Nat.le_of_ble_eq_true rfl) ?_
  refine lv_aload_n (pc := 5) E.1 E.2 dX7_moveFile_5 rfl (lv_at hl 0 rfl) ?_
  refine lv_iload_n (pc := 6) E.1 E.2 dX7_moveFile_6 rfl (lv_at hl 2 rfl) ?_
  refine z_rVv (pc := 7) (As := [.int (iI f)]) (rest := []) E hml hown hts (mX7_needFolder lL G o ν σ π δ τ ω f hI (by omega) (by omega)) (cwV 1 hts gX7_moveFile_X7_needFolder rfl rfl rfl vdX7_needFolder ⟨Nat.le_of_ble_eq_true rfl, Nat.le_of_ble_eq_true rfl⟩) (oB.recv hK hQ.ob rfl) hQ hK rfl hl.1 rfl dX7_moveFile_7 hcs (Nat.le_of_ble_eq_true rfl) ?_
  refine lv_aload_n (pc := 10) E.1 E.2 dX7_moveFile_10 rfl (lv_at hl 0 rfl) ?_
  refine g7_0 (pc := 11) E hts hin7 hown hK hQ.ob (hts _ (List.mem_of_getElem? (i := 1) rfl)) dX7_moveFile_11 ?_
  refine lv_iload_n (pc := 14) E.1 E.2 dX7_moveFile_14 rfl (lv_at hl 1 rfl) ?_
  refine z_rVi (pc := 15) (As := [.int (iI k)]) (rest := []) E hml hown hts (mX6_projectOfFile lL G (fun k => o (1 + k)) σ k hI (by omega)) (cwV 1 hts gX7_moveFile_X6_projectOfFile rfl rfl rfl vdX6_projectOfFile ⟨Nat.le_of_ble_eq_true rfl, Nat.le_of_ble_eq_true rfl⟩) (oB.recv hK hQ.nob rfl) hQ.now hK rfl hl.1 rfl dX7_moveFile_15 hcs (Nat.le_of_ble_eq_true rfl) ?_
  have hfk0 := hI.fil (k := k) (by omega) (by omega)
  have hpj0 := hI.pjr (f := σ (189 + k)) (Or.inr hfk0.1)
  refine lv_istore_n (pc := 18) (lv' := [(3, .int (iI (pjF σ (σ (189 + k))))), (0, .ref (o 0)), (1, .int (iI k)), (2, .int (iI f))]) E.1 E.2 dX7_moveFile_18 rfl hl (by decide) rfl (fun ls hl => ?_)
  refine lv_aload_n (pc := 19) E.1 E.2 dX7_moveFile_19 rfl (lv_at hl 1 rfl) ?_
  refine g7_0 (pc := 20) E hts hin7 hown hK hQ.ob (hts _ (List.mem_of_getElem? (i := 1) rfl)) dX7_moveFile_20 ?_
  refine g6_0 (pc := 23) E hts hin6 hown hK hQ.nob (hts _ (List.mem_of_getElem? (i := 2) rfl)) dX7_moveFile_23 ?_
  refine lv_iload_n (pc := 26) E.1 E.2 dX7_moveFile_26 rfl (lv_at hl 3 rfl) ?_
  refine z_rVi (pc := 27) (As := [.int (iI f)]) (rest := []) E hml hown hts (mX3_projectOf lL G (fun k => o (1 + (1 + k))) σ f hI (Or.inr (by omega))) (cwV 1 hts gX7_moveFile_X3_projectOf rfl rfl rfl vdX3_projectOf ⟨Nat.le_of_ble_eq_true rfl, Nat.le_of_ble_eq_true rfl⟩) (oB.recv hK hQ.foo rfl) hQ.now.fo hK rfl hl.1 rfl dX7_moveFile_27 hcs (Nat.le_of_ble_eq_true rfl) ?_
  have hpt0 := hI.pjr (f := f) (Or.inr (by omega))
  refine lv_istore (pc := 30) (lv' := [(4, .int (iI (pjF σ f))), (3, .int (iI (pjF σ (σ (189 + k))))), (0, .ref (o 0)), (1, .int (iI k)), (2, .int (iI f))]) E.1 E.2 dX7_moveFile_30 hl (by decide) rfl (fun ls hl => ?_)
  refine lv_aload_n (pc := 32) E.1 E.2 dX7_moveFile_32 rfl (lv_at hl 2 rfl) ?_
  refine g7_0 (pc := 33) E hts hin7 hown hK hQ.ob (hts _ (List.mem_of_getElem? (i := 1) rfl)) dX7_moveFile_33 ?_
  refine g6_1 (pc := 36) E hts hin6 hown hK hQ.nob (hts _ (List.mem_of_getElem? (i := 3) rfl)) dX7_moveFile_36 ?_
  refine lv_iload_n (pc := 39) E.1 E.2 dX7_moveFile_39 rfl (lv_at hl 3 rfl) ?_
  refine z_rVi (pc := 40) (As := [.int (iI k)]) (rest := []) E hml hown hts (mX2_sizeOf lL G (fun k => o (1 + (5 + k))) σ k hI (by omega)) (cwV 1 hts gX7_moveFile_X2_sizeOf rfl rfl rfl vdX2_sizeOf ⟨Nat.le_of_ble_eq_true rfl, Nat.le_of_ble_eq_true rfl⟩) (oB.recv hK hQ.fio rfl) hQ.now.fi hK rfl hl.1 rfl dX7_moveFile_40 hcs (Nat.le_of_ble_eq_true rfl) ?_
  rw [show (if 0 ≤ k ∧ k < σ 3 then σ (249 + k) else 0) = (σ (249 + k)) from (if_pos (by omega))]
  refine lv_istore (pc := 43) (lv' := [(5, .int (iI (σ (249 + k)))), (4, .int (iI (pjF σ f))), (3, .int (iI (pjF σ (σ (189 + k))))), (0, .ref (o 0)), (1, .int (iI k)), (2, .int (iI f))]) E.1 E.2 dX7_moveFile_43 hl (by decide) rfl (fun ls hl => ?_)
  refine lv_iload_n (pc := 45) E.1 E.2 dX7_moveFile_45 rfl (lv_at hl 2 rfl) ?_
  refine lv_iload (pc := 46) E.1 E.2 dX7_moveFile_46 (lv_at hl 1 rfl) ?_
  refine z_icmp_eq (pc := 48) (tgt := 66) E ⟨by omega, by omega⟩ ⟨by omega, by omega⟩ dX7_moveFile_48 (by decide) (fun h48 => ?_) (fun h48 => ?_)
  · refine lv_aload_n (pc := 66) E.1 E.2 dX7_moveFile_66 rfl (lv_at hl 3 rfl) ?_
    refine z_wVv (pc := 67) (As := []) (rest := []) E hml hown hts (mX7_remember lL G o ν σ π δ τ ω  hI hc hu) (cwV 0 hts gX7_moveFile_X7_remember rfl rfl rfl vdX7_remember ⟨Nat.le_of_ble_eq_true rfl, Nat.le_of_ble_eq_true rfl⟩) (oB.recv hK hQ.ob rfl) hQ hK hS (fun _ h => h) rfl hl.1 rfl dX7_moveFile_67 hcs (Nat.le_of_ble_eq_true rfl) (fun H locs hnew hsz hoth hS => ?_)
    have hQ : QT G o (zu (zu ν 2 ((ν 2) + 1)) 3 (min ((ν 3) + 1) 8)) σ (pU π ((ν 2) % 8) σ) δ τ ω H := hnew
    refine lv_aload_n (pc := 70) E.1 E.2 dX7_moveFile_70 rfl (lv_at hl 3 rfl) ?_
    refine g7_0 (pc := 71) E hts hin7 hown hK hQ.ob (hts _ (List.mem_of_getElem? (i := 1) rfl)) dX7_moveFile_71 ?_
    refine g6_1 (pc := 74) E hts hin6 hown hK hQ.nob (hts _ (List.mem_of_getElem? (i := 3) rfl)) dX7_moveFile_74 ?_
    refine lv_iload_n (pc := 77) E.1 E.2 dX7_moveFile_77 rfl (lv_at hl 4 rfl) ?_
    refine lv_iload_n (pc := 78) E.1 E.2 dX7_moveFile_78 rfl (lv_at hl 5 rfl) ?_
    refine z_wVv (pc := 79) (As := [.int (iI k), .int (iI f)]) (rest := []) E hml hown hts (mX2_setPlace lL G (fun k => o (1 + (5 + k))) σ k f hI (by omega) (by omega)) (cwV 2 hts gX7_moveFile_X2_setPlace rfl rfl rfl vdX2_setPlace ⟨Nat.le_of_ble_eq_true rfl, Nat.le_of_ble_eq_true rfl⟩) (oB.recv hK hQ.fio rfl) hQ.now.fi hK hS (Aq.up2 (by decide)) rfl hl.1 rfl dX7_moveFile_79 hcs (Nat.le_of_ble_eq_true rfl) (fun H locs hnew hsz hoth hS => ?_)
    have hQ := QT.upN hQ (ST.upFI hQ.now hnew (fun q h1 h2 => hoth q h1 h2) (fun j hj => by first | rw [zu_n _ _ (by omega)] | rw [zu_n _ _ (by omega), zu_n _ _ (by omega)]) (by first | omega | (rw [zu_n _ _ (by omega)]; omega))) (fun q h1 h2 => hoth q h1 (fun z => h2 (Aq.in 1 5 18 3 (by decide) q z)))
    refine lv_aload_n (pc := 82) E.1 E.2 dX7_moveFile_82 rfl (lv_at hl 3 rfl) ?_
    refine g7_0 (pc := 83) E hts hin7 hown hK hQ.ob (hts _ (List.mem_of_getElem? (i := 1) rfl)) dX7_moveFile_83 ?_
    refine g6_2 (pc := 86) E hts hin6 hown hK hQ.nob (hts _ (List.mem_of_getElem? (i := 4) rfl)) dX7_moveFile_86 ?_
    refine lv_iload_n (pc := 89) E.1 E.2 dX7_moveFile_89 rfl (lv_at hl 2 rfl) ?_
    refine lv_iload (pc := 90) E.1 E.2 dX7_moveFile_90 (lv_at hl 1 rfl) ?_
    refine lv_iload (pc := 92) E.1 E.2 dX7_moveFile_92 (lv_at hl 0 rfl) ?_
    refine z_iconst (pc := 94) E dX7_moveFile_94 ?_
    refine z_wVv (pc := 95) (As := [.int (iI (pjF σ (σ (189 + k)))), .int (iI (pjF σ f)), .int (iI (σ (249 + k))), .int (iI 1)]) (rest := []) E hml hown hts (mX0_transfer lL G (fun k => o (1 + (8 + k))) (zu σ (189 + k) f) (pjF σ (σ (189 + k))) (pjF σ f) (σ (249 + k)) 1  (by omega) (by omega) (by omega) (by omega) (fun j h0 h1 => by rw [zu_n _ _ (by omega)]; exact (hI.acc h0 h1).2.2.1)) (cwV 4 hts gX7_moveFile_X0_transfer rfl rfl rfl vdX0_transfer ⟨Nat.le_of_ble_eq_true rfl, Nat.le_of_ble_eq_true rfl⟩) (oB.recv hK hQ.aco rfl) hQ.now.ac hK hS (Aq.up2 (by decide)) rfl hl.1 rfl dX7_moveFile_95 hcs (Nat.le_of_ble_eq_true rfl) (fun H locs hnew hsz hoth hS => ?_)
    have hQ := QT.upN hQ (ST.upAC hQ.now hnew (fun q h1 h2 => hoth q h1 h2) (fun j hj => by split <;> first | rfl | exact (coA_n hpj (by omega)).trans (coA_n hpt (by omega)))) (fun q h1 h2 => hoth q h1 (fun z => h2 (Aq.in 1 8 18 5 (by decide) q z)))
    rw [cm_zu σ hpj hpt (by omega)] at hQ
    have hQ : QT G o (zu (zu ν 2 ((ν 2) + 1)) 3 (min ((ν 3) + 1) 8)) (zu (cmA σ (pjF σ (σ (189 + k))) (pjF σ f) (σ (249 + k))) (189 + k) f) (pU π ((ν 2) % 8) σ) δ τ ω H := hQ
    refine lv_aload_n (pc := 98) E.1 E.2 dX7_moveFile_98 rfl (lv_at hl 3 rfl) ?_
    refine g7_0 (pc := 99) E hts hin7 hown hK hQ.ob (hts _ (List.mem_of_getElem? (i := 1) rfl)) dX7_moveFile_99 ?_
    refine z_wVv (pc := 102) (As := []) (rest := []) E hml hown hts (mX6_setClocks lL G (fun k => o (1 + k)) (zu (cmA σ (pjF σ (σ (189 + k))) (pjF σ f) (σ (249 + k))) (189 + k) f)  (cmI hI hpj hpt hU (by omega) hoc.1 hoc.2.1)) (cwV 0 hts gX7_moveFile_X6_setClocks rfl rfl rfl vdX6_setClocks ⟨Nat.le_of_ble_eq_true rfl, Nat.le_of_ble_eq_true rfl⟩) (oB.recv hK hQ.nob rfl) hQ.now hK hS (Aq.up (by decide)) rfl hl.1 rfl dX7_moveFile_102 hcs (Nat.le_of_ble_eq_true rfl) (fun H locs hnew hsz hoth hS => ?_)
    have hQ := QT.upN hQ hnew (fun q h1 h2 => hoth q h1 h2)
    refine lv_iload_n (pc := 105) E.1 E.2 dX7_moveFile_105 rfl (lv_at hl 2 rfl) ?_
    refine lv_iload (pc := 106) E.1 E.2 dX7_moveFile_106 (lv_at hl 1 rfl) ?_
    refine z_icmp_ne (pc := 108) (tgt := 115) E ⟨by omega, by omega⟩ ⟨by omega, by omega⟩ dX7_moveFile_108 (by decide) (fun h108 => ?_) (fun h108 => ?_)
    · exact absurd h108 (by first | omega | exact h48 | exact fun q => h48 q)
    · refine z_iconst (pc := 111) E dX7_moveFile_111 ?_
      refine lv_goto (pc := 112) (tgt := 116) E.1 E.2 dX7_moveFile_112 (by decide) ?_
      exact z_retWi E hr (congrArg iI (by (unfold axMoveFi; first | exact (if_pos (by omega)).symm | exact (if_neg (by omega)).symm))) hQ hS hlocks dX7_moveFile_116
  · refine lv_aload_n (pc := 51) E.1 E.2 dX7_moveFile_51 rfl (lv_at hl 3 rfl) ?_
    refine g7_0 (pc := 52) E hts hin7 hown hK hQ.ob (hts _ (List.mem_of_getElem? (i := 1) rfl)) dX7_moveFile_52 ?_
    refine lv_iload (pc := 55) E.1 E.2 dX7_moveFile_55 (lv_at hl 1 rfl) ?_
    refine lv_iload (pc := 57) E.1 E.2 dX7_moveFile_57 (lv_at hl 0 rfl) ?_
    refine z_iconst (pc := 59) E dX7_moveFile_59 ?_
    refine z_rVi (pc := 60) (As := [.int (iI (pjF σ f)), .int (iI (σ (249 + k))), .int (iI 1)]) (rest := []) E hml hown hts (mX6_growthReason lL G (fun k => o (1 + k)) σ (pjF σ f) (σ (249 + k)) 1 hI (by omega) (by omega) (by omega)) (cwV 3 hts gX7_moveFile_X6_growthReason rfl rfl rfl vdX6_growthReason ⟨Nat.le_of_ble_eq_true rfl, Nat.le_of_ble_eq_true rfl⟩) (oB.recv hK hQ.nob rfl) hQ.now hK rfl hl.1 rfl dX7_moveFile_60 hcs (Nat.le_of_ble_eq_true rfl) ?_
    have hrs := rsS_b σ (pjF σ f) (σ (249 + k)) 1
    have hrd := rcS_v (show ¬ pjF σ f = pjF σ (σ (189 + k)) from fun z => by omega)
    refine z_rSv (pc := 63) (P := fun _ => True) (As := [.int (iI (rsS σ (pjF σ f) (σ (249 + k)) 1))]) (rest := []) E hml hown hts (mX7_needNoReason lL G (rsS σ (pjF σ f) (σ (249 + k)) 1) (by omega) (by omega)) (va_cwS 1 hts gX7_moveFile_X7_needNoReason rfl rfl rfl vdX7_needNoReason.2 ⟨Nat.le_of_ble_eq_true rfl, Nat.le_of_ble_eq_true rfl⟩) trivial hK rfl hl.1 rfl dX7_moveFile_63 hcs (Nat.le_of_ble_eq_true rfl) ?_
    refine lv_aload_n (pc := 66) E.1 E.2 dX7_moveFile_66 rfl (lv_at hl 3 rfl) ?_
    refine z_wVv (pc := 67) (As := []) (rest := []) E hml hown hts (mX7_remember lL G o ν σ π δ τ ω  hI hc hu) (cwV 0 hts gX7_moveFile_X7_remember rfl rfl rfl vdX7_remember ⟨Nat.le_of_ble_eq_true rfl, Nat.le_of_ble_eq_true rfl⟩) (oB.recv hK hQ.ob rfl) hQ hK hS (fun _ h => h) rfl hl.1 rfl dX7_moveFile_67 hcs (Nat.le_of_ble_eq_true rfl) (fun H locs hnew hsz hoth hS => ?_)
    have hQ : QT G o (zu (zu ν 2 ((ν 2) + 1)) 3 (min ((ν 3) + 1) 8)) σ (pU π ((ν 2) % 8) σ) δ τ ω H := hnew
    refine lv_aload_n (pc := 70) E.1 E.2 dX7_moveFile_70 rfl (lv_at hl 3 rfl) ?_
    refine g7_0 (pc := 71) E hts hin7 hown hK hQ.ob (hts _ (List.mem_of_getElem? (i := 1) rfl)) dX7_moveFile_71 ?_
    refine g6_1 (pc := 74) E hts hin6 hown hK hQ.nob (hts _ (List.mem_of_getElem? (i := 3) rfl)) dX7_moveFile_74 ?_
    refine lv_iload_n (pc := 77) E.1 E.2 dX7_moveFile_77 rfl (lv_at hl 4 rfl) ?_
    refine lv_iload_n (pc := 78) E.1 E.2 dX7_moveFile_78 rfl (lv_at hl 5 rfl) ?_
    refine z_wVv (pc := 79) (As := [.int (iI k), .int (iI f)]) (rest := []) E hml hown hts (mX2_setPlace lL G (fun k => o (1 + (5 + k))) σ k f hI (by omega) (by omega)) (cwV 2 hts gX7_moveFile_X2_setPlace rfl rfl rfl vdX2_setPlace ⟨Nat.le_of_ble_eq_true rfl, Nat.le_of_ble_eq_true rfl⟩) (oB.recv hK hQ.fio rfl) hQ.now.fi hK hS (Aq.up2 (by decide)) rfl hl.1 rfl dX7_moveFile_79 hcs (Nat.le_of_ble_eq_true rfl) (fun H locs hnew hsz hoth hS => ?_)
    have hQ := QT.upN hQ (ST.upFI hQ.now hnew (fun q h1 h2 => hoth q h1 h2) (fun j hj => by first | rw [zu_n _ _ (by omega)] | rw [zu_n _ _ (by omega), zu_n _ _ (by omega)]) (by first | omega | (rw [zu_n _ _ (by omega)]; omega))) (fun q h1 h2 => hoth q h1 (fun z => h2 (Aq.in 1 5 18 3 (by decide) q z)))
    refine lv_aload_n (pc := 82) E.1 E.2 dX7_moveFile_82 rfl (lv_at hl 3 rfl) ?_
    refine g7_0 (pc := 83) E hts hin7 hown hK hQ.ob (hts _ (List.mem_of_getElem? (i := 1) rfl)) dX7_moveFile_83 ?_
    refine g6_2 (pc := 86) E hts hin6 hown hK hQ.nob (hts _ (List.mem_of_getElem? (i := 4) rfl)) dX7_moveFile_86 ?_
    refine lv_iload_n (pc := 89) E.1 E.2 dX7_moveFile_89 rfl (lv_at hl 2 rfl) ?_
    refine lv_iload (pc := 90) E.1 E.2 dX7_moveFile_90 (lv_at hl 1 rfl) ?_
    refine lv_iload (pc := 92) E.1 E.2 dX7_moveFile_92 (lv_at hl 0 rfl) ?_
    refine z_iconst (pc := 94) E dX7_moveFile_94 ?_
    refine z_wVv (pc := 95) (As := [.int (iI (pjF σ (σ (189 + k)))), .int (iI (pjF σ f)), .int (iI (σ (249 + k))), .int (iI 1)]) (rest := []) E hml hown hts (mX0_transfer lL G (fun k => o (1 + (8 + k))) (zu σ (189 + k) f) (pjF σ (σ (189 + k))) (pjF σ f) (σ (249 + k)) 1  (by omega) (by omega) (by omega) (by omega) (fun j h0 h1 => by rw [zu_n _ _ (by omega)]; exact (hI.acc h0 h1).2.2.1)) (cwV 4 hts gX7_moveFile_X0_transfer rfl rfl rfl vdX0_transfer ⟨Nat.le_of_ble_eq_true rfl, Nat.le_of_ble_eq_true rfl⟩) (oB.recv hK hQ.aco rfl) hQ.now.ac hK hS (Aq.up2 (by decide)) rfl hl.1 rfl dX7_moveFile_95 hcs (Nat.le_of_ble_eq_true rfl) (fun H locs hnew hsz hoth hS => ?_)
    have hQ := QT.upN hQ (ST.upAC hQ.now hnew (fun q h1 h2 => hoth q h1 h2) (fun j hj => by split <;> first | rfl | exact (coA_n hpj (by omega)).trans (coA_n hpt (by omega)))) (fun q h1 h2 => hoth q h1 (fun z => h2 (Aq.in 1 8 18 5 (by decide) q z)))
    rw [cm_zu σ hpj hpt (by omega)] at hQ
    have hQ : QT G o (zu (zu ν 2 ((ν 2) + 1)) 3 (min ((ν 3) + 1) 8)) (zu (cmA σ (pjF σ (σ (189 + k))) (pjF σ f) (σ (249 + k))) (189 + k) f) (pU π ((ν 2) % 8) σ) δ τ ω H := hQ
    refine lv_aload_n (pc := 98) E.1 E.2 dX7_moveFile_98 rfl (lv_at hl 3 rfl) ?_
    refine g7_0 (pc := 99) E hts hin7 hown hK hQ.ob (hts _ (List.mem_of_getElem? (i := 1) rfl)) dX7_moveFile_99 ?_
    refine z_wVv (pc := 102) (As := []) (rest := []) E hml hown hts (mX6_setClocks lL G (fun k => o (1 + k)) (zu (cmA σ (pjF σ (σ (189 + k))) (pjF σ f) (σ (249 + k))) (189 + k) f)  (cmI hI hpj hpt hU (by omega) hoc.1 hoc.2.1)) (cwV 0 hts gX7_moveFile_X6_setClocks rfl rfl rfl vdX6_setClocks ⟨Nat.le_of_ble_eq_true rfl, Nat.le_of_ble_eq_true rfl⟩) (oB.recv hK hQ.nob rfl) hQ.now hK hS (Aq.up (by decide)) rfl hl.1 rfl dX7_moveFile_102 hcs (Nat.le_of_ble_eq_true rfl) (fun H locs hnew hsz hoth hS => ?_)
    have hQ := QT.upN hQ hnew (fun q h1 h2 => hoth q h1 h2)
    refine lv_iload_n (pc := 105) E.1 E.2 dX7_moveFile_105 rfl (lv_at hl 2 rfl) ?_
    refine lv_iload (pc := 106) E.1 E.2 dX7_moveFile_106 (lv_at hl 1 rfl) ?_
    refine z_icmp_ne (pc := 108) (tgt := 115) E ⟨by omega, by omega⟩ ⟨by omega, by omega⟩ dX7_moveFile_108 (by decide) (fun h108 => ?_) (fun h108 => ?_)
    · refine z_iconst (pc := 115) E dX7_moveFile_115 ?_
      exact z_retWi E hr (congrArg iI (by (unfold axMoveFi; first | exact (if_pos (by omega)).symm | exact (if_neg (by omega)).symm))) hQ hS hlocks dX7_moveFile_116
    · exact absurd h108 (by first | omega | exact h48 | exact fun q => h48 q)
set_option maxHeartbeats 1000000 in
set_option maxRecDepth 100000 in
theorem mxX7_setLimit (lL : Launch) (hst0 : lL.stackTraces = false) (G : GG) (o : Nat → Nat) (ν σ : Int → Int) (π : Nat → Int → Int) (δ τ ω : Int → Int) (p : Int) (k : Int) (s : Int) (h : Int) (hI : In σ) (hp : -2147483648 ≤ p ∧ p < 2147483648) (hk : -2147483648 ≤ k ∧ k < 2147483648) (hs : -2147483648 ≤ s ∧ s < 2147483648) (hh : -2147483648 ≤ h ∧ h < 2147483648) (hbad : ¬ ((kxSetL σ p k s h) = 0)) : vx_Met lL yX7_setLimit wsX7_setLimit ({ frames := 9, cells := 1, slots := 6, locals := 163 } : Room) (va_Pc [.ref (o 0), .int (iI p), .int (iI k), .int (iI s), .int (iI h)] (fun U => QT G o ν σ π δ τ ω U.heap ∧ KK G U ∧ KX FF0 U U.heap)) (fun _ _ _ _ => False) (XCe (exq xA xS xI (kxSetL σ p k s h))) 1 6 FF0 := by
  refine z_metX (P := (fun H : Heap => QT G o ν σ π δ τ ω H)) (by decide) rfl (Nat.le_of_ble_eq_true rfl) (fun pp ee ss mm below meth cC E hml hown hts hlocks htab hQ hK hX ls hl => ?_)
  have hl : lv_has ls 5 [(0, .ref (o 0)), (1, .int (iI p)), (2, .int (iI k)), (3, .int (iI s)), (4, .int (iI h))] := hl
  have hcs : 0 ≤ (({ frames := 9, cells := 1, slots := 6, locals := 163 } : Room)).cells ∧ 0 ≤ (({ frames := 9, cells := 1, slots := 6, locals := 163 } : Room)).slots := ⟨Nat.zero_le _, Nat.zero_le _⟩
  have hin6 : ∀ w ∈ wsX60, w ∈ wsX7_setLimit := fun w h => List.mem_cons_of_mem _ (List.mem_append_left _ (List.mem_append_left _ (List.mem_append_left _ (List.mem_append_left _ (List.mem_append_left _ (List.mem_append_left _ (List.mem_append_right _ (h))))))))
  have hin7 : ∀ w ∈ wsX70, w ∈ wsX7_setLimit := fun w h => List.mem_cons_of_mem _ (List.mem_append_left _ (List.mem_append_left _ (List.mem_append_left _ (List.mem_append_left _ (List.mem_append_left _ (List.mem_append_left _ (List.mem_append_left _ (List.mem_append_right _ (h)))))))))
  have hF := hI.F
  have hMm := hI.M
  have hGn := hI.Gn
  have hTi := hI.ti
  have hGr := hI.gr
  refine lv_iload_n (pc := 0) E.1 E.2 dX7_setLimit_0 rfl (lv_at hl 1 rfl) ?_
  refine lv_iload_n (pc := 1) E.1 E.2 dX7_setLimit_1 rfl (lv_at hl 2 rfl) ?_
  by_cases hc2 : (0 ≤ p ∧ p ≤ 7) ∧ (0 ≤ k ∧ k ≤ 1)
  · refine z_rSv (pc := 2) (P := fun _ => True) (As := [.int (iI p), .int (iI k)]) (rest := []) E hml hown hts (mX7_needAccount lL G p k (by omega) (by omega) (by omega)) (va_cwS 2 hts gX7_setLimit_X7_needAccount rfl rfl rfl vdX7_needAccount.2 ⟨Nat.le_of_ble_eq_true rfl, Nat.le_of_ble_eq_true rfl⟩) trivial hK rfl hl.1 rfl dX7_setLimit_2 hcs (Nat.le_of_ble_eq_true rfl) ?_
    refine lv_iload_n (pc := 5) E.1 E.2 dX7_setLimit_5 rfl (lv_at hl 3 rfl) ?_
    refine z_iconst (pc := 6) E dX7_setLimit_6 ?_
    refine lv_ldcw (pc := 7) (v := iI (99999)) E.1 E.2 hown (show (Jvm.Cond.constant RX7 299 (iI (99999))).before _ ss = true from (hts _ (List.mem_of_getElem? (i := 5) rfl))) dX7_setLimit_7 ?_
    by_cases hc10 : 0 ≤ s ∧ s ≤ 99999
    · refine z_rSv (pc := 10) (P := fun _ => True) (As := [.int (iI s), .int (iI 0), .int (iI 99999)]) (rest := []) E hml hown hts (mX7_needRange lL G s 0 99999 (by omega) (by omega) (by omega) (by omega)) (va_cwS 3 hts gX7_setLimit_X7_needRange rfl rfl rfl vdX7_needRange.2 ⟨Nat.le_of_ble_eq_true rfl, Nat.le_of_ble_eq_true rfl⟩) trivial hK rfl hl.1 rfl dX7_setLimit_10 hcs (Nat.le_of_ble_eq_true rfl) ?_
      refine lv_iload (pc := 13) E.1 E.2 dX7_setLimit_13 (lv_at hl 4 rfl) ?_
      refine z_iconst (pc := 15) E dX7_setLimit_15 ?_
      refine lv_ldcw (pc := 16) (v := iI (99999)) E.1 E.2 hown (show (Jvm.Cond.constant RX7 299 (iI (99999))).before _ ss = true from (hts _ (List.mem_of_getElem? (i := 5) rfl))) dX7_setLimit_16 ?_
      by_cases hc19 : 0 ≤ h ∧ h ≤ 99999
      · refine z_rSv (pc := 19) (P := fun _ => True) (As := [.int (iI h), .int (iI 0), .int (iI 99999)]) (rest := []) E hml hown hts (mX7_needRange lL G h 0 99999 (by omega) (by omega) (by omega) (by omega)) (va_cwS 3 hts gX7_setLimit_X7_needRange rfl rfl rfl vdX7_needRange.2 ⟨Nat.le_of_ble_eq_true rfl, Nat.le_of_ble_eq_true rfl⟩) trivial hK rfl hl.1 rfl dX7_setLimit_19 hcs (Nat.le_of_ble_eq_true rfl) ?_
        refine lv_iload (pc := 22) E.1 E.2 dX7_setLimit_22 (lv_at hl 4 rfl) ?_
        refine z_if_le (pc := 24) (tgt := 44) E ⟨by omega, by omega⟩ dX7_setLimit_24 (by decide) (fun h24 => ?_) (fun h24 => ?_)
        · refine lv_iload (pc := 44) E.1 E.2 dX7_setLimit_44 (lv_at hl 4 rfl) ?_
          refine z_if_ne (pc := 46) (tgt := 78) E ⟨by omega, by omega⟩ dX7_setLimit_46 (by decide) (fun h46 => ?_) (fun h46 => ?_)
          · refine lv_aload_n (pc := 78) E.1 E.2 dX7_setLimit_78 rfl (lv_at hl 0 rfl) ?_
            exact absurd (show (kxSetL σ p k s h) = 0 by (unfold kxSetL; (repeat' split) <;> first | rfl | omega | (exfalso; omega) | contradiction | grind)) hbad
          · refine lv_iload_n (pc := 49) E.1 E.2 dX7_setLimit_49 rfl (lv_at hl 2 rfl) ?_
            refine z_if_ne (pc := 50) (tgt := 78) E ⟨by omega, by omega⟩ dX7_setLimit_50 (by decide) (fun h50 => ?_) (fun h50 => ?_)
            · refine lv_aload_n (pc := 78) E.1 E.2 dX7_setLimit_78 rfl (lv_at hl 0 rfl) ?_
              exact absurd (show (kxSetL σ p k s h) = 0 by (unfold kxSetL; (repeat' split) <;> first | rfl | omega | (exfalso; omega) | contradiction | grind)) hbad
            · refine lv_aload_n (pc := 53) E.1 E.2 dX7_setLimit_53 rfl (lv_at hl 0 rfl) ?_
              refine g7_0 (pc := 54) E hts hin7 hown hK hQ.ob (hts _ (List.mem_of_getElem? (i := 6) rfl)) dX7_setLimit_54 ?_
              refine g6_3 (pc := 57) E hts hin6 hown hK hQ.nob (hts _ (List.mem_of_getElem? (i := 7) rfl)) dX7_setLimit_57 ?_
              refine lv_iload_n (pc := 60) E.1 E.2 dX7_setLimit_60 rfl (lv_at hl 1 rfl) ?_
              refine z_rVi (pc := 61) (As := [.int (iI p)]) (rest := []) E hml hown hts (mX4_concern lL G (fun k => o (1 + (13 + k))) σ p hI (by omega)) (cwV 1 hts gX7_setLimit_X4_concern rfl rfl rfl vdX4_concern ⟨Nat.le_of_ble_eq_true rfl, Nat.le_of_ble_eq_true rfl⟩) (oB.recv hK hQ.gio rfl) hQ.now.gi hK rfl hl.1 rfl dX7_setLimit_61 hcs (Nat.le_of_ble_eq_true rfl) ?_
              refine z_ifb_eq (pc := 64) (tgt := 78) E dX7_setLimit_64 (by decide) (fun h64 => ?_) (fun h64 => ?_)
              · refine lv_aload_n (pc := 78) E.1 E.2 dX7_setLimit_78 rfl (lv_at hl 0 rfl) ?_
                exact absurd (show (kxSetL σ p k s h) = 0 by (unfold kxSetL; (repeat' split) <;> first | rfl | omega | (exfalso; omega) | contradiction | grind)) hbad
              · exact z_thrW_xS (pc := 67) (rest := []) (is := 306) (text := "a gift needs the hard limit") E hst0 hown (hts _ (List.mem_of_getElem? (i := 3) rfl)) (hts _ (List.mem_of_getElem? (i := 4) rfl)) (fun w h => hts w (List.mem_cons_of_mem _ (List.mem_append_right _ (h)))) hX (List.mem_of_getElem? (i := 11) rfl) (hl.1.trans hml.symm) dX7_setLimit_67 dX7_setLimit_70 dX7_setLimit_71 dX7_setLimit_74 dX7_setLimit_77 htab (Nat.le_of_ble_eq_true rfl) (Nat.le_of_ble_eq_true rfl) (Nat.le_of_ble_eq_true rfl) (Nat.le_of_ble_eq_true rfl) hlocks (by rw [show (kxSetL σ p k s h) = 2 by (unfold kxSetL; (repeat' split) <;> first | rfl | omega | (exfalso; omega) | contradiction | grind)]; rfl)
        · refine lv_iload (pc := 27) E.1 E.2 dX7_setLimit_27 (lv_at hl 4 rfl) ?_
          refine lv_iload_n (pc := 29) E.1 E.2 dX7_setLimit_29 rfl (lv_at hl 3 rfl) ?_
          refine z_icmp_ge (pc := 30) (tgt := 44) E ⟨by omega, by omega⟩ ⟨by omega, by omega⟩ dX7_setLimit_30 (by decide) (fun h30 => ?_) (fun h30 => ?_)
          · refine lv_iload (pc := 44) E.1 E.2 dX7_setLimit_44 (lv_at hl 4 rfl) ?_
            refine z_if_ne (pc := 46) (tgt := 78) E ⟨by omega, by omega⟩ dX7_setLimit_46 (by decide) (fun h46 => ?_) (fun h46 => ?_)
            · refine lv_aload_n (pc := 78) E.1 E.2 dX7_setLimit_78 rfl (lv_at hl 0 rfl) ?_
              exact absurd (show (kxSetL σ p k s h) = 0 by (unfold kxSetL; (repeat' split) <;> first | rfl | omega | (exfalso; omega) | contradiction | grind)) hbad
            · exact absurd h46 (by first | omega | exact h24 | exact fun q => h24 q)
          · exact z_thrW_xA (pc := 33) (rest := []) (is := 300) (text := "the hard limit is below the soft one") E hst0 hown (hts _ (List.mem_of_getElem? (i := 1) rfl)) (hts _ (List.mem_of_getElem? (i := 2) rfl)) (fun w h => hts w (List.mem_cons_of_mem _ (List.mem_append_left _ (List.mem_append_right _ (h))))) hX (List.mem_of_getElem? (i := 10) rfl) (hl.1.trans hml.symm) dX7_setLimit_33 dX7_setLimit_36 dX7_setLimit_37 dX7_setLimit_40 dX7_setLimit_43 htab (Nat.le_of_ble_eq_true rfl) (Nat.le_of_ble_eq_true rfl) (Nat.le_of_ble_eq_true rfl) (Nat.le_of_ble_eq_true rfl) hlocks (by rw [show (kxSetL σ p k s h) = 1 by (unfold kxSetL; (repeat' split) <;> first | rfl | omega | (exfalso; omega) | contradiction | grind)]; rfl)
      exact z_badS (pc := 19) (P := fun _ => True) (As := [.int (iI h), .int (iI 0), .int (iI 99999)]) (rest := []) E hml hown hts (mxX7_needRange lL hst0 G h 0 99999 (by omega) (by omega) (by omega) hc19) (va_cwS 3 hts gX7_setLimit_X7_needRange rfl rfl rfl vdX7_needRange.2 ⟨Nat.le_of_ble_eq_true rfl, Nat.le_of_ble_eq_true rfl⟩) trivial hK hX rfl hl.1 rfl dX7_setLimit_19 ⟨Nat.le_of_ble_eq_true rfl, Nat.le_of_ble_eq_true rfl⟩ (Nat.le_of_ble_eq_true rfl) (by rw [show (kxSetL σ p k s h) = 1 by (unfold kxSetL; (repeat' split) <;> first | rfl | omega | (exfalso; omega) | contradiction | grind)]; rfl) htab hlocks
    exact z_badS (pc := 10) (P := fun _ => True) (As := [.int (iI s), .int (iI 0), .int (iI 99999)]) (rest := []) E hml hown hts (mxX7_needRange lL hst0 G s 0 99999 (by omega) (by omega) (by omega) hc10) (va_cwS 3 hts gX7_setLimit_X7_needRange rfl rfl rfl vdX7_needRange.2 ⟨Nat.le_of_ble_eq_true rfl, Nat.le_of_ble_eq_true rfl⟩) trivial hK hX rfl hl.1 rfl dX7_setLimit_10 ⟨Nat.le_of_ble_eq_true rfl, Nat.le_of_ble_eq_true rfl⟩ (Nat.le_of_ble_eq_true rfl) (by rw [show (kxSetL σ p k s h) = 1 by (unfold kxSetL; (repeat' split) <;> first | rfl | omega | (exfalso; omega) | contradiction | grind)]; rfl) htab hlocks
  exact z_badS (pc := 2) (P := fun _ => True) (As := [.int (iI p), .int (iI k)]) (rest := []) E hml hown hts (mxX7_needAccount lL hst0 G p k (by omega) (by omega) hc2) (va_cwS 2 hts gX7_setLimit_X7_needAccount rfl rfl rfl vdX7_needAccount.2 ⟨Nat.le_of_ble_eq_true rfl, Nat.le_of_ble_eq_true rfl⟩) trivial hK hX rfl hl.1 rfl dX7_setLimit_2 ⟨Nat.le_of_ble_eq_true rfl, Nat.le_of_ble_eq_true rfl⟩ (Nat.le_of_ble_eq_true rfl) (by rw [show (kxSetL σ p k s h) = 1 by (unfold kxSetL; (repeat' split) <;> first | rfl | omega | (exfalso; omega) | contradiction | grind)]; rfl) htab hlocks
set_option maxHeartbeats 1000000 in
set_option maxRecDepth 100000 in
theorem mX7_setLimit (lL : Launch) (G : GG) (o : Nat → Nat) (ν σ : Int → Int) (π : Nat → Int → Int) (δ τ ω : Int → Int) (p : Int) (k : Int) (s : Int) (h : Int) (hI : In σ) (hp : -2147483648 ≤ p ∧ p < 2147483648) (hk : -2147483648 ≤ k ∧ k < 2147483648) (hs : -2147483648 ≤ s ∧ s < 2147483648) (hh : -2147483648 ≤ h ∧ h < 2147483648) (hok : (kxSetL σ p k s h) = 0) (hc : 0 ≤ ν 2 ∧ ν 2 ≤ 1000000) (hu : 0 ≤ ν 3 ∧ ν 3 ≤ 8) : Met lL yX7_setLimit wsX7_setLimit ({ frames := 4, cells := 0, slots := 0, locals := 153 } : Room) (va_Pc [.ref (o 0), .int (iI p), .int (iI k), .int (iI s), .int (iI h)] (fun U => QT G o ν σ π δ τ ω U.heap ∧ KK G U)) (va_Qi (fun r (_ : Unit) => r = (iI (stS (nxSetL σ p k s h) p k))) (fun _ tZ => QT G o (zu (zu ν 2 (ν 2 + 1)) 3 (min (ν 3 + 1) 8)) (nxSetL σ p k s h) (pU π (ν 2 % 8) σ) δ τ ω tZ.heap) (Ax o 187)) 0 0 (Ax o 187) := by
  refine z_met (P := (fun H : Heap => QT G o ν σ π δ τ ω H)) (by decide) rfl (Nat.le_of_ble_eq_true rfl) (fun pp ee ss mm below meth cC E hr hml hown hts hlocks hQ hK ls hl => ?_)
  have hl : lv_has ls 5 [(0, .ref (o 0)), (1, .int (iI p)), (2, .int (iI k)), (3, .int (iI s)), (4, .int (iI h))] := hl
  have hcs : 0 ≤ (({ frames := 4, cells := 0, slots := 0, locals := 153 } : Room)).cells ∧ 0 ≤ (({ frames := 4, cells := 0, slots := 0, locals := 153 } : Room)).slots := ⟨Nat.zero_le _, Nat.zero_le _⟩
  have hS : va_S (Ax o 187) ss.heap ss.heap [] := va_S.rf
  have hin6 : ∀ w ∈ wsX60, w ∈ wsX7_setLimit := fun w h => List.mem_cons_of_mem _ (List.mem_append_left _ (List.mem_append_left _ (List.mem_append_left _ (List.mem_append_left _ (List.mem_append_left _ (List.mem_append_left _ (List.mem_append_right _ (h))))))))
  have hin7 : ∀ w ∈ wsX70, w ∈ wsX7_setLimit := fun w h => List.mem_cons_of_mem _ (List.mem_append_left _ (List.mem_append_left _ (List.mem_append_left _ (List.mem_append_left _ (List.mem_append_left _ (List.mem_append_left _ (List.mem_append_left _ (List.mem_append_right _ (h)))))))))
  have hF := hI.F
  have hMm := hI.M
  have hGn := hI.Gn
  have hTi := hI.ti
  have hGr := hI.gr
  have hoc := kxSetL_ok hok
  have hI2 : In (zu (zu σ (5 + (2 * p + k)) s) (21 + (2 * p + k)) h) := hI.lims (by omega) (by omega) (by omega)
  have hI3 := hI2.sc (i := 16) (by omega)
  refine lv_iload_n (pc := 0) E.1 E.2 dX7_setLimit_0 rfl (lv_at hl 1 rfl) ?_
  refine lv_iload_n (pc := 1) E.1 E.2 dX7_setLimit_1 rfl (lv_at hl 2 rfl) ?_
  refine z_rSv (pc := 2) (P := fun _ => True) (As := [.int (iI p), .int (iI k)]) (rest := []) E hml hown hts (mX7_needAccount lL G p k (by omega) (by omega) (by omega)) (va_cwS 2 hts gX7_setLimit_X7_needAccount rfl rfl rfl vdX7_needAccount.2 ⟨Nat.le_of_ble_eq_true rfl, Nat.le_of_ble_eq_true rfl⟩) trivial hK rfl hl.1 rfl dX7_setLimit_2 hcs (Nat.le_of_ble_eq_true rfl) ?_
  refine lv_iload_n (pc := 5) E.1 E.2 dX7_setLimit_5 rfl (lv_at hl 3 rfl) ?_
  refine z_iconst (pc := 6) E dX7_setLimit_6 ?_
  refine lv_ldcw (pc := 7) (v := iI (99999)) E.1 E.2 hown (show (Jvm.Cond.constant RX7 299 (iI (99999))).before _ ss = true from (hts _ (List.mem_of_getElem? (i := 5) rfl))) dX7_setLimit_7 ?_
  refine z_rSv (pc := 10) (P := fun _ => True) (As := [.int (iI s), .int (iI 0), .int (iI 99999)]) (rest := []) E hml hown hts (mX7_needRange lL G s 0 99999 (by omega) (by omega) (by omega) (by omega)) (va_cwS 3 hts gX7_setLimit_X7_needRange rfl rfl rfl vdX7_needRange.2 ⟨Nat.le_of_ble_eq_true rfl, Nat.le_of_ble_eq_true rfl⟩) trivial hK rfl hl.1 rfl dX7_setLimit_10 hcs (Nat.le_of_ble_eq_true rfl) ?_
  refine lv_iload (pc := 13) E.1 E.2 dX7_setLimit_13 (lv_at hl 4 rfl) ?_
  refine z_iconst (pc := 15) E dX7_setLimit_15 ?_
  refine lv_ldcw (pc := 16) (v := iI (99999)) E.1 E.2 hown (show (Jvm.Cond.constant RX7 299 (iI (99999))).before _ ss = true from (hts _ (List.mem_of_getElem? (i := 5) rfl))) dX7_setLimit_16 ?_
  refine z_rSv (pc := 19) (P := fun _ => True) (As := [.int (iI h), .int (iI 0), .int (iI 99999)]) (rest := []) E hml hown hts (mX7_needRange lL G h 0 99999 (by omega) (by omega) (by omega) (by omega)) (va_cwS 3 hts gX7_setLimit_X7_needRange rfl rfl rfl vdX7_needRange.2 ⟨Nat.le_of_ble_eq_true rfl, Nat.le_of_ble_eq_true rfl⟩) trivial hK rfl hl.1 rfl dX7_setLimit_19 hcs (Nat.le_of_ble_eq_true rfl) ?_
  refine lv_iload (pc := 22) E.1 E.2 dX7_setLimit_22 (lv_at hl 4 rfl) ?_
  refine z_if_le (pc := 24) (tgt := 44) E ⟨by omega, by omega⟩ dX7_setLimit_24 (by decide) (fun h24 => ?_) (fun h24 => ?_)
  · refine lv_iload (pc := 44) E.1 E.2 dX7_setLimit_44 (lv_at hl 4 rfl) ?_
    refine z_if_ne (pc := 46) (tgt := 78) E ⟨by omega, by omega⟩ dX7_setLimit_46 (by decide) (fun h46 => ?_) (fun h46 => ?_)
    · refine lv_aload_n (pc := 78) E.1 E.2 dX7_setLimit_78 rfl (lv_at hl 0 rfl) ?_
      refine z_wVv (pc := 79) (As := []) (rest := []) E hml hown hts (mX7_remember lL G o ν σ π δ τ ω  hI hc hu) (cwV 0 hts gX7_setLimit_X7_remember rfl rfl rfl vdX7_remember ⟨Nat.le_of_ble_eq_true rfl, Nat.le_of_ble_eq_true rfl⟩) (oB.recv hK hQ.ob rfl) hQ hK hS (fun _ h => h) rfl hl.1 rfl dX7_setLimit_79 hcs (Nat.le_of_ble_eq_true rfl) (fun H locs hnew hsz hoth hS => ?_)
      have hQ : QT G o (zu (zu ν 2 ((ν 2) + 1)) 3 (min ((ν 3) + 1) 8)) σ (pU π ((ν 2) % 8) σ) δ τ ω H := hnew
      refine lv_aload_n (pc := 82) E.1 E.2 dX7_setLimit_82 rfl (lv_at hl 0 rfl) ?_
      refine g7_0 (pc := 83) E hts hin7 hown hK hQ.ob (hts _ (List.mem_of_getElem? (i := 6) rfl)) dX7_setLimit_83 ?_
      refine g6_2 (pc := 86) E hts hin6 hown hK hQ.nob (hts _ (List.mem_of_getElem? (i := 8) rfl)) dX7_setLimit_86 ?_
      refine lv_iload_n (pc := 89) E.1 E.2 dX7_setLimit_89 rfl (lv_at hl 1 rfl) ?_
      refine lv_iload_n (pc := 90) E.1 E.2 dX7_setLimit_90 rfl (lv_at hl 2 rfl) ?_
      refine z_rSi (pc := 91) (P := fun _ => True) (As := [.int (iI p), .int (iI k)]) (rest := [.ref (o 9)]) E hml hown hts (mX7_accountOf lL G p k) (va_cwS 2 hts gX7_setLimit_X7_accountOf rfl rfl rfl vdX7_accountOf.2 ⟨Nat.le_of_ble_eq_true rfl, Nat.le_of_ble_eq_true rfl⟩) trivial hK rfl hl.1 rfl dX7_setLimit_91 hcs (Nat.le_of_ble_eq_true rfl) ?_
      refine lv_iload_n (pc := 94) E.1 E.2 dX7_setLimit_94 rfl (lv_at hl 3 rfl) ?_
      refine lv_iload (pc := 95) E.1 E.2 dX7_setLimit_95 (lv_at hl 4 rfl) ?_
      refine z_wVv (pc := 97) (As := [.int (iI (2 * p + k)), .int (iI s), .int (iI h)]) (rest := []) E hml hown hts (mX0_setLimits lL G (fun k => o (1 + (8 + k))) σ (2 * p + k) s h  (by omega) (by omega) (by omega)) (cwV 3 hts gX7_setLimit_X0_setLimits rfl rfl rfl vdX0_setLimits ⟨Nat.le_of_ble_eq_true rfl, Nat.le_of_ble_eq_true rfl⟩) (oB.recv hK hQ.aco rfl) hQ.now.ac hK hS (Aq.up2 (by decide)) rfl hl.1 rfl dX7_setLimit_97 hcs (Nat.le_of_ble_eq_true rfl) (fun H locs hnew hsz hoth hS => ?_)
      have hQ := QT.upN hQ (ST.upAC hQ.now hnew (fun q h1 h2 => hoth q h1 h2) (fun j hj => by rw [zu_n _ _ (by omega), zu_n _ _ (by omega)])) (fun q h1 h2 => hoth q h1 (fun z => h2 (Aq.in 1 8 18 5 (by decide) q z)))
      refine lv_aload_n (pc := 100) E.1 E.2 dX7_setLimit_100 rfl (lv_at hl 0 rfl) ?_
      refine g7_0 (pc := 101) E hts hin7 hown hK hQ.ob (hts _ (List.mem_of_getElem? (i := 6) rfl)) dX7_setLimit_101 ?_
      refine z_wVv (pc := 104) (As := []) (rest := []) E hml hown hts (mX6_setClocks lL G (fun k => o (1 + k)) (zu (zu σ (5 + (2 * p + k)) s) (21 + (2 * p + k)) h)  hI2) (cwV 0 hts gX7_setLimit_X6_setClocks rfl rfl rfl vdX6_setClocks ⟨Nat.le_of_ble_eq_true rfl, Nat.le_of_ble_eq_true rfl⟩) (oB.recv hK hQ.nob rfl) hQ.now hK hS (Aq.up (by decide)) rfl hl.1 rfl dX7_setLimit_104 hcs (Nat.le_of_ble_eq_true rfl) (fun H locs hnew hsz hoth hS => ?_)
      have hQ := QT.upN hQ hnew (fun q h1 h2 => hoth q h1 h2)
      refine lv_aload_n (pc := 107) E.1 E.2 dX7_setLimit_107 rfl (lv_at hl 0 rfl) ?_
      refine g7_0 (pc := 108) E hts hin7 hown hK hQ.ob (hts _ (List.mem_of_getElem? (i := 6) rfl)) dX7_setLimit_108 ?_
      refine lv_iload_n (pc := 111) E.1 E.2 dX7_setLimit_111 rfl (lv_at hl 1 rfl) ?_
      refine lv_iload_n (pc := 112) E.1 E.2 dX7_setLimit_112 rfl (lv_at hl 2 rfl) ?_
      refine z_rVi (pc := 113) (As := [.int (iI p), .int (iI k)]) (rest := []) E hml hown hts (mX6_stateOf lL G (fun k => o (1 + k)) (scA (zu (zu σ (5 + (2 * p + k)) s) (21 + (2 * p + k)) h) 16) p k hI3 (by omega) (by omega)) (cwV 2 hts gX7_setLimit_X6_stateOf rfl rfl rfl vdX6_stateOf ⟨Nat.le_of_ble_eq_true rfl, Nat.le_of_ble_eq_true rfl⟩) (oB.recv hK hQ.nob rfl) hQ.now hK rfl hl.1 rfl dX7_setLimit_113 hcs (Nat.le_of_ble_eq_true rfl) ?_
      exact z_retWi E hr (congrArg iI (by rfl)) hQ hS hlocks dX7_setLimit_116
    · refine lv_iload_n (pc := 49) E.1 E.2 dX7_setLimit_49 rfl (lv_at hl 2 rfl) ?_
      refine z_if_ne (pc := 50) (tgt := 78) E ⟨by omega, by omega⟩ dX7_setLimit_50 (by decide) (fun h50 => ?_) (fun h50 => ?_)
      · refine lv_aload_n (pc := 78) E.1 E.2 dX7_setLimit_78 rfl (lv_at hl 0 rfl) ?_
        refine z_wVv (pc := 79) (As := []) (rest := []) E hml hown hts (mX7_remember lL G o ν σ π δ τ ω  hI hc hu) (cwV 0 hts gX7_setLimit_X7_remember rfl rfl rfl vdX7_remember ⟨Nat.le_of_ble_eq_true rfl, Nat.le_of_ble_eq_true rfl⟩) (oB.recv hK hQ.ob rfl) hQ hK hS (fun _ h => h) rfl hl.1 rfl dX7_setLimit_79 hcs (Nat.le_of_ble_eq_true rfl) (fun H locs hnew hsz hoth hS => ?_)
        have hQ : QT G o (zu (zu ν 2 ((ν 2) + 1)) 3 (min ((ν 3) + 1) 8)) σ (pU π ((ν 2) % 8) σ) δ τ ω H := hnew
        refine lv_aload_n (pc := 82) E.1 E.2 dX7_setLimit_82 rfl (lv_at hl 0 rfl) ?_
        refine g7_0 (pc := 83) E hts hin7 hown hK hQ.ob (hts _ (List.mem_of_getElem? (i := 6) rfl)) dX7_setLimit_83 ?_
        refine g6_2 (pc := 86) E hts hin6 hown hK hQ.nob (hts _ (List.mem_of_getElem? (i := 8) rfl)) dX7_setLimit_86 ?_
        refine lv_iload_n (pc := 89) E.1 E.2 dX7_setLimit_89 rfl (lv_at hl 1 rfl) ?_
        refine lv_iload_n (pc := 90) E.1 E.2 dX7_setLimit_90 rfl (lv_at hl 2 rfl) ?_
        refine z_rSi (pc := 91) (P := fun _ => True) (As := [.int (iI p), .int (iI k)]) (rest := [.ref (o 9)]) E hml hown hts (mX7_accountOf lL G p k) (va_cwS 2 hts gX7_setLimit_X7_accountOf rfl rfl rfl vdX7_accountOf.2 ⟨Nat.le_of_ble_eq_true rfl, Nat.le_of_ble_eq_true rfl⟩) trivial hK rfl hl.1 rfl dX7_setLimit_91 hcs (Nat.le_of_ble_eq_true rfl) ?_
        refine lv_iload_n (pc := 94) E.1 E.2 dX7_setLimit_94 rfl (lv_at hl 3 rfl) ?_
        refine lv_iload (pc := 95) E.1 E.2 dX7_setLimit_95 (lv_at hl 4 rfl) ?_
        refine z_wVv (pc := 97) (As := [.int (iI (2 * p + k)), .int (iI s), .int (iI h)]) (rest := []) E hml hown hts (mX0_setLimits lL G (fun k => o (1 + (8 + k))) σ (2 * p + k) s h  (by omega) (by omega) (by omega)) (cwV 3 hts gX7_setLimit_X0_setLimits rfl rfl rfl vdX0_setLimits ⟨Nat.le_of_ble_eq_true rfl, Nat.le_of_ble_eq_true rfl⟩) (oB.recv hK hQ.aco rfl) hQ.now.ac hK hS (Aq.up2 (by decide)) rfl hl.1 rfl dX7_setLimit_97 hcs (Nat.le_of_ble_eq_true rfl) (fun H locs hnew hsz hoth hS => ?_)
        have hQ := QT.upN hQ (ST.upAC hQ.now hnew (fun q h1 h2 => hoth q h1 h2) (fun j hj => by rw [zu_n _ _ (by omega), zu_n _ _ (by omega)])) (fun q h1 h2 => hoth q h1 (fun z => h2 (Aq.in 1 8 18 5 (by decide) q z)))
        refine lv_aload_n (pc := 100) E.1 E.2 dX7_setLimit_100 rfl (lv_at hl 0 rfl) ?_
        refine g7_0 (pc := 101) E hts hin7 hown hK hQ.ob (hts _ (List.mem_of_getElem? (i := 6) rfl)) dX7_setLimit_101 ?_
        refine z_wVv (pc := 104) (As := []) (rest := []) E hml hown hts (mX6_setClocks lL G (fun k => o (1 + k)) (zu (zu σ (5 + (2 * p + k)) s) (21 + (2 * p + k)) h)  hI2) (cwV 0 hts gX7_setLimit_X6_setClocks rfl rfl rfl vdX6_setClocks ⟨Nat.le_of_ble_eq_true rfl, Nat.le_of_ble_eq_true rfl⟩) (oB.recv hK hQ.nob rfl) hQ.now hK hS (Aq.up (by decide)) rfl hl.1 rfl dX7_setLimit_104 hcs (Nat.le_of_ble_eq_true rfl) (fun H locs hnew hsz hoth hS => ?_)
        have hQ := QT.upN hQ hnew (fun q h1 h2 => hoth q h1 h2)
        refine lv_aload_n (pc := 107) E.1 E.2 dX7_setLimit_107 rfl (lv_at hl 0 rfl) ?_
        refine g7_0 (pc := 108) E hts hin7 hown hK hQ.ob (hts _ (List.mem_of_getElem? (i := 6) rfl)) dX7_setLimit_108 ?_
        refine lv_iload_n (pc := 111) E.1 E.2 dX7_setLimit_111 rfl (lv_at hl 1 rfl) ?_
        refine lv_iload_n (pc := 112) E.1 E.2 dX7_setLimit_112 rfl (lv_at hl 2 rfl) ?_
        refine z_rVi (pc := 113) (As := [.int (iI p), .int (iI k)]) (rest := []) E hml hown hts (mX6_stateOf lL G (fun k => o (1 + k)) (scA (zu (zu σ (5 + (2 * p + k)) s) (21 + (2 * p + k)) h) 16) p k hI3 (by omega) (by omega)) (cwV 2 hts gX7_setLimit_X6_stateOf rfl rfl rfl vdX6_stateOf ⟨Nat.le_of_ble_eq_true rfl, Nat.le_of_ble_eq_true rfl⟩) (oB.recv hK hQ.nob rfl) hQ.now hK rfl hl.1 rfl dX7_setLimit_113 hcs (Nat.le_of_ble_eq_true rfl) ?_
        exact z_retWi E hr (congrArg iI (by rfl)) hQ hS hlocks dX7_setLimit_116
      · refine lv_aload_n (pc := 53) E.1 E.2 dX7_setLimit_53 rfl (lv_at hl 0 rfl) ?_
        refine g7_0 (pc := 54) E hts hin7 hown hK hQ.ob (hts _ (List.mem_of_getElem? (i := 6) rfl)) dX7_setLimit_54 ?_
        refine g6_3 (pc := 57) E hts hin6 hown hK hQ.nob (hts _ (List.mem_of_getElem? (i := 7) rfl)) dX7_setLimit_57 ?_
        refine lv_iload_n (pc := 60) E.1 E.2 dX7_setLimit_60 rfl (lv_at hl 1 rfl) ?_
        refine z_rVi (pc := 61) (As := [.int (iI p)]) (rest := []) E hml hown hts (mX4_concern lL G (fun k => o (1 + (13 + k))) σ p hI (by omega)) (cwV 1 hts gX7_setLimit_X4_concern rfl rfl rfl vdX4_concern ⟨Nat.le_of_ble_eq_true rfl, Nat.le_of_ble_eq_true rfl⟩) (oB.recv hK hQ.gio rfl) hQ.now.gi hK rfl hl.1 rfl dX7_setLimit_61 hcs (Nat.le_of_ble_eq_true rfl) ?_
        refine z_ifb_eq (pc := 64) (tgt := 78) E dX7_setLimit_64 (by decide) (fun h64 => ?_) (fun h64 => ?_)
        · refine lv_aload_n (pc := 78) E.1 E.2 dX7_setLimit_78 rfl (lv_at hl 0 rfl) ?_
          refine z_wVv (pc := 79) (As := []) (rest := []) E hml hown hts (mX7_remember lL G o ν σ π δ τ ω  hI hc hu) (cwV 0 hts gX7_setLimit_X7_remember rfl rfl rfl vdX7_remember ⟨Nat.le_of_ble_eq_true rfl, Nat.le_of_ble_eq_true rfl⟩) (oB.recv hK hQ.ob rfl) hQ hK hS (fun _ h => h) rfl hl.1 rfl dX7_setLimit_79 hcs (Nat.le_of_ble_eq_true rfl) (fun H locs hnew hsz hoth hS => ?_)
          have hQ : QT G o (zu (zu ν 2 ((ν 2) + 1)) 3 (min ((ν 3) + 1) 8)) σ (pU π ((ν 2) % 8) σ) δ τ ω H := hnew
          refine lv_aload_n (pc := 82) E.1 E.2 dX7_setLimit_82 rfl (lv_at hl 0 rfl) ?_
          refine g7_0 (pc := 83) E hts hin7 hown hK hQ.ob (hts _ (List.mem_of_getElem? (i := 6) rfl)) dX7_setLimit_83 ?_
          refine g6_2 (pc := 86) E hts hin6 hown hK hQ.nob (hts _ (List.mem_of_getElem? (i := 8) rfl)) dX7_setLimit_86 ?_
          refine lv_iload_n (pc := 89) E.1 E.2 dX7_setLimit_89 rfl (lv_at hl 1 rfl) ?_
          refine lv_iload_n (pc := 90) E.1 E.2 dX7_setLimit_90 rfl (lv_at hl 2 rfl) ?_
          refine z_rSi (pc := 91) (P := fun _ => True) (As := [.int (iI p), .int (iI k)]) (rest := [.ref (o 9)]) E hml hown hts (mX7_accountOf lL G p k) (va_cwS 2 hts gX7_setLimit_X7_accountOf rfl rfl rfl vdX7_accountOf.2 ⟨Nat.le_of_ble_eq_true rfl, Nat.le_of_ble_eq_true rfl⟩) trivial hK rfl hl.1 rfl dX7_setLimit_91 hcs (Nat.le_of_ble_eq_true rfl) ?_
          refine lv_iload_n (pc := 94) E.1 E.2 dX7_setLimit_94 rfl (lv_at hl 3 rfl) ?_
          refine lv_iload (pc := 95) E.1 E.2 dX7_setLimit_95 (lv_at hl 4 rfl) ?_
          refine z_wVv (pc := 97) (As := [.int (iI (2 * p + k)), .int (iI s), .int (iI h)]) (rest := []) E hml hown hts (mX0_setLimits lL G (fun k => o (1 + (8 + k))) σ (2 * p + k) s h  (by omega) (by omega) (by omega)) (cwV 3 hts gX7_setLimit_X0_setLimits rfl rfl rfl vdX0_setLimits ⟨Nat.le_of_ble_eq_true rfl, Nat.le_of_ble_eq_true rfl⟩) (oB.recv hK hQ.aco rfl) hQ.now.ac hK hS (Aq.up2 (by decide)) rfl hl.1 rfl dX7_setLimit_97 hcs (Nat.le_of_ble_eq_true rfl) (fun H locs hnew hsz hoth hS => ?_)
          have hQ := QT.upN hQ (ST.upAC hQ.now hnew (fun q h1 h2 => hoth q h1 h2) (fun j hj => by rw [zu_n _ _ (by omega), zu_n _ _ (by omega)])) (fun q h1 h2 => hoth q h1 (fun z => h2 (Aq.in 1 8 18 5 (by decide) q z)))
          refine lv_aload_n (pc := 100) E.1 E.2 dX7_setLimit_100 rfl (lv_at hl 0 rfl) ?_
          refine g7_0 (pc := 101) E hts hin7 hown hK hQ.ob (hts _ (List.mem_of_getElem? (i := 6) rfl)) dX7_setLimit_101 ?_
          refine z_wVv (pc := 104) (As := []) (rest := []) E hml hown hts (mX6_setClocks lL G (fun k => o (1 + k)) (zu (zu σ (5 + (2 * p + k)) s) (21 + (2 * p + k)) h)  hI2) (cwV 0 hts gX7_setLimit_X6_setClocks rfl rfl rfl vdX6_setClocks ⟨Nat.le_of_ble_eq_true rfl, Nat.le_of_ble_eq_true rfl⟩) (oB.recv hK hQ.nob rfl) hQ.now hK hS (Aq.up (by decide)) rfl hl.1 rfl dX7_setLimit_104 hcs (Nat.le_of_ble_eq_true rfl) (fun H locs hnew hsz hoth hS => ?_)
          have hQ := QT.upN hQ hnew (fun q h1 h2 => hoth q h1 h2)
          refine lv_aload_n (pc := 107) E.1 E.2 dX7_setLimit_107 rfl (lv_at hl 0 rfl) ?_
          refine g7_0 (pc := 108) E hts hin7 hown hK hQ.ob (hts _ (List.mem_of_getElem? (i := 6) rfl)) dX7_setLimit_108 ?_
          refine lv_iload_n (pc := 111) E.1 E.2 dX7_setLimit_111 rfl (lv_at hl 1 rfl) ?_
          refine lv_iload_n (pc := 112) E.1 E.2 dX7_setLimit_112 rfl (lv_at hl 2 rfl) ?_
          refine z_rVi (pc := 113) (As := [.int (iI p), .int (iI k)]) (rest := []) E hml hown hts (mX6_stateOf lL G (fun k => o (1 + k)) (scA (zu (zu σ (5 + (2 * p + k)) s) (21 + (2 * p + k)) h) 16) p k hI3 (by omega) (by omega)) (cwV 2 hts gX7_setLimit_X6_stateOf rfl rfl rfl vdX6_stateOf ⟨Nat.le_of_ble_eq_true rfl, Nat.le_of_ble_eq_true rfl⟩) (oB.recv hK hQ.nob rfl) hQ.now hK rfl hl.1 rfl dX7_setLimit_113 hcs (Nat.le_of_ble_eq_true rfl) ?_
          exact z_retWi E hr (congrArg iI (by rfl)) hQ hS hlocks dX7_setLimit_116
        · exact absurd hok (by unfold kxSetL; (repeat' split) <;> first | decide | omega | (exfalso; omega) | grind)
  · refine lv_iload (pc := 27) E.1 E.2 dX7_setLimit_27 (lv_at hl 4 rfl) ?_
    refine lv_iload_n (pc := 29) E.1 E.2 dX7_setLimit_29 rfl (lv_at hl 3 rfl) ?_
    refine z_icmp_ge (pc := 30) (tgt := 44) E ⟨by omega, by omega⟩ ⟨by omega, by omega⟩ dX7_setLimit_30 (by decide) (fun h30 => ?_) (fun h30 => ?_)
    · refine lv_iload (pc := 44) E.1 E.2 dX7_setLimit_44 (lv_at hl 4 rfl) ?_
      refine z_if_ne (pc := 46) (tgt := 78) E ⟨by omega, by omega⟩ dX7_setLimit_46 (by decide) (fun h46 => ?_) (fun h46 => ?_)
      · refine lv_aload_n (pc := 78) E.1 E.2 dX7_setLimit_78 rfl (lv_at hl 0 rfl) ?_
        refine z_wVv (pc := 79) (As := []) (rest := []) E hml hown hts (mX7_remember lL G o ν σ π δ τ ω  hI hc hu) (cwV 0 hts gX7_setLimit_X7_remember rfl rfl rfl vdX7_remember ⟨Nat.le_of_ble_eq_true rfl, Nat.le_of_ble_eq_true rfl⟩) (oB.recv hK hQ.ob rfl) hQ hK hS (fun _ h => h) rfl hl.1 rfl dX7_setLimit_79 hcs (Nat.le_of_ble_eq_true rfl) (fun H locs hnew hsz hoth hS => ?_)
        have hQ : QT G o (zu (zu ν 2 ((ν 2) + 1)) 3 (min ((ν 3) + 1) 8)) σ (pU π ((ν 2) % 8) σ) δ τ ω H := hnew
        refine lv_aload_n (pc := 82) E.1 E.2 dX7_setLimit_82 rfl (lv_at hl 0 rfl) ?_
        refine g7_0 (pc := 83) E hts hin7 hown hK hQ.ob (hts _ (List.mem_of_getElem? (i := 6) rfl)) dX7_setLimit_83 ?_
        refine g6_2 (pc := 86) E hts hin6 hown hK hQ.nob (hts _ (List.mem_of_getElem? (i := 8) rfl)) dX7_setLimit_86 ?_
        refine lv_iload_n (pc := 89) E.1 E.2 dX7_setLimit_89 rfl (lv_at hl 1 rfl) ?_
        refine lv_iload_n (pc := 90) E.1 E.2 dX7_setLimit_90 rfl (lv_at hl 2 rfl) ?_
        refine z_rSi (pc := 91) (P := fun _ => True) (As := [.int (iI p), .int (iI k)]) (rest := [.ref (o 9)]) E hml hown hts (mX7_accountOf lL G p k) (va_cwS 2 hts gX7_setLimit_X7_accountOf rfl rfl rfl vdX7_accountOf.2 ⟨Nat.le_of_ble_eq_true rfl, Nat.le_of_ble_eq_true rfl⟩) trivial hK rfl hl.1 rfl dX7_setLimit_91 hcs (Nat.le_of_ble_eq_true rfl) ?_
        refine lv_iload_n (pc := 94) E.1 E.2 dX7_setLimit_94 rfl (lv_at hl 3 rfl) ?_
        refine lv_iload (pc := 95) E.1 E.2 dX7_setLimit_95 (lv_at hl 4 rfl) ?_
        refine z_wVv (pc := 97) (As := [.int (iI (2 * p + k)), .int (iI s), .int (iI h)]) (rest := []) E hml hown hts (mX0_setLimits lL G (fun k => o (1 + (8 + k))) σ (2 * p + k) s h  (by omega) (by omega) (by omega)) (cwV 3 hts gX7_setLimit_X0_setLimits rfl rfl rfl vdX0_setLimits ⟨Nat.le_of_ble_eq_true rfl, Nat.le_of_ble_eq_true rfl⟩) (oB.recv hK hQ.aco rfl) hQ.now.ac hK hS (Aq.up2 (by decide)) rfl hl.1 rfl dX7_setLimit_97 hcs (Nat.le_of_ble_eq_true rfl) (fun H locs hnew hsz hoth hS => ?_)
        have hQ := QT.upN hQ (ST.upAC hQ.now hnew (fun q h1 h2 => hoth q h1 h2) (fun j hj => by rw [zu_n _ _ (by omega), zu_n _ _ (by omega)])) (fun q h1 h2 => hoth q h1 (fun z => h2 (Aq.in 1 8 18 5 (by decide) q z)))
        refine lv_aload_n (pc := 100) E.1 E.2 dX7_setLimit_100 rfl (lv_at hl 0 rfl) ?_
        refine g7_0 (pc := 101) E hts hin7 hown hK hQ.ob (hts _ (List.mem_of_getElem? (i := 6) rfl)) dX7_setLimit_101 ?_
        refine z_wVv (pc := 104) (As := []) (rest := []) E hml hown hts (mX6_setClocks lL G (fun k => o (1 + k)) (zu (zu σ (5 + (2 * p + k)) s) (21 + (2 * p + k)) h)  hI2) (cwV 0 hts gX7_setLimit_X6_setClocks rfl rfl rfl vdX6_setClocks ⟨Nat.le_of_ble_eq_true rfl, Nat.le_of_ble_eq_true rfl⟩) (oB.recv hK hQ.nob rfl) hQ.now hK hS (Aq.up (by decide)) rfl hl.1 rfl dX7_setLimit_104 hcs (Nat.le_of_ble_eq_true rfl) (fun H locs hnew hsz hoth hS => ?_)
        have hQ := QT.upN hQ hnew (fun q h1 h2 => hoth q h1 h2)
        refine lv_aload_n (pc := 107) E.1 E.2 dX7_setLimit_107 rfl (lv_at hl 0 rfl) ?_
        refine g7_0 (pc := 108) E hts hin7 hown hK hQ.ob (hts _ (List.mem_of_getElem? (i := 6) rfl)) dX7_setLimit_108 ?_
        refine lv_iload_n (pc := 111) E.1 E.2 dX7_setLimit_111 rfl (lv_at hl 1 rfl) ?_
        refine lv_iload_n (pc := 112) E.1 E.2 dX7_setLimit_112 rfl (lv_at hl 2 rfl) ?_
        refine z_rVi (pc := 113) (As := [.int (iI p), .int (iI k)]) (rest := []) E hml hown hts (mX6_stateOf lL G (fun k => o (1 + k)) (scA (zu (zu σ (5 + (2 * p + k)) s) (21 + (2 * p + k)) h) 16) p k hI3 (by omega) (by omega)) (cwV 2 hts gX7_setLimit_X6_stateOf rfl rfl rfl vdX6_stateOf ⟨Nat.le_of_ble_eq_true rfl, Nat.le_of_ble_eq_true rfl⟩) (oB.recv hK hQ.nob rfl) hQ.now hK rfl hl.1 rfl dX7_setLimit_113 hcs (Nat.le_of_ble_eq_true rfl) ?_
        exact z_retWi E hr (congrArg iI (by rfl)) hQ hS hlocks dX7_setLimit_116
      · exact absurd h46 (by first | omega | exact h24 | exact fun q => h24 q)
    · exact absurd hok (by unfold kxSetL; (repeat' split) <;> first | decide | omega | (exfalso; omega) | grind)
set_option maxHeartbeats 1000000 in
set_option maxRecDepth 100000 in
theorem mxX7_setGrace (lL : Launch) (hst0 : lL.stackTraces = false) (G : GG) (o : Nat → Nat) (ν σ : Int → Int) (π : Nat → Int → Int) (δ τ ω : Int → Int) (g : Int) (hI : In σ) (hg : -2147483648 ≤ g ∧ g < 2147483648) (hbad : ¬ ((kxSetG g) = 0)) : vx_Met lL yX7_setGrace wsX7_setGrace ({ frames := 7, cells := 1, slots := 6, locals := 153 } : Room) (va_Pc [.ref (o 0), .int (iI g)] (fun U => QT G o ν σ π δ τ ω U.heap ∧ KK G U ∧ KX FF0 U U.heap)) (fun _ _ _ _ => False) (XCe (exq xA xI xI (kxSetG g))) 1 6 FF0 := by
  refine z_metX (P := (fun H : Heap => QT G o ν σ π δ τ ω H)) (by decide) rfl (Nat.le_of_ble_eq_true rfl) (fun pp ee ss mm below meth cC E hml hown hts hlocks htab hQ hK hX ls hl => ?_)
  have hl : lv_has ls 3 [(0, .ref (o 0)), (1, .int (iI g))] := hl
  have hcs : 0 ≤ (({ frames := 7, cells := 1, slots := 6, locals := 153 } : Room)).cells ∧ 0 ≤ (({ frames := 7, cells := 1, slots := 6, locals := 153 } : Room)).slots := ⟨Nat.zero_le _, Nat.zero_le _⟩
  have hin6 : ∀ w ∈ wsX60, w ∈ wsX7_setGrace := fun w h => List.mem_cons_of_mem _ (List.mem_append_left _ (List.mem_append_left _ (List.mem_append_left _ (List.mem_append_left _ (List.mem_append_left _ (List.mem_append_right _ (h)))))))
  have hin7 : ∀ w ∈ wsX70, w ∈ wsX7_setGrace := fun w h => List.mem_cons_of_mem _ (List.mem_append_left _ (List.mem_append_left _ (List.mem_append_left _ (List.mem_append_left _ (List.mem_append_left _ (List.mem_append_left _ (List.mem_append_right _ (h))))))))
  have hF := hI.F
  have hMm := hI.M
  have hGn := hI.Gn
  have hTi := hI.ti
  have hGr := hI.gr
  refine lv_iload_n (pc := 0) E.1 E.2 dX7_setGrace_0 rfl (lv_at hl 1 rfl) ?_
  refine z_iconst (pc := 1) E dX7_setGrace_1 ?_
  refine z_bipush (pc := 2) E (by decide) dX7_setGrace_2 ?_
  by_cases hc4 : 1 ≤ g ∧ g ≤ 99
  · refine z_rSv (pc := 4) (P := fun _ => True) (As := [.int (iI g), .int (iI 1), .int (iI 99)]) (rest := []) E hml hown hts (mX7_needRange lL G g 1 99 (by omega) (by omega) (by omega) (by omega)) (va_cwS 3 hts gX7_setGrace_X7_needRange rfl rfl rfl vdX7_needRange.2 ⟨Nat.le_of_ble_eq_true rfl, Nat.le_of_ble_eq_true rfl⟩) trivial hK rfl hl.1 rfl dX7_setGrace_4 hcs (Nat.le_of_ble_eq_true rfl) ?_
    refine lv_aload_n (pc := 7) E.1 E.2 dX7_setGrace_7 rfl (lv_at hl 0 rfl) ?_
    refine g7_0 (pc := 8) E hts hin7 hown hK hQ.ob (hts _ (List.mem_of_getElem? (i := 1) rfl)) dX7_setGrace_8 ?_
    refine g6_5 (pc := 11) E hts hin6 hown hK hQ.nob (hts _ (List.mem_of_getElem? (i := 2) rfl)) dX7_setGrace_11 ?_
    refine lv_istore_n (pc := 14) (lv' := [(2, .int (iI (σ 1))), (0, .ref (o 0)), (1, .int (iI g))]) E.1 E.2 dX7_setGrace_14 rfl hl (by decide) rfl (fun ls hl => ?_)
    refine lv_aload_n (pc := 15) E.1 E.2 dX7_setGrace_15 rfl (lv_at hl 1 rfl) ?_
    exact absurd (show (kxSetG g) = 0 by (unfold kxSetG; (repeat' split) <;> first | rfl | omega | (exfalso; omega) | contradiction | grind)) hbad
  exact z_badS (pc := 4) (P := fun _ => True) (As := [.int (iI g), .int (iI 1), .int (iI 99)]) (rest := []) E hml hown hts (mxX7_needRange lL hst0 G g 1 99 (by omega) (by omega) (by omega) hc4) (va_cwS 3 hts gX7_setGrace_X7_needRange rfl rfl rfl vdX7_needRange.2 ⟨Nat.le_of_ble_eq_true rfl, Nat.le_of_ble_eq_true rfl⟩) trivial hK hX rfl hl.1 rfl dX7_setGrace_4 ⟨Nat.le_of_ble_eq_true rfl, Nat.le_of_ble_eq_true rfl⟩ (Nat.le_of_ble_eq_true rfl) (by rw [show (kxSetG g) = 1 by (unfold kxSetG; (repeat' split) <;> first | rfl | omega | (exfalso; omega) | contradiction | grind)]; rfl) htab hlocks
set_option maxHeartbeats 1000000 in
set_option maxRecDepth 100000 in
theorem mX7_setGrace (lL : Launch) (G : GG) (o : Nat → Nat) (ν σ : Int → Int) (π : Nat → Int → Int) (δ τ ω : Int → Int) (g : Int) (hI : In σ) (hg : -2147483648 ≤ g ∧ g < 2147483648) (hok : (kxSetG g) = 0) (hc : 0 ≤ ν 2 ∧ ν 2 ≤ 1000000) (hu : 0 ≤ ν 3 ∧ ν 3 ≤ 8) : Met lL yX7_setGrace wsX7_setGrace ({ frames := 4, cells := 0, slots := 0, locals := 153 } : Room) (va_Pc [.ref (o 0), .int (iI g)] (fun U => QT G o ν σ π δ τ ω U.heap ∧ KK G U)) (va_Qi (fun r (_ : Unit) => r = (iI (σ 1))) (fun _ tZ => QT G o (zu (zu ν 2 (ν 2 + 1)) 3 (min (ν 3 + 1) 8)) (nxSetG σ g) (pU π (ν 2 % 8) σ) δ τ ω tZ.heap) (Ax o 187)) 0 0 (Ax o 187) := by
  refine z_met (P := (fun H : Heap => QT G o ν σ π δ τ ω H)) (by decide) rfl (Nat.le_of_ble_eq_true rfl) (fun pp ee ss mm below meth cC E hr hml hown hts hlocks hQ hK ls hl => ?_)
  have hl : lv_has ls 3 [(0, .ref (o 0)), (1, .int (iI g))] := hl
  have hcs : 0 ≤ (({ frames := 4, cells := 0, slots := 0, locals := 153 } : Room)).cells ∧ 0 ≤ (({ frames := 4, cells := 0, slots := 0, locals := 153 } : Room)).slots := ⟨Nat.zero_le _, Nat.zero_le _⟩
  have hS : va_S (Ax o 187) ss.heap ss.heap [] := va_S.rf
  have hin6 : ∀ w ∈ wsX60, w ∈ wsX7_setGrace := fun w h => List.mem_cons_of_mem _ (List.mem_append_left _ (List.mem_append_left _ (List.mem_append_left _ (List.mem_append_left _ (List.mem_append_left _ (List.mem_append_right _ (h)))))))
  have hin7 : ∀ w ∈ wsX70, w ∈ wsX7_setGrace := fun w h => List.mem_cons_of_mem _ (List.mem_append_left _ (List.mem_append_left _ (List.mem_append_left _ (List.mem_append_left _ (List.mem_append_left _ (List.mem_append_left _ (List.mem_append_right _ (h))))))))
  have hF := hI.F
  have hMm := hI.M
  have hGn := hI.Gn
  have hTi := hI.ti
  have hGr := hI.gr
  have hoc := kxSetG_ok hok
  refine lv_iload_n (pc := 0) E.1 E.2 dX7_setGrace_0 rfl (lv_at hl 1 rfl) ?_
  refine z_iconst (pc := 1) E dX7_setGrace_1 ?_
  refine z_bipush (pc := 2) E (by decide) dX7_setGrace_2 ?_
  refine z_rSv (pc := 4) (P := fun _ => True) (As := [.int (iI g), .int (iI 1), .int (iI 99)]) (rest := []) E hml hown hts (mX7_needRange lL G g 1 99 (by omega) (by omega) (by omega) (by omega)) (va_cwS 3 hts gX7_setGrace_X7_needRange rfl rfl rfl vdX7_needRange.2 ⟨Nat.le_of_ble_eq_true rfl, Nat.le_of_ble_eq_true rfl⟩) trivial hK rfl hl.1 rfl dX7_setGrace_4 hcs (Nat.le_of_ble_eq_true rfl) ?_
  refine lv_aload_n (pc := 7) E.1 E.2 dX7_setGrace_7 rfl (lv_at hl 0 rfl) ?_
  refine g7_0 (pc := 8) E hts hin7 hown hK hQ.ob (hts _ (List.mem_of_getElem? (i := 1) rfl)) dX7_setGrace_8 ?_
  refine g6_5 (pc := 11) E hts hin6 hown hK hQ.nob (hts _ (List.mem_of_getElem? (i := 2) rfl)) dX7_setGrace_11 ?_
  refine lv_istore_n (pc := 14) (lv' := [(2, .int (iI (σ 1))), (0, .ref (o 0)), (1, .int (iI g))]) E.1 E.2 dX7_setGrace_14 rfl hl (by decide) rfl (fun ls hl => ?_)
  refine lv_aload_n (pc := 15) E.1 E.2 dX7_setGrace_15 rfl (lv_at hl 1 rfl) ?_
  refine z_wVv (pc := 16) (As := []) (rest := []) E hml hown hts (mX7_remember lL G o ν σ π δ τ ω  hI hc hu) (cwV 0 hts gX7_setGrace_X7_remember rfl rfl rfl vdX7_remember ⟨Nat.le_of_ble_eq_true rfl, Nat.le_of_ble_eq_true rfl⟩) (oB.recv hK hQ.ob rfl) hQ hK hS (fun _ h => h) rfl hl.1 rfl dX7_setGrace_16 hcs (Nat.le_of_ble_eq_true rfl) (fun H locs hnew hsz hoth hS => ?_)
  have hQ : QT G o (zu (zu ν 2 ((ν 2) + 1)) 3 (min ((ν 3) + 1) 8)) σ (pU π ((ν 2) % 8) σ) δ τ ω H := hnew
  refine lv_aload_n (pc := 19) E.1 E.2 dX7_setGrace_19 rfl (lv_at hl 1 rfl) ?_
  refine g7_0 (pc := 20) E hts hin7 hown hK hQ.ob (hts _ (List.mem_of_getElem? (i := 1) rfl)) dX7_setGrace_20 ?_
  refine lv_iload_n (pc := 23) E.1 E.2 dX7_setGrace_23 rfl (lv_at hl 2 rfl) ?_
  refine p6_5 (pc := 24) E hts hin6 hown hK hQ.nob hS (Ax.at 1 (by decide)) (hts _ (List.mem_of_getElem? (i := 2) rfl)) dX7_setGrace_24 (fun H locs hnew hoth hS => ?_)
  have hQ := QT.upN hQ (ST.upO hQ.now (τ := (zu σ 1 g)) (by simpa only [zu, Int.reduceEq, reduceIte] using hnew) (fun q _ h => hoth q h) (fun j hj => zu_n _ _ (by omega))) (fun q _ h => hoth q (fun z => h ⟨0, by decide, z⟩))
  refine lv_aload_n (pc := 27) E.1 E.2 dX7_setGrace_27 rfl (lv_at hl 1 rfl) ?_
  refine g7_0 (pc := 28) E hts hin7 hown hK hQ.ob (hts _ (List.mem_of_getElem? (i := 1) rfl)) dX7_setGrace_28 ?_
  refine z_wVv (pc := 31) (As := []) (rest := []) E hml hown hts (mX6_setClocks lL G (fun k => o (1 + k)) (zu σ 1 g)  (hI.grace (by omega))) (cwV 0 hts gX7_setGrace_X6_setClocks rfl rfl rfl vdX6_setClocks ⟨Nat.le_of_ble_eq_true rfl, Nat.le_of_ble_eq_true rfl⟩) (oB.recv hK hQ.nob rfl) hQ.now hK hS (Aq.up (by decide)) rfl hl.1 rfl dX7_setGrace_31 hcs (Nat.le_of_ble_eq_true rfl) (fun H locs hnew hsz hoth hS => ?_)
  have hQ := QT.upN hQ hnew (fun q h1 h2 => hoth q h1 h2)
  refine lv_iload_n (pc := 34) E.1 E.2 dX7_setGrace_34 rfl (lv_at hl 0 rfl) ?_
  exact z_retWi E hr rfl hQ hS hlocks dX7_setGrace_35
set_option maxHeartbeats 1000000 in
set_option maxRecDepth 100000 in
theorem mxX7_tick (lL : Launch) (hst0 : lL.stackTraces = false) (G : GG) (o : Nat → Nat) (ν σ : Int → Int) (π : Nat → Int → Int) (δ τ ω : Int → Int) (t : Int) (hI : In σ) (ht : -2147483648 ≤ t ∧ t < 2147483648) (hbad : ¬ ((kxTick σ t) = 0)) : vx_Met lL yX7_tick wsX7_tick ({ frames := 7, cells := 1, slots := 6, locals := 153 } : Room) (va_Pc [.ref (o 0), .int (iI t)] (fun U => QT G o ν σ π δ τ ω U.heap ∧ KK G U ∧ KX FF0 U U.heap)) (fun _ _ _ _ => False) (XCe (exq xA xS xI (kxTick σ t))) 1 6 FF0 := by
  refine z_metX (P := (fun H : Heap => QT G o ν σ π δ τ ω H)) (by decide) rfl (Nat.le_of_ble_eq_true rfl) (fun pp ee ss mm below meth cC E hml hown hts hlocks htab hQ hK hX ls hl => ?_)
  have hl : lv_has ls 3 [(0, .ref (o 0)), (1, .int (iI t))] := hl
  have hcs : 0 ≤ (({ frames := 7, cells := 1, slots := 6, locals := 153 } : Room)).cells ∧ 0 ≤ (({ frames := 7, cells := 1, slots := 6, locals := 153 } : Room)).slots := ⟨Nat.zero_le _, Nat.zero_le _⟩
  have hin6 : ∀ w ∈ wsX60, w ∈ wsX7_tick := fun w h => List.mem_cons_of_mem _ (List.mem_append_left _ (List.mem_append_left _ (List.mem_append_left _ (List.mem_append_left _ (List.mem_append_left _ (List.mem_append_left _ (List.mem_append_right _ (h))))))))
  have hin7 : ∀ w ∈ wsX70, w ∈ wsX7_tick := fun w h => List.mem_cons_of_mem _ (List.mem_append_left _ (List.mem_append_left _ (List.mem_append_left _ (List.mem_append_left _ (List.mem_append_left _ (List.mem_append_left _ (List.mem_append_left _ (List.mem_append_right _ (h)))))))))
  have hF := hI.F
  have hMm := hI.M
  have hGn := hI.Gn
  have hTi := hI.ti
  have hGr := hI.gr
  refine lv_iload_n (pc := 0) E.1 E.2 dX7_tick_0 rfl (lv_at hl 1 rfl) ?_
  refine z_iconst (pc := 1) E dX7_tick_1 ?_
  refine z_sipush (pc := 2) E (by decide) dX7_tick_2 ?_
  by_cases hc5 : 1 ≤ t ∧ t ≤ 999
  · refine z_rSv (pc := 5) (P := fun _ => True) (As := [.int (iI t), .int (iI 1), .int (iI 999)]) (rest := []) E hml hown hts (mX7_needRange lL G t 1 999 (by omega) (by omega) (by omega) (by omega)) (va_cwS 3 hts gX7_tick_X7_needRange rfl rfl rfl vdX7_needRange.2 ⟨Nat.le_of_ble_eq_true rfl, Nat.le_of_ble_eq_true rfl⟩) trivial hK rfl hl.1 rfl dX7_tick_5 hcs (Nat.le_of_ble_eq_true rfl) ?_
    refine lv_aload_n (pc := 8) E.1 E.2 dX7_tick_8 rfl (lv_at hl 0 rfl) ?_
    refine g7_0 (pc := 9) E hts hin7 hown hK hQ.ob (hts _ (List.mem_of_getElem? (i := 3) rfl)) dX7_tick_9 ?_
    refine g6_4 (pc := 12) E hts hin6 hown hK hQ.nob (hts _ (List.mem_of_getElem? (i := 4) rfl)) dX7_tick_12 ?_
    refine lv_iload_n (pc := 15) E.1 E.2 dX7_tick_15 rfl (lv_at hl 1 rfl) ?_
    refine z_iadd (pc := 16) E dX7_tick_16 ?_
    refine z_sipush (pc := 17) E (by decide) dX7_tick_17 ?_
    refine z_icmp_le (pc := 20) (tgt := 34) E ⟨by omega, by omega⟩ (by decide) dX7_tick_20 (by decide) (fun h20 => ?_) (fun h20 => ?_)
    · refine lv_aload_n (pc := 34) E.1 E.2 dX7_tick_34 rfl (lv_at hl 0 rfl) ?_
      exact absurd (show (kxTick σ t) = 0 by (unfold kxTick; (repeat' split) <;> first | rfl | omega | (exfalso; omega) | contradiction | grind)) hbad
    · exact z_thrW_xS (pc := 23) (rest := []) (is := 322) (text := "the time would exceed 9999") E hst0 hown (hts _ (List.mem_of_getElem? (i := 1) rfl)) (hts _ (List.mem_of_getElem? (i := 2) rfl)) (fun w h => hts w (List.mem_cons_of_mem _ (List.mem_append_left _ (List.mem_append_right _ (h))))) hX (List.mem_of_getElem? (i := 12) rfl) (hl.1.trans hml.symm) dX7_tick_23 dX7_tick_26 dX7_tick_27 dX7_tick_30 dX7_tick_33 htab (Nat.le_of_ble_eq_true rfl) (Nat.le_of_ble_eq_true rfl) (Nat.le_of_ble_eq_true rfl) (Nat.le_of_ble_eq_true rfl) hlocks (by rw [show (kxTick σ t) = 2 by (unfold kxTick; (repeat' split) <;> first | rfl | omega | (exfalso; omega) | contradiction | grind)]; rfl)
  exact z_badS (pc := 5) (P := fun _ => True) (As := [.int (iI t), .int (iI 1), .int (iI 999)]) (rest := []) E hml hown hts (mxX7_needRange lL hst0 G t 1 999 (by omega) (by omega) (by omega) hc5) (va_cwS 3 hts gX7_tick_X7_needRange rfl rfl rfl vdX7_needRange.2 ⟨Nat.le_of_ble_eq_true rfl, Nat.le_of_ble_eq_true rfl⟩) trivial hK hX rfl hl.1 rfl dX7_tick_5 ⟨Nat.le_of_ble_eq_true rfl, Nat.le_of_ble_eq_true rfl⟩ (Nat.le_of_ble_eq_true rfl) (by rw [show (kxTick σ t) = 1 by (unfold kxTick; (repeat' split) <;> first | rfl | omega | (exfalso; omega) | contradiction | grind)]; rfl) htab hlocks
set_option maxHeartbeats 1000000 in
set_option maxRecDepth 100000 in
theorem mX7_tick (lL : Launch) (G : GG) (o : Nat → Nat) (ν σ : Int → Int) (π : Nat → Int → Int) (δ τ ω : Int → Int) (t : Int) (hI : In σ) (ht : -2147483648 ≤ t ∧ t < 2147483648) (hok : (kxTick σ t) = 0) (hc : 0 ≤ ν 2 ∧ ν 2 ≤ 1000000) (hu : 0 ≤ ν 3 ∧ ν 3 ≤ 8) : Met lL yX7_tick wsX7_tick ({ frames := 4, cells := 0, slots := 0, locals := 153 } : Room) (va_Pc [.ref (o 0), .int (iI t)] (fun U => QT G o ν σ π δ τ ω U.heap ∧ KK G U)) (va_Qi (fun r (_ : Unit) => r = (iI (σ 4 - tkA σ t 4))) (fun _ tZ => QT G o (zu (zu ν 2 (ν 2 + 1)) 3 (min (ν 3 + 1) 8)) (nxTick σ t) (pU π (ν 2 % 8) σ) δ τ ω tZ.heap) (Ax o 187)) 0 0 (Ax o 187) := by
  refine z_met (P := (fun H : Heap => QT G o ν σ π δ τ ω H)) (by decide) rfl (Nat.le_of_ble_eq_true rfl) (fun pp ee ss mm below meth cC E hr hml hown hts hlocks hQ hK ls hl => ?_)
  have hl : lv_has ls 3 [(0, .ref (o 0)), (1, .int (iI t))] := hl
  have hcs : 0 ≤ (({ frames := 4, cells := 0, slots := 0, locals := 153 } : Room)).cells ∧ 0 ≤ (({ frames := 4, cells := 0, slots := 0, locals := 153 } : Room)).slots := ⟨Nat.zero_le _, Nat.zero_le _⟩
  have hS : va_S (Ax o 187) ss.heap ss.heap [] := va_S.rf
  have hin6 : ∀ w ∈ wsX60, w ∈ wsX7_tick := fun w h => List.mem_cons_of_mem _ (List.mem_append_left _ (List.mem_append_left _ (List.mem_append_left _ (List.mem_append_left _ (List.mem_append_left _ (List.mem_append_left _ (List.mem_append_right _ (h))))))))
  have hin7 : ∀ w ∈ wsX70, w ∈ wsX7_tick := fun w h => List.mem_cons_of_mem _ (List.mem_append_left _ (List.mem_append_left _ (List.mem_append_left _ (List.mem_append_left _ (List.mem_append_left _ (List.mem_append_left _ (List.mem_append_left _ (List.mem_append_right _ (h)))))))))
  have hF := hI.F
  have hMm := hI.M
  have hGn := hI.Gn
  have hTi := hI.ti
  have hGr := hI.gr
  have hoc := kxTick_ok hok
  have hI1 := hI.time (t := σ 0 + t) (by omega)
  have e4 : zu σ 0 (σ 0 + t) 4 = σ 4 := zu_n _ _ (by omega)
  refine lv_iload_n (pc := 0) E.1 E.2 dX7_tick_0 rfl (lv_at hl 1 rfl) ?_
  refine z_iconst (pc := 1) E dX7_tick_1 ?_
  refine z_sipush (pc := 2) E (by decide) dX7_tick_2 ?_
  refine z_rSv (pc := 5) (P := fun _ => True) (As := [.int (iI t), .int (iI 1), .int (iI 999)]) (rest := []) E hml hown hts (mX7_needRange lL G t 1 999 (by omega) (by omega) (by omega) (by omega)) (va_cwS 3 hts gX7_tick_X7_needRange rfl rfl rfl vdX7_needRange.2 ⟨Nat.le_of_ble_eq_true rfl, Nat.le_of_ble_eq_true rfl⟩) trivial hK rfl hl.1 rfl dX7_tick_5 hcs (Nat.le_of_ble_eq_true rfl) ?_
  refine lv_aload_n (pc := 8) E.1 E.2 dX7_tick_8 rfl (lv_at hl 0 rfl) ?_
  refine g7_0 (pc := 9) E hts hin7 hown hK hQ.ob (hts _ (List.mem_of_getElem? (i := 3) rfl)) dX7_tick_9 ?_
  refine g6_4 (pc := 12) E hts hin6 hown hK hQ.nob (hts _ (List.mem_of_getElem? (i := 4) rfl)) dX7_tick_12 ?_
  refine lv_iload_n (pc := 15) E.1 E.2 dX7_tick_15 rfl (lv_at hl 1 rfl) ?_
  refine z_iadd (pc := 16) E dX7_tick_16 ?_
  refine z_sipush (pc := 17) E (by decide) dX7_tick_17 ?_
  refine z_icmp_le (pc := 20) (tgt := 34) E ⟨by omega, by omega⟩ (by decide) dX7_tick_20 (by decide) (fun h20 => ?_) (fun h20 => ?_)
  · refine lv_aload_n (pc := 34) E.1 E.2 dX7_tick_34 rfl (lv_at hl 0 rfl) ?_
    refine z_wVv (pc := 35) (As := []) (rest := []) E hml hown hts (mX7_remember lL G o ν σ π δ τ ω  hI hc hu) (cwV 0 hts gX7_tick_X7_remember rfl rfl rfl vdX7_remember ⟨Nat.le_of_ble_eq_true rfl, Nat.le_of_ble_eq_true rfl⟩) (oB.recv hK hQ.ob rfl) hQ hK hS (fun _ h => h) rfl hl.1 rfl dX7_tick_35 hcs (Nat.le_of_ble_eq_true rfl) (fun H locs hnew hsz hoth hS => ?_)
    have hQ : QT G o (zu (zu ν 2 ((ν 2) + 1)) 3 (min ((ν 3) + 1) 8)) σ (pU π ((ν 2) % 8) σ) δ τ ω H := hnew
    refine lv_aload_n (pc := 38) E.1 E.2 dX7_tick_38 rfl (lv_at hl 0 rfl) ?_
    refine g7_0 (pc := 39) E hts hin7 hown hK hQ.ob (hts _ (List.mem_of_getElem? (i := 3) rfl)) dX7_tick_39 ?_
    refine lv_dup (pc := 42) E.1 E.2 dX7_tick_42 rfl ?_
    refine g6_4 (pc := 43) E hts hin6 hown hK hQ.nob (hts _ (List.mem_of_getElem? (i := 4) rfl)) dX7_tick_43 ?_
    refine lv_iload_n (pc := 46) E.1 E.2 dX7_tick_46 rfl (lv_at hl 1 rfl) ?_
    refine z_iadd (pc := 47) E dX7_tick_47 ?_
    refine p6_4 (pc := 48) E hts hin6 hown hK hQ.nob hS (Ax.at 1 (by decide)) (hts _ (List.mem_of_getElem? (i := 4) rfl)) dX7_tick_48 (fun H locs hnew hoth hS => ?_)
    have hQ := QT.upN hQ (ST.upO hQ.now (τ := (zu σ 0 ((σ 0) + t))) (by simpa only [zu, Int.reduceEq, reduceIte] using hnew) (fun q _ h => hoth q h) (fun j hj => zu_n _ _ (by omega))) (fun q _ h => hoth q (fun z => h ⟨0, by decide, z⟩))
    refine lv_aload_n (pc := 51) E.1 E.2 dX7_tick_51 rfl (lv_at hl 0 rfl) ?_
    refine g7_0 (pc := 52) E hts hin7 hown hK hQ.ob (hts _ (List.mem_of_getElem? (i := 3) rfl)) dX7_tick_52 ?_
    refine g6_3 (pc := 55) E hts hin6 hown hK hQ.nob (hts _ (List.mem_of_getElem? (i := 5) rfl)) dX7_tick_55 ?_
    refine lv_aload_n (pc := 58) E.1 E.2 dX7_tick_58 rfl (lv_at hl 0 rfl) ?_
    refine g7_0 (pc := 59) E hts hin7 hown hK hQ.ob (hts _ (List.mem_of_getElem? (i := 3) rfl)) dX7_tick_59 ?_
    refine g6_4 (pc := 62) E hts hin6 hown hK hQ.nob (hts _ (List.mem_of_getElem? (i := 4) rfl)) dX7_tick_62 ?_
    rw [show ((zu σ 0 ((σ 0) + t)) 0) = (σ 0 + t) from (zu_s _ _ _)]
    refine z_wVi (pc := 65) (As := [.int (iI (σ 0 + t))]) (rest := []) E hml hown hts (mX4_removeEnded lL G (fun k => o (1 + (13 + k))) (zu σ 0 ((σ 0) + t)) (σ 0 + t) hI1 (by omega)) (cwV 1 hts gX7_tick_X4_removeEnded rfl rfl rfl vdX4_removeEnded ⟨Nat.le_of_ble_eq_true rfl, Nat.le_of_ble_eq_true rfl⟩) (oB.recv hK hQ.gio rfl) hQ.now.gi hK hS (Aq.up2 (by decide)) rfl hl.1 rfl dX7_tick_65 hcs (Nat.le_of_ble_eq_true rfl) (fun H locs hnew hsz hoth hS => ?_)
    have hQ := QT.upN hQ (ST.upGI hQ.now hnew (fun q h1 h2 => hoth q h1 h2) (fun j hj => reG_n _ (by omega)) (by rw [zu_n _ _ (by omega)]; omega) (by rw [zu_n _ _ (by omega)]; omega)) (fun q h1 h2 => hoth q h1 (fun z => h2 (Aq.in 1 13 18 5 (by decide) q z)))
    rw [e4] at hQ
    have hQ : QT G o (zu (zu ν 2 ((ν 2) + 1)) 3 (min ((ν 3) + 1) 8)) (tkA σ t) (pU π ((ν 2) % 8) σ) δ τ ω H := hQ
    rw [show ((zu σ 0 ((σ 0) + t)) 4 - reG (zu σ 0 ((σ 0) + t)) (σ 0 + t) ((zu σ 0 ((σ 0) + t)) 4).toNat 4) = (σ 4 - tkA σ t 4) from (by rw [e4]; rfl)]
    refine lv_istore_n (pc := 68) (lv' := [(2, .int (iI (σ 4 - tkA σ t 4))), (0, .ref (o 0)), (1, .int (iI t))]) E.1 E.2 dX7_tick_68 rfl hl (by decide) rfl (fun ls hl => ?_)
    refine lv_aload_n (pc := 69) E.1 E.2 dX7_tick_69 rfl (lv_at hl 1 rfl) ?_
    refine g7_0 (pc := 70) E hts hin7 hown hK hQ.ob (hts _ (List.mem_of_getElem? (i := 3) rfl)) dX7_tick_70 ?_
    refine z_wVv (pc := 73) (As := []) (rest := []) E hml hown hts (mX6_setClocks lL G (fun k => o (1 + k)) (tkA σ t)  (hI1.reGI _ (by rw [e4]; omega))) (cwV 0 hts gX7_tick_X6_setClocks rfl rfl rfl vdX6_setClocks ⟨Nat.le_of_ble_eq_true rfl, Nat.le_of_ble_eq_true rfl⟩) (oB.recv hK hQ.nob rfl) hQ.now hK hS (Aq.up (by decide)) rfl hl.1 rfl dX7_tick_73 hcs (Nat.le_of_ble_eq_true rfl) (fun H locs hnew hsz hoth hS => ?_)
    have hQ := QT.upN hQ hnew (fun q h1 h2 => hoth q h1 h2)
    refine lv_iload_n (pc := 76) E.1 E.2 dX7_tick_76 rfl (lv_at hl 0 rfl) ?_
    exact z_retWi E hr rfl hQ hS hlocks dX7_tick_77
  · exact absurd hok (by unfold kxTick; (repeat' split) <;> first | decide | omega | (exfalso; omega) | grind)
set_option maxHeartbeats 1000000 in
set_option maxRecDepth 100000 in
theorem mxX7_gift (lL : Launch) (hst0 : lL.stackTraces = false) (G : GG) (o : Nat → Nat) (ν σ : Int → Int) (π : Nat → Int → Int) (δ τ ω : Int → Int) (a : Int) (t : Int) (b : Int) (d : Int) (hI : In σ) (ha : -2147483648 ≤ a ∧ a < 2147483648) (ht : -2147483648 ≤ t ∧ t < 2147483648) (hb : -2147483648 ≤ b ∧ b < 2147483648) (hd : -2147483648 ≤ d ∧ d < 2147483648) (hbad : ¬ ((kxGift σ a t b d) = 0)) : vx_Met lL yX7_gift wsX7_gift ({ frames := 8, cells := 1, slots := 6, locals := 153 } : Room) (va_Pc [.ref (o 0), .int (iI a), .int (iI t), .int (iI b), .int (iI d)] (fun U => QT G o ν σ π δ τ ω U.heap ∧ KK G U ∧ KX FF0 U U.heap)) (fun _ _ _ _ => False) (XCe (exq xA xS xI (kxGift σ a t b d))) 1 6 FF0 := by
  refine z_metX (P := (fun H : Heap => QT G o ν σ π δ τ ω H)) (by decide) rfl (Nat.le_of_ble_eq_true rfl) (fun pp ee ss mm below meth cC E hml hown hts hlocks htab hQ hK hX ls hl => ?_)
  have hl : lv_has ls 5 [(0, .ref (o 0)), (1, .int (iI a)), (2, .int (iI t)), (3, .int (iI b)), (4, .int (iI d))] := hl
  have hcs : 0 ≤ (({ frames := 8, cells := 1, slots := 6, locals := 153 } : Room)).cells ∧ 0 ≤ (({ frames := 8, cells := 1, slots := 6, locals := 153 } : Room)).slots := ⟨Nat.zero_le _, Nat.zero_le _⟩
  have hin6 : ∀ w ∈ wsX60, w ∈ wsX7_gift := fun w h => List.mem_cons_of_mem _ (List.mem_append_left _ (List.mem_append_left _ (List.mem_append_left _ (List.mem_append_left _ (List.mem_append_left _ (List.mem_append_left _ (List.mem_append_right _ (h))))))))
  have hin7 : ∀ w ∈ wsX70, w ∈ wsX7_gift := fun w h => List.mem_cons_of_mem _ (List.mem_append_left _ (List.mem_append_left _ (List.mem_append_left _ (List.mem_append_left _ (List.mem_append_left _ (List.mem_append_left _ (List.mem_append_left _ (List.mem_append_right _ (h)))))))))
  have hF := hI.F
  have hMm := hI.M
  have hGn := hI.Gn
  have hTi := hI.ti
  have hGr := hI.gr
  have hrq := rf_q hI a t b
  refine lv_iload_n (pc := 0) E.1 E.2 dX7_gift_0 rfl (lv_at hl 1 rfl) ?_
  by_cases hc1 : 0 ≤ a ∧ a ≤ 7
  · refine z_rSv (pc := 1) (P := fun _ => True) (As := [.int (iI a)]) (rest := []) E hml hown hts (mX7_needProject lL G a (by omega) (by omega)) (va_cwS 1 hts gX7_gift_X7_needProject rfl rfl rfl vdX7_needProject.2 ⟨Nat.le_of_ble_eq_true rfl, Nat.le_of_ble_eq_true rfl⟩) trivial hK rfl hl.1 rfl dX7_gift_1 hcs (Nat.le_of_ble_eq_true rfl) ?_
    refine lv_iload_n (pc := 4) E.1 E.2 dX7_gift_4 rfl (lv_at hl 2 rfl) ?_
    by_cases hc5 : 0 ≤ t ∧ t ≤ 7
    · refine z_rSv (pc := 5) (P := fun _ => True) (As := [.int (iI t)]) (rest := []) E hml hown hts (mX7_needProject lL G t (by omega) (by omega)) (va_cwS 1 hts gX7_gift_X7_needProject rfl rfl rfl vdX7_needProject.2 ⟨Nat.le_of_ble_eq_true rfl, Nat.le_of_ble_eq_true rfl⟩) trivial hK rfl hl.1 rfl dX7_gift_5 hcs (Nat.le_of_ble_eq_true rfl) ?_
      refine lv_iload_n (pc := 8) E.1 E.2 dX7_gift_8 rfl (lv_at hl 3 rfl) ?_
      refine z_iconst (pc := 9) E dX7_gift_9 ?_
      refine z_sipush (pc := 10) E (by decide) dX7_gift_10 ?_
      by_cases hc13 : 1 ≤ b ∧ b ≤ 9999
      · refine z_rSv (pc := 13) (P := fun _ => True) (As := [.int (iI b), .int (iI 1), .int (iI 9999)]) (rest := []) E hml hown hts (mX7_needRange lL G b 1 9999 (by omega) (by omega) (by omega) (by omega)) (va_cwS 3 hts gX7_gift_X7_needRange rfl rfl rfl vdX7_needRange.2 ⟨Nat.le_of_ble_eq_true rfl, Nat.le_of_ble_eq_true rfl⟩) trivial hK rfl hl.1 rfl dX7_gift_13 hcs (Nat.le_of_ble_eq_true rfl) ?_
        refine lv_iload (pc := 16) E.1 E.2 dX7_gift_16 (lv_at hl 4 rfl) ?_
        refine z_iconst (pc := 18) E dX7_gift_18 ?_
        refine z_sipush (pc := 19) E (by decide) dX7_gift_19 ?_
        by_cases hc22 : 1 ≤ d ∧ d ≤ 999
        · refine z_rSv (pc := 22) (P := fun _ => True) (As := [.int (iI d), .int (iI 1), .int (iI 999)]) (rest := []) E hml hown hts (mX7_needRange lL G d 1 999 (by omega) (by omega) (by omega) (by omega)) (va_cwS 3 hts gX7_gift_X7_needRange rfl rfl rfl vdX7_needRange.2 ⟨Nat.le_of_ble_eq_true rfl, Nat.le_of_ble_eq_true rfl⟩) trivial hK rfl hl.1 rfl dX7_gift_22 hcs (Nat.le_of_ble_eq_true rfl) ?_
          refine lv_iload_n (pc := 25) E.1 E.2 dX7_gift_25 rfl (lv_at hl 1 rfl) ?_
          refine lv_iload_n (pc := 26) E.1 E.2 dX7_gift_26 rfl (lv_at hl 2 rfl) ?_
          refine z_icmp_ne (pc := 27) (tgt := 41) E ⟨by omega, by omega⟩ ⟨by omega, by omega⟩ dX7_gift_27 (by decide) (fun h27 => ?_) (fun h27 => ?_)
          · refine lv_aload_n (pc := 41) E.1 E.2 dX7_gift_41 rfl (lv_at hl 0 rfl) ?_
            refine g7_0 (pc := 42) E hts hin7 hown hK hQ.ob (hts _ (List.mem_of_getElem? (i := 5) rfl)) dX7_gift_42 ?_
            refine g6_3 (pc := 45) E hts hin6 hown hK hQ.nob (hts _ (List.mem_of_getElem? (i := 6) rfl)) dX7_gift_45 ?_
            refine z_rVi (pc := 48) (As := []) (rest := []) E hml hown hts (mX4_isFull lL G (fun k => o (1 + (13 + k))) σ  hI) (cwV 0 hts gX7_gift_X4_isFull rfl rfl rfl vdX4_isFull ⟨Nat.le_of_ble_eq_true rfl, Nat.le_of_ble_eq_true rfl⟩) (oB.recv hK hQ.gio rfl) hQ.now.gi hK rfl hl.1 rfl dX7_gift_48 hcs (Nat.le_of_ble_eq_true rfl) ?_
            refine z_ifb_ne (pc := 51) (tgt := 67) E dX7_gift_51 (by decide) (fun h51 => ?_) (fun h51 => ?_)
            · exact z_thrW_xS (pc := 67) (rest := []) (is := 345) (text := "the gift is refused") E hst0 hown (hts _ (List.mem_of_getElem? (i := 3) rfl)) (hts _ (List.mem_of_getElem? (i := 4) rfl)) (fun w h => hts w (List.mem_cons_of_mem _ (List.mem_append_right _ (h)))) hX (List.mem_of_getElem? (i := 15) rfl) (hl.1.trans hml.symm) dX7_gift_67 dX7_gift_70 dX7_gift_71 dX7_gift_74 dX7_gift_77 htab (Nat.le_of_ble_eq_true rfl) (Nat.le_of_ble_eq_true rfl) (Nat.le_of_ble_eq_true rfl) (Nat.le_of_ble_eq_true rfl) hlocks (by rw [show (kxGift σ a t b d) = 2 by (unfold kxGift; (repeat' split) <;> first | rfl | omega | (exfalso; omega) | contradiction | grind)]; rfl)
            · refine lv_aload_n (pc := 54) E.1 E.2 dX7_gift_54 rfl (lv_at hl 0 rfl) ?_
              refine g7_0 (pc := 55) E hts hin7 hown hK hQ.ob (hts _ (List.mem_of_getElem? (i := 5) rfl)) dX7_gift_55 ?_
              refine lv_iload_n (pc := 58) E.1 E.2 dX7_gift_58 rfl (lv_at hl 1 rfl) ?_
              refine lv_iload_n (pc := 59) E.1 E.2 dX7_gift_59 rfl (lv_at hl 2 rfl) ?_
              refine lv_iload_n (pc := 60) E.1 E.2 dX7_gift_60 rfl (lv_at hl 3 rfl) ?_
              refine z_rVi (pc := 61) (As := [.int (iI a), .int (iI t), .int (iI b)]) (rest := []) E hml hown hts (mX6_canGive lL G (fun k => o (1 + k)) σ a t b hI (by omega) (by omega) (by omega)) (cwV 3 hts gX7_gift_X6_canGive rfl rfl rfl vdX6_canGive ⟨Nat.le_of_ble_eq_true rfl, Nat.le_of_ble_eq_true rfl⟩) (oB.recv hK hQ.nob rfl) hQ.now hK rfl hl.1 rfl dX7_gift_61 hcs (Nat.le_of_ble_eq_true rfl) ?_
              refine z_ifb_ne (pc := 64) (tgt := 78) E dX7_gift_64 (by decide) (fun h64 => ?_) (fun h64 => ?_)
              · refine lv_aload_n (pc := 78) E.1 E.2 dX7_gift_78 rfl (lv_at hl 0 rfl) ?_
                exact absurd (show (kxGift σ a t b d) = 0 by (unfold kxGift; (repeat' split) <;> first | rfl | omega | (exfalso; omega) | contradiction | grind)) hbad
              · exact z_thrW_xS (pc := 67) (rest := []) (is := 345) (text := "the gift is refused") E hst0 hown (hts _ (List.mem_of_getElem? (i := 3) rfl)) (hts _ (List.mem_of_getElem? (i := 4) rfl)) (fun w h => hts w (List.mem_cons_of_mem _ (List.mem_append_right _ (h)))) hX (List.mem_of_getElem? (i := 15) rfl) (hl.1.trans hml.symm) dX7_gift_67 dX7_gift_70 dX7_gift_71 dX7_gift_74 dX7_gift_77 htab (Nat.le_of_ble_eq_true rfl) (Nat.le_of_ble_eq_true rfl) (Nat.le_of_ble_eq_true rfl) (Nat.le_of_ble_eq_true rfl) hlocks (by rw [show (kxGift σ a t b d) = 2 by (unfold kxGift; (repeat' split) <;> first | rfl | omega | (exfalso; omega) | contradiction | grind)]; rfl)
          · exact z_thrW_xA (pc := 30) (rest := []) (is := 338) (text := "both projects are the same") E hst0 hown (hts _ (List.mem_of_getElem? (i := 1) rfl)) (hts _ (List.mem_of_getElem? (i := 2) rfl)) (fun w h => hts w (List.mem_cons_of_mem _ (List.mem_append_left _ (List.mem_append_right _ (h))))) hX (List.mem_of_getElem? (i := 14) rfl) (hl.1.trans hml.symm) dX7_gift_30 dX7_gift_33 dX7_gift_34 dX7_gift_37 dX7_gift_40 htab (Nat.le_of_ble_eq_true rfl) (Nat.le_of_ble_eq_true rfl) (Nat.le_of_ble_eq_true rfl) (Nat.le_of_ble_eq_true rfl) hlocks (by rw [show (kxGift σ a t b d) = 1 by (unfold kxGift; (repeat' split) <;> first | rfl | omega | (exfalso; omega) | contradiction | grind)]; rfl)
        exact z_badS (pc := 22) (P := fun _ => True) (As := [.int (iI d), .int (iI 1), .int (iI 999)]) (rest := []) E hml hown hts (mxX7_needRange lL hst0 G d 1 999 (by omega) (by omega) (by omega) hc22) (va_cwS 3 hts gX7_gift_X7_needRange rfl rfl rfl vdX7_needRange.2 ⟨Nat.le_of_ble_eq_true rfl, Nat.le_of_ble_eq_true rfl⟩) trivial hK hX rfl hl.1 rfl dX7_gift_22 ⟨Nat.le_of_ble_eq_true rfl, Nat.le_of_ble_eq_true rfl⟩ (Nat.le_of_ble_eq_true rfl) (by rw [show (kxGift σ a t b d) = 1 by (unfold kxGift; (repeat' split) <;> first | rfl | omega | (exfalso; omega) | contradiction | grind)]; rfl) htab hlocks
      exact z_badS (pc := 13) (P := fun _ => True) (As := [.int (iI b), .int (iI 1), .int (iI 9999)]) (rest := []) E hml hown hts (mxX7_needRange lL hst0 G b 1 9999 (by omega) (by omega) (by omega) hc13) (va_cwS 3 hts gX7_gift_X7_needRange rfl rfl rfl vdX7_needRange.2 ⟨Nat.le_of_ble_eq_true rfl, Nat.le_of_ble_eq_true rfl⟩) trivial hK hX rfl hl.1 rfl dX7_gift_13 ⟨Nat.le_of_ble_eq_true rfl, Nat.le_of_ble_eq_true rfl⟩ (Nat.le_of_ble_eq_true rfl) (by rw [show (kxGift σ a t b d) = 1 by (unfold kxGift; (repeat' split) <;> first | rfl | omega | (exfalso; omega) | contradiction | grind)]; rfl) htab hlocks
    exact z_badS (pc := 5) (P := fun _ => True) (As := [.int (iI t)]) (rest := []) E hml hown hts (mxX7_needProject lL hst0 G t (by omega) hc5) (va_cwS 1 hts gX7_gift_X7_needProject rfl rfl rfl vdX7_needProject.2 ⟨Nat.le_of_ble_eq_true rfl, Nat.le_of_ble_eq_true rfl⟩) trivial hK hX rfl hl.1 rfl dX7_gift_5 ⟨Nat.le_of_ble_eq_true rfl, Nat.le_of_ble_eq_true rfl⟩ (Nat.le_of_ble_eq_true rfl) (by rw [show (kxGift σ a t b d) = 1 by (unfold kxGift; (repeat' split) <;> first | rfl | omega | (exfalso; omega) | contradiction | grind)]; rfl) htab hlocks
  exact z_badS (pc := 1) (P := fun _ => True) (As := [.int (iI a)]) (rest := []) E hml hown hts (mxX7_needProject lL hst0 G a (by omega) hc1) (va_cwS 1 hts gX7_gift_X7_needProject rfl rfl rfl vdX7_needProject.2 ⟨Nat.le_of_ble_eq_true rfl, Nat.le_of_ble_eq_true rfl⟩) trivial hK hX rfl hl.1 rfl dX7_gift_1 ⟨Nat.le_of_ble_eq_true rfl, Nat.le_of_ble_eq_true rfl⟩ (Nat.le_of_ble_eq_true rfl) (by rw [show (kxGift σ a t b d) = 1 by (unfold kxGift; (repeat' split) <;> first | rfl | omega | (exfalso; omega) | contradiction | grind)]; rfl) htab hlocks
set_option maxHeartbeats 1000000 in
set_option maxRecDepth 100000 in
theorem mX7_gift (lL : Launch) (G : GG) (o : Nat → Nat) (ν σ : Int → Int) (π : Nat → Int → Int) (δ τ ω : Int → Int) (a : Int) (t : Int) (b : Int) (d : Int) (hI : In σ) (ha : -2147483648 ≤ a ∧ a < 2147483648) (ht : -2147483648 ≤ t ∧ t < 2147483648) (hb : -2147483648 ≤ b ∧ b < 2147483648) (hd : -2147483648 ≤ d ∧ d < 2147483648) (hok : (kxGift σ a t b d) = 0) (hc : 0 ≤ ν 2 ∧ ν 2 ≤ 1000000) (hu : 0 ≤ ν 3 ∧ ν 3 ≤ 8) : Met lL yX7_gift wsX7_gift ({ frames := 4, cells := 0, slots := 0, locals := 153 } : Room) (va_Pc [.ref (o 0), .int (iI a), .int (iI t), .int (iI b), .int (iI d)] (fun U => QT G o ν σ π δ τ ω U.heap ∧ KK G U)) (va_Qi (fun r (_ : Unit) => r = (iI (σ 4))) (fun _ tZ => QT G o (zu (zu ν 2 (ν 2 + 1)) 3 (min (ν 3 + 1) 8)) (nxGift σ a t b d) (pU π (ν 2 % 8) σ) δ τ ω tZ.heap) (Ax o 187)) 0 0 (Ax o 187) := by
  refine z_met (P := (fun H : Heap => QT G o ν σ π δ τ ω H)) (by decide) rfl (Nat.le_of_ble_eq_true rfl) (fun pp ee ss mm below meth cC E hr hml hown hts hlocks hQ hK ls hl => ?_)
  have hl : lv_has ls 5 [(0, .ref (o 0)), (1, .int (iI a)), (2, .int (iI t)), (3, .int (iI b)), (4, .int (iI d))] := hl
  have hcs : 0 ≤ (({ frames := 4, cells := 0, slots := 0, locals := 153 } : Room)).cells ∧ 0 ≤ (({ frames := 4, cells := 0, slots := 0, locals := 153 } : Room)).slots := ⟨Nat.zero_le _, Nat.zero_le _⟩
  have hS : va_S (Ax o 187) ss.heap ss.heap [] := va_S.rf
  have hin4 : ∀ w ∈ wsX40, w ∈ wsX7_gift := fun w h => List.mem_cons_of_mem _ (List.mem_append_left _ (List.mem_append_left _ (List.mem_append_left _ (List.mem_append_left _ (List.mem_append_left _ (List.mem_append_right _ (h)))))))
  have hin6 : ∀ w ∈ wsX60, w ∈ wsX7_gift := fun w h => List.mem_cons_of_mem _ (List.mem_append_left _ (List.mem_append_left _ (List.mem_append_left _ (List.mem_append_left _ (List.mem_append_left _ (List.mem_append_left _ (List.mem_append_right _ (h))))))))
  have hin7 : ∀ w ∈ wsX70, w ∈ wsX7_gift := fun w h => List.mem_cons_of_mem _ (List.mem_append_left _ (List.mem_append_left _ (List.mem_append_left _ (List.mem_append_left _ (List.mem_append_left _ (List.mem_append_left _ (List.mem_append_left _ (List.mem_append_right _ (h)))))))))
  have hF := hI.F
  have hMm := hI.M
  have hGn := hI.Gn
  have hTi := hI.ti
  have hGr := hI.gr
  have hoc := kxGift_ok hok
  have hnr := rf_cg hI hoc.2.2.2.2.2
  refine lv_iload_n (pc := 0) E.1 E.2 dX7_gift_0 rfl (lv_at hl 1 rfl) ?_
  refine z_rSv (pc := 1) (P := fun _ => True) (As := [.int (iI a)]) (rest := []) E hml hown hts (mX7_needProject lL G a (by omega) (by omega)) (va_cwS 1 hts gX7_gift_X7_needProject rfl rfl rfl vdX7_needProject.2 ⟨Nat.le_of_ble_eq_true rfl, Nat.le_of_ble_eq_true rfl⟩) trivial hK rfl hl.1 rfl dX7_gift_1 hcs (Nat.le_of_ble_eq_true rfl) ?_
  refine lv_iload_n (pc := 4) E.1 E.2 dX7_gift_4 rfl (lv_at hl 2 rfl) ?_
  refine z_rSv (pc := 5) (P := fun _ => True) (As := [.int (iI t)]) (rest := []) E hml hown hts (mX7_needProject lL G t (by omega) (by omega)) (va_cwS 1 hts gX7_gift_X7_needProject rfl rfl rfl vdX7_needProject.2 ⟨Nat.le_of_ble_eq_true rfl, Nat.le_of_ble_eq_true rfl⟩) trivial hK rfl hl.1 rfl dX7_gift_5 hcs (Nat.le_of_ble_eq_true rfl) ?_
  refine lv_iload_n (pc := 8) E.1 E.2 dX7_gift_8 rfl (lv_at hl 3 rfl) ?_
  refine z_iconst (pc := 9) E dX7_gift_9 ?_
  refine z_sipush (pc := 10) E (by decide) dX7_gift_10 ?_
  refine z_rSv (pc := 13) (P := fun _ => True) (As := [.int (iI b), .int (iI 1), .int (iI 9999)]) (rest := []) E hml hown hts (mX7_needRange lL G b 1 9999 (by omega) (by omega) (by omega) (by omega)) (va_cwS 3 hts gX7_gift_X7_needRange rfl rfl rfl vdX7_needRange.2 ⟨Nat.le_of_ble_eq_true rfl, Nat.le_of_ble_eq_true rfl⟩) trivial hK rfl hl.1 rfl dX7_gift_13 hcs (Nat.le_of_ble_eq_true rfl) ?_
  refine lv_iload (pc := 16) E.1 E.2 dX7_gift_16 (lv_at hl 4 rfl) ?_
  refine z_iconst (pc := 18) E dX7_gift_18 ?_
  refine z_sipush (pc := 19) E (by decide) dX7_gift_19 ?_
  refine z_rSv (pc := 22) (P := fun _ => True) (As := [.int (iI d), .int (iI 1), .int (iI 999)]) (rest := []) E hml hown hts (mX7_needRange lL G d 1 999 (by omega) (by omega) (by omega) (by omega)) (va_cwS 3 hts gX7_gift_X7_needRange rfl rfl rfl vdX7_needRange.2 ⟨Nat.le_of_ble_eq_true rfl, Nat.le_of_ble_eq_true rfl⟩) trivial hK rfl hl.1 rfl dX7_gift_22 hcs (Nat.le_of_ble_eq_true rfl) ?_
  refine lv_iload_n (pc := 25) E.1 E.2 dX7_gift_25 rfl (lv_at hl 1 rfl) ?_
  refine lv_iload_n (pc := 26) E.1 E.2 dX7_gift_26 rfl (lv_at hl 2 rfl) ?_
  refine z_icmp_ne (pc := 27) (tgt := 41) E ⟨by omega, by omega⟩ ⟨by omega, by omega⟩ dX7_gift_27 (by decide) (fun h27 => ?_) (fun h27 => ?_)
  · refine lv_aload_n (pc := 41) E.1 E.2 dX7_gift_41 rfl (lv_at hl 0 rfl) ?_
    refine g7_0 (pc := 42) E hts hin7 hown hK hQ.ob (hts _ (List.mem_of_getElem? (i := 5) rfl)) dX7_gift_42 ?_
    refine g6_3 (pc := 45) E hts hin6 hown hK hQ.nob (hts _ (List.mem_of_getElem? (i := 6) rfl)) dX7_gift_45 ?_
    refine z_rVi (pc := 48) (As := []) (rest := []) E hml hown hts (mX4_isFull lL G (fun k => o (1 + (13 + k))) σ  hI) (cwV 0 hts gX7_gift_X4_isFull rfl rfl rfl vdX4_isFull ⟨Nat.le_of_ble_eq_true rfl, Nat.le_of_ble_eq_true rfl⟩) (oB.recv hK hQ.gio rfl) hQ.now.gi hK rfl hl.1 rfl dX7_gift_48 hcs (Nat.le_of_ble_eq_true rfl) ?_
    refine z_ifb_ne (pc := 51) (tgt := 67) E dX7_gift_51 (by decide) (fun h51 => ?_) (fun h51 => ?_)
    · exact absurd hok (by unfold kxGift; (repeat' split) <;> first | decide | omega | (exfalso; omega) | grind)
    · refine lv_aload_n (pc := 54) E.1 E.2 dX7_gift_54 rfl (lv_at hl 0 rfl) ?_
      refine g7_0 (pc := 55) E hts hin7 hown hK hQ.ob (hts _ (List.mem_of_getElem? (i := 5) rfl)) dX7_gift_55 ?_
      refine lv_iload_n (pc := 58) E.1 E.2 dX7_gift_58 rfl (lv_at hl 1 rfl) ?_
      refine lv_iload_n (pc := 59) E.1 E.2 dX7_gift_59 rfl (lv_at hl 2 rfl) ?_
      refine lv_iload_n (pc := 60) E.1 E.2 dX7_gift_60 rfl (lv_at hl 3 rfl) ?_
      refine z_rVi (pc := 61) (As := [.int (iI a), .int (iI t), .int (iI b)]) (rest := []) E hml hown hts (mX6_canGive lL G (fun k => o (1 + k)) σ a t b hI (by omega) (by omega) (by omega)) (cwV 3 hts gX7_gift_X6_canGive rfl rfl rfl vdX6_canGive ⟨Nat.le_of_ble_eq_true rfl, Nat.le_of_ble_eq_true rfl⟩) (oB.recv hK hQ.nob rfl) hQ.now hK rfl hl.1 rfl dX7_gift_61 hcs (Nat.le_of_ble_eq_true rfl) ?_
      refine z_ifb_ne (pc := 64) (tgt := 78) E dX7_gift_64 (by decide) (fun h64 => ?_) (fun h64 => ?_)
      · refine lv_aload_n (pc := 78) E.1 E.2 dX7_gift_78 rfl (lv_at hl 0 rfl) ?_
        refine z_wVv (pc := 79) (As := []) (rest := []) E hml hown hts (mX7_remember lL G o ν σ π δ τ ω  hI hc hu) (cwV 0 hts gX7_gift_X7_remember rfl rfl rfl vdX7_remember ⟨Nat.le_of_ble_eq_true rfl, Nat.le_of_ble_eq_true rfl⟩) (oB.recv hK hQ.ob rfl) hQ hK hS (fun _ h => h) rfl hl.1 rfl dX7_gift_79 hcs (Nat.le_of_ble_eq_true rfl) (fun H locs hnew hsz hoth hS => ?_)
        have hQ : QT G o (zu (zu ν 2 ((ν 2) + 1)) 3 (min ((ν 3) + 1) 8)) σ (pU π ((ν 2) % 8) σ) δ τ ω H := hnew
        refine lv_aload_n (pc := 82) E.1 E.2 dX7_gift_82 rfl (lv_at hl 0 rfl) ?_
        refine g7_0 (pc := 83) E hts hin7 hown hK hQ.ob (hts _ (List.mem_of_getElem? (i := 5) rfl)) dX7_gift_83 ?_
        refine g6_3 (pc := 86) E hts hin6 hown hK hQ.nob (hts _ (List.mem_of_getElem? (i := 6) rfl)) dX7_gift_86 ?_
        refine lv_iload_n (pc := 89) E.1 E.2 dX7_gift_89 rfl (lv_at hl 1 rfl) ?_
        refine lv_iload_n (pc := 90) E.1 E.2 dX7_gift_90 rfl (lv_at hl 2 rfl) ?_
        refine lv_iload_n (pc := 91) E.1 E.2 dX7_gift_91 rfl (lv_at hl 3 rfl) ?_
        refine lv_aload_n (pc := 92) E.1 E.2 dX7_gift_92 rfl (lv_at hl 0 rfl) ?_
        refine g7_0 (pc := 93) E hts hin7 hown hK hQ.ob (hts _ (List.mem_of_getElem? (i := 5) rfl)) dX7_gift_93 ?_
        refine g6_4 (pc := 96) E hts hin6 hown hK hQ.nob (hts _ (List.mem_of_getElem? (i := 7) rfl)) dX7_gift_96 ?_
        refine lv_iload (pc := 99) E.1 E.2 dX7_gift_99 (lv_at hl 4 rfl) ?_
        refine z_iadd (pc := 101) E dX7_gift_101 ?_
        refine z_wVv (pc := 102) (As := [.int (iI a), .int (iI t), .int (iI b), .int (iI ((σ 0) + d))]) (rest := []) E hml hown hts (mX4_add lL G (fun k => o (1 + (13 + k))) σ a t b ((σ 0) + d) hI (by omega)) (cwV 4 hts gX7_gift_X4_add rfl rfl rfl vdX4_add ⟨Nat.le_of_ble_eq_true rfl, Nat.le_of_ble_eq_true rfl⟩) (oB.recv hK hQ.gio rfl) hQ.now.gi hK hS (Aq.up2 (by decide)) rfl hl.1 rfl dX7_gift_102 hcs (Nat.le_of_ble_eq_true rfl) (fun H locs hnew hsz hoth hS => ?_)
        have hQ := QT.upN hQ (ST.upGI hQ.now hnew (fun q h1 h2 => hoth q h1 h2) (fun j hj => gaA_n hI (by omega) (by omega)) (by first | omega | (rw [zu_n _ _ (by omega)]; omega)) (by first | omega | (rw [zu_n _ _ (by omega)]; omega))) (fun q h1 h2 => hoth q h1 (fun z => h2 (Aq.in 1 13 18 5 (by decide) q z)))
        refine lv_aload_n (pc := 105) E.1 E.2 dX7_gift_105 rfl (lv_at hl 0 rfl) ?_
        refine g7_0 (pc := 106) E hts hin7 hown hK hQ.ob (hts _ (List.mem_of_getElem? (i := 5) rfl)) dX7_gift_106 ?_
        refine z_wVv (pc := 109) (As := []) (rest := []) E hml hown hts (mX6_setClocks lL G (fun k => o (1 + k)) (gaA σ a t b ((σ 0) + d))  (hI.gaAI (by omega) (by omega) (by omega) (by omega) (by omega))) (cwV 0 hts gX7_gift_X6_setClocks rfl rfl rfl vdX6_setClocks ⟨Nat.le_of_ble_eq_true rfl, Nat.le_of_ble_eq_true rfl⟩) (oB.recv hK hQ.nob rfl) hQ.now hK hS (Aq.up (by decide)) rfl hl.1 rfl dX7_gift_109 hcs (Nat.le_of_ble_eq_true rfl) (fun H locs hnew hsz hoth hS => ?_)
        have hQ := QT.upN hQ hnew (fun q h1 h2 => hoth q h1 h2)
        refine lv_aload_n (pc := 112) E.1 E.2 dX7_gift_112 rfl (lv_at hl 0 rfl) ?_
        refine g7_0 (pc := 113) E hts hin7 hown hK hQ.ob (hts _ (List.mem_of_getElem? (i := 5) rfl)) dX7_gift_113 ?_
        refine g6_3 (pc := 116) E hts hin6 hown hK hQ.nob (hts _ (List.mem_of_getElem? (i := 6) rfl)) dX7_gift_116 ?_
        refine g4_4 (pc := 119) E hts hin4 hown hK hQ.gio (hts _ (List.mem_of_getElem? (i := 8) rfl)) dX7_gift_119 ?_
        rw [show ((scA (gaA σ a t b ((σ 0) + d)) 16) 4) = (σ 4 + 1) from (by rw [scA_n _ _ (by omega)]; exact zu_s _ _ _)]
        refine z_iconst (pc := 122) E dX7_gift_122 ?_
        refine z_isub (pc := 123) E dX7_gift_123 ?_
        exact z_retWi E hr (congrArg iI (by omega)) hQ hS hlocks dX7_gift_124
      · exact absurd hok (by unfold kxGift; (repeat' split) <;> first | decide | omega | (exfalso; omega) | grind)
  · exact absurd hok (by unfold kxGift; (repeat' split) <;> first | decide | omega | (exfalso; omega) | grind)
set_option maxHeartbeats 1000000 in
set_option maxRecDepth 100000 in
theorem mxX7_endGift (lL : Launch) (hst0 : lL.stackTraces = false) (G : GG) (o : Nat → Nat) (ν σ : Int → Int) (π : Nat → Int → Int) (δ τ ω : Int → Int) (g : Int) (hI : In σ) (hg : -2147483648 ≤ g ∧ g < 2147483648) (hbad : ¬ ((kxGi σ g) = 0)) : vx_Met lL yX7_endGift wsX7_endGift ({ frames := 7, cells := 1, slots := 6, locals := 153 } : Room) (va_Pc [.ref (o 0), .int (iI g)] (fun U => QT G o ν σ π δ τ ω U.heap ∧ KK G U ∧ KX FF0 U U.heap)) (fun _ _ _ _ => False) (XCe (exq xI xI xI (kxGi σ g))) 1 6 FF0 := by
  refine z_metX (P := (fun H : Heap => QT G o ν σ π δ τ ω H)) (by decide) rfl (Nat.le_of_ble_eq_true rfl) (fun pp ee ss mm below meth cC E hml hown hts hlocks htab hQ hK hX ls hl => ?_)
  have hl : lv_has ls 2 [(0, .ref (o 0)), (1, .int (iI g))] := hl
  have hcs : 0 ≤ (({ frames := 7, cells := 1, slots := 6, locals := 153 } : Room)).cells ∧ 0 ≤ (({ frames := 7, cells := 1, slots := 6, locals := 153 } : Room)).slots := ⟨Nat.zero_le _, Nat.zero_le _⟩
  have hF := hI.F
  have hMm := hI.M
  have hGn := hI.Gn
  have hTi := hI.ti
  have hGr := hI.gr
  refine lv_aload_n (pc := 0) E.1 E.2 dX7_endGift_0 rfl (lv_at hl 0 rfl) ?_
  refine lv_iload_n (pc := 1) E.1 E.2 dX7_endGift_1 rfl (lv_at hl 1 rfl) ?_
  by_cases hc2 : 0 ≤ g ∧ g < σ 4
  · refine z_rVv (pc := 2) (As := [.int (iI g)]) (rest := []) E hml hown hts (mX7_needGift lL G o ν σ π δ τ ω g hI (by omega) (by omega)) (cwV 1 hts gX7_endGift_X7_needGift rfl rfl rfl vdX7_needGift ⟨Nat.le_of_ble_eq_true rfl, Nat.le_of_ble_eq_true rfl⟩) (oB.recv hK hQ.ob rfl) hQ hK rfl hl.1 rfl dX7_endGift_2 hcs (Nat.le_of_ble_eq_true rfl) ?_
    refine lv_aload_n (pc := 5) E.1 E.2 dX7_endGift_5 rfl (lv_at hl 0 rfl) ?_
    exact absurd (show (kxGi σ g) = 0 by (unfold kxGi; (repeat' split) <;> first | rfl | omega | (exfalso; omega) | contradiction | grind)) hbad
  exact z_badV (pc := 2) (As := [.int (iI g)]) (rest := []) E hml hown hts (mxX7_needGift lL hst0 G o ν σ π δ τ ω g hI (by omega) hc2) (cwV 1 hts gX7_endGift_X7_needGift rfl rfl rfl vdX7_needGift ⟨Nat.le_of_ble_eq_true rfl, Nat.le_of_ble_eq_true rfl⟩) (oB.recv hK hQ.ob rfl) hQ hK hX rfl hl.1 rfl dX7_endGift_2 ⟨Nat.le_of_ble_eq_true rfl, Nat.le_of_ble_eq_true rfl⟩ (Nat.le_of_ble_eq_true rfl) (by rw [show (kxGi σ g) = 1 by (unfold kxGi; (repeat' split) <;> first | rfl | omega | (exfalso; omega) | contradiction | grind)]; rfl) htab hlocks
set_option maxHeartbeats 1000000 in
set_option maxRecDepth 100000 in
theorem mX7_endGift (lL : Launch) (G : GG) (o : Nat → Nat) (ν σ : Int → Int) (π : Nat → Int → Int) (δ τ ω : Int → Int) (g : Int) (hI : In σ) (hg : -2147483648 ≤ g ∧ g < 2147483648) (hok : (kxGi σ g) = 0) (hc : 0 ≤ ν 2 ∧ ν 2 ≤ 1000000) (hu : 0 ≤ ν 3 ∧ ν 3 ≤ 8) : Met lL yX7_endGift wsX7_endGift ({ frames := 4, cells := 0, slots := 0, locals := 153 } : Room) (va_Pc [.ref (o 0), .int (iI g)] (fun U => QT G o ν σ π δ τ ω U.heap ∧ KK G U)) (va_Qi (fun r (_ : Unit) => r = (iI (σ 4 - 1))) (fun _ tZ => QT G o (zu (zu ν 2 (ν 2 + 1)) 3 (min (ν 3 + 1) 8)) (nxEndG σ g) (pU π (ν 2 % 8) σ) δ τ ω tZ.heap) (Ax o 187)) 0 0 (Ax o 187) := by
  refine z_met (P := (fun H : Heap => QT G o ν σ π δ τ ω H)) (by decide) rfl (Nat.le_of_ble_eq_true rfl) (fun pp ee ss mm below meth cC E hr hml hown hts hlocks hQ hK ls hl => ?_)
  have hl : lv_has ls 2 [(0, .ref (o 0)), (1, .int (iI g))] := hl
  have hcs : 0 ≤ (({ frames := 4, cells := 0, slots := 0, locals := 153 } : Room)).cells ∧ 0 ≤ (({ frames := 4, cells := 0, slots := 0, locals := 153 } : Room)).slots := ⟨Nat.zero_le _, Nat.zero_le _⟩
  have hS : va_S (Ax o 187) ss.heap ss.heap [] := va_S.rf
  have hin4 : ∀ w ∈ wsX40, w ∈ wsX7_endGift := fun w h => List.mem_cons_of_mem _ (List.mem_append_left _ (List.mem_append_left _ (List.mem_append_left _ (List.mem_append_left _ (List.mem_append_right _ (h))))))
  have hin6 : ∀ w ∈ wsX60, w ∈ wsX7_endGift := fun w h => List.mem_cons_of_mem _ (List.mem_append_left _ (List.mem_append_left _ (List.mem_append_left _ (List.mem_append_left _ (List.mem_append_left _ (List.mem_append_right _ (h)))))))
  have hin7 : ∀ w ∈ wsX70, w ∈ wsX7_endGift := fun w h => List.mem_cons_of_mem _ (List.mem_append_left _ (List.mem_append_left _ (List.mem_append_left _ (List.mem_append_left _ (List.mem_append_left _ (List.mem_append_left _ (List.mem_append_right _ (h))))))))
  have hF := hI.F
  have hMm := hI.M
  have hGn := hI.Gn
  have hTi := hI.ti
  have hGr := hI.gr
  have hoc := kxGi_ok hok
  refine lv_aload_n (pc := 0) E.1 E.2 dX7_endGift_0 rfl (lv_at hl 0 rfl) ?_
  refine lv_iload_n (pc := 1) E.1 E.2 dX7_endGift_1 rfl (lv_at hl 1 rfl) ?_
  refine z_rVv (pc := 2) (As := [.int (iI g)]) (rest := []) E hml hown hts (mX7_needGift lL G o ν σ π δ τ ω g hI (by omega) (by omega)) (cwV 1 hts gX7_endGift_X7_needGift rfl rfl rfl vdX7_needGift ⟨Nat.le_of_ble_eq_true rfl, Nat.le_of_ble_eq_true rfl⟩) (oB.recv hK hQ.ob rfl) hQ hK rfl hl.1 rfl dX7_endGift_2 hcs (Nat.le_of_ble_eq_true rfl) ?_
  refine lv_aload_n (pc := 5) E.1 E.2 dX7_endGift_5 rfl (lv_at hl 0 rfl) ?_
  refine z_wVv (pc := 6) (As := []) (rest := []) E hml hown hts (mX7_remember lL G o ν σ π δ τ ω  hI hc hu) (cwV 0 hts gX7_endGift_X7_remember rfl rfl rfl vdX7_remember ⟨Nat.le_of_ble_eq_true rfl, Nat.le_of_ble_eq_true rfl⟩) (oB.recv hK hQ.ob rfl) hQ hK hS (fun _ h => h) rfl hl.1 rfl dX7_endGift_6 hcs (Nat.le_of_ble_eq_true rfl) (fun H locs hnew hsz hoth hS => ?_)
  have hQ : QT G o (zu (zu ν 2 ((ν 2) + 1)) 3 (min ((ν 3) + 1) 8)) σ (pU π ((ν 2) % 8) σ) δ τ ω H := hnew
  refine lv_aload_n (pc := 9) E.1 E.2 dX7_endGift_9 rfl (lv_at hl 0 rfl) ?_
  refine g7_0 (pc := 10) E hts hin7 hown hK hQ.ob (hts _ (List.mem_of_getElem? (i := 1) rfl)) dX7_endGift_10 ?_
  refine g6_3 (pc := 13) E hts hin6 hown hK hQ.nob (hts _ (List.mem_of_getElem? (i := 2) rfl)) dX7_endGift_13 ?_
  refine lv_iload_n (pc := 16) E.1 E.2 dX7_endGift_16 rfl (lv_at hl 1 rfl) ?_
  refine z_wVv (pc := 17) (As := [.int (iI g)]) (rest := []) E hml hown hts (mX4_removeAt lL G (fun k => o (1 + (13 + k))) σ g hI (by omega)) (cwV 1 hts gX7_endGift_X4_removeAt rfl rfl rfl vdX4_removeAt ⟨Nat.le_of_ble_eq_true rfl, Nat.le_of_ble_eq_true rfl⟩) (oB.recv hK hQ.gio rfl) hQ.now.gi hK hS (Aq.up2 (by decide)) rfl hl.1 rfl dX7_endGift_17 hcs (Nat.le_of_ble_eq_true rfl) (fun H locs hnew hsz hoth hS => ?_)
  have hQ := QT.upN hQ (ST.upGI hQ.now hnew (fun q h1 h2 => hoth q h1 h2) (fun j hj => dgF_n (by omega) (by omega)) (by first | omega | (rw [zu_n _ _ (by omega)]; omega)) (by first | omega | (rw [zu_n _ _ (by omega)]; omega))) (fun q h1 h2 => hoth q h1 (fun z => h2 (Aq.in 1 13 18 5 (by decide) q z)))
  refine lv_aload_n (pc := 20) E.1 E.2 dX7_endGift_20 rfl (lv_at hl 0 rfl) ?_
  refine g7_0 (pc := 21) E hts hin7 hown hK hQ.ob (hts _ (List.mem_of_getElem? (i := 1) rfl)) dX7_endGift_21 ?_
  refine z_wVv (pc := 24) (As := []) (rest := []) E hml hown hts (mX6_setClocks lL G (fun k => o (1 + k)) (dgF σ g)  (hI.dgFI (by omega))) (cwV 0 hts gX7_endGift_X6_setClocks rfl rfl rfl vdX6_setClocks ⟨Nat.le_of_ble_eq_true rfl, Nat.le_of_ble_eq_true rfl⟩) (oB.recv hK hQ.nob rfl) hQ.now hK hS (Aq.up (by decide)) rfl hl.1 rfl dX7_endGift_24 hcs (Nat.le_of_ble_eq_true rfl) (fun H locs hnew hsz hoth hS => ?_)
  have hQ := QT.upN hQ hnew (fun q h1 h2 => hoth q h1 h2)
  refine lv_aload_n (pc := 27) E.1 E.2 dX7_endGift_27 rfl (lv_at hl 0 rfl) ?_
  refine g7_0 (pc := 28) E hts hin7 hown hK hQ.ob (hts _ (List.mem_of_getElem? (i := 1) rfl)) dX7_endGift_28 ?_
  refine g6_3 (pc := 31) E hts hin6 hown hK hQ.nob (hts _ (List.mem_of_getElem? (i := 2) rfl)) dX7_endGift_31 ?_
  refine g4_4 (pc := 34) E hts hin4 hown hK hQ.gio (hts _ (List.mem_of_getElem? (i := 3) rfl)) dX7_endGift_34 ?_
  rw [show ((scA (dgF σ g) 16) 4) = (σ 4 - 1) from (by rw [scA_n _ _ (by omega)]; exact dg_4 σ g)]
  exact z_retWi E hr rfl hQ hS hlocks dX7_endGift_37
set_option maxHeartbeats 1000000 in
set_option maxRecDepth 100000 in
theorem mxX7_adjust (lL : Launch) (hst0 : lL.stackTraces = false) (G : GG) (o : Nat → Nat) (ν σ : Int → Int) (π : Nat → Int → Int) (δ τ ω : Int → Int) (p : Int) (k : Int) (b : Int) (hI : In σ) (hp : -2147483648 ≤ p ∧ p < 2147483648) (hk : -2147483648 ≤ k ∧ k < 2147483648) (hb : -2147483648 ≤ b ∧ b < 2147483648) (hbad : ¬ ((kxAdj σ p k b) = 0)) : vx_Met lL yX7_adjust wsX7_adjust ({ frames := 9, cells := 1, slots := 6, locals := 163 } : Room) (va_Pc [.ref (o 0), .int (iI p), .int (iI k), .int (iI b)] (fun U => QT G o ν σ π δ τ ω U.heap ∧ KK G U ∧ KX FF0 U U.heap)) (fun _ _ _ _ => False) (XCe (exq xA xS xI (kxAdj σ p k b))) 1 6 FF0 := by
  refine z_metX (P := (fun H : Heap => QT G o ν σ π δ τ ω H)) (by decide) rfl (Nat.le_of_ble_eq_true rfl) (fun pp ee ss mm below meth cC E hml hown hts hlocks htab hQ hK hX ls hl => ?_)
  have hl : lv_has ls 6 [(0, .ref (o 0)), (1, .int (iI p)), (2, .int (iI k)), (3, .int (iI b))] := hl
  have hcs : 0 ≤ (({ frames := 9, cells := 1, slots := 6, locals := 163 } : Room)).cells ∧ 0 ≤ (({ frames := 9, cells := 1, slots := 6, locals := 163 } : Room)).slots := ⟨Nat.zero_le _, Nat.zero_le _⟩
  have hin6 : ∀ w ∈ wsX60, w ∈ wsX7_adjust := fun w h => List.mem_cons_of_mem _ (List.mem_append_left _ (List.mem_append_left _ (List.mem_append_left _ (List.mem_append_left _ (List.mem_append_left _ (List.mem_append_left _ (List.mem_append_right _ (h))))))))
  have hin7 : ∀ w ∈ wsX70, w ∈ wsX7_adjust := fun w h => List.mem_cons_of_mem _ (List.mem_append_left _ (List.mem_append_left _ (List.mem_append_left _ (List.mem_append_left _ (List.mem_append_left _ (List.mem_append_left _ (List.mem_append_left _ (List.mem_append_right _ (h)))))))))
  have hF := hI.F
  have hMm := hI.M
  have hGn := hI.Gn
  have hTi := hI.ti
  have hGr := hI.gr
  refine lv_iload_n (pc := 0) E.1 E.2 dX7_adjust_0 rfl (lv_at hl 1 rfl) ?_
  refine lv_iload_n (pc := 1) E.1 E.2 dX7_adjust_1 rfl (lv_at hl 2 rfl) ?_
  by_cases hc2 : (0 ≤ p ∧ p ≤ 7) ∧ (0 ≤ k ∧ k ≤ 1)
  · refine z_rSv (pc := 2) (P := fun _ => True) (As := [.int (iI p), .int (iI k)]) (rest := []) E hml hown hts (mX7_needAccount lL G p k (by omega) (by omega) (by omega)) (va_cwS 2 hts gX7_adjust_X7_needAccount rfl rfl rfl vdX7_needAccount.2 ⟨Nat.le_of_ble_eq_true rfl, Nat.le_of_ble_eq_true rfl⟩) trivial hK rfl hl.1 rfl dX7_adjust_2 hcs (Nat.le_of_ble_eq_true rfl) ?_
    refine lv_iload_n (pc := 5) E.1 E.2 dX7_adjust_5 rfl (lv_at hl 3 rfl) ?_
    refine z_sipush (pc := 6) E (by decide) dX7_adjust_6 ?_
    refine z_sipush (pc := 9) E (by decide) dX7_adjust_9 ?_
    by_cases hc12 : (-9999) ≤ b ∧ b ≤ 9999
    · refine z_rSv (pc := 12) (P := fun _ => True) (As := [.int (iI b), .int (iI (-9999)), .int (iI 9999)]) (rest := []) E hml hown hts (mX7_needRange lL G b (-9999) 9999 (by omega) (by omega) (by omega) (by omega)) (va_cwS 3 hts gX7_adjust_X7_needRange rfl rfl rfl vdX7_needRange.2 ⟨Nat.le_of_ble_eq_true rfl, Nat.le_of_ble_eq_true rfl⟩) trivial hK rfl hl.1 rfl dX7_adjust_12 hcs (Nat.le_of_ble_eq_true rfl) ?_
      refine lv_iload_n (pc := 15) E.1 E.2 dX7_adjust_15 rfl (lv_at hl 1 rfl) ?_
      refine lv_iload_n (pc := 16) E.1 E.2 dX7_adjust_16 rfl (lv_at hl 2 rfl) ?_
      refine z_rSi (pc := 17) (P := fun _ => True) (As := [.int (iI p), .int (iI k)]) (rest := []) E hml hown hts (mX7_accountOf lL G p k) (va_cwS 2 hts gX7_adjust_X7_accountOf rfl rfl rfl vdX7_accountOf.2 ⟨Nat.le_of_ble_eq_true rfl, Nat.le_of_ble_eq_true rfl⟩) trivial hK rfl hl.1 rfl dX7_adjust_17 hcs (Nat.le_of_ble_eq_true rfl) ?_
      have hac := hI.acc (k := 2 * p + k) (by omega) (by omega)
      refine lv_istore (pc := 20) (lv' := [(4, .int (iI (2 * p + k))), (0, .ref (o 0)), (1, .int (iI p)), (2, .int (iI k)), (3, .int (iI b))]) E.1 E.2 dX7_adjust_20 hl (by decide) rfl (fun ls hl => ?_)
      refine lv_aload_n (pc := 22) E.1 E.2 dX7_adjust_22 rfl (lv_at hl 1 rfl) ?_
      refine g7_0 (pc := 23) E hts hin7 hown hK hQ.ob (hts _ (List.mem_of_getElem? (i := 3) rfl)) dX7_adjust_23 ?_
      refine g6_2 (pc := 26) E hts hin6 hown hK hQ.nob (hts _ (List.mem_of_getElem? (i := 4) rfl)) dX7_adjust_26 ?_
      refine lv_iload (pc := 29) E.1 E.2 dX7_adjust_29 (lv_at hl 0 rfl) ?_
      refine z_rVi (pc := 31) (As := [.int (iI (2 * p + k))]) (rest := []) E hml hown hts (mX0_amountOf lL G (fun k => o (1 + (8 + k))) σ (2 * p + k)  (by omega)) (cwV 1 hts gX7_adjust_X0_amountOf rfl rfl rfl vdX0_amountOf ⟨Nat.le_of_ble_eq_true rfl, Nat.le_of_ble_eq_true rfl⟩) (oB.recv hK hQ.aco rfl) hQ.now.ac hK rfl hl.1 rfl dX7_adjust_31 hcs (Nat.le_of_ble_eq_true rfl) ?_
      rw [show (if 0 ≤ (2 * p + k) ∧ (2 * p + k) < 16 then σ (37 + (2 * p + k)) else 0) = (σ (37 + (2 * p + k))) from (if_pos (by omega))]
      refine lv_iload_n (pc := 34) E.1 E.2 dX7_adjust_34 rfl (lv_at hl 4 rfl) ?_
      refine z_iadd (pc := 35) E dX7_adjust_35 ?_
      refine lv_istore (pc := 36) (lv' := [(5, .int (iI ((σ (37 + (2 * p + k))) + b))), (4, .int (iI (2 * p + k))), (0, .ref (o 0)), (1, .int (iI p)), (2, .int (iI k)), (3, .int (iI b))]) E.1 E.2 dX7_adjust_36 hl (by decide) rfl (fun ls hl => ?_)
      refine lv_iload (pc := 38) E.1 E.2 dX7_adjust_38 (lv_at hl 0 rfl) ?_
      refine z_if_lt (pc := 40) (tgt := 51) E ⟨by omega, by omega⟩ dX7_adjust_40 (by decide) (fun h40 => ?_) (fun h40 => ?_)
      · exact z_thrW_xS (pc := 51) (rest := []) (is := 368) (text := "the used amount would leave its range") E hst0 hown (hts _ (List.mem_of_getElem? (i := 1) rfl)) (hts _ (List.mem_of_getElem? (i := 2) rfl)) (fun w h => hts w (List.mem_cons_of_mem _ (List.mem_append_left _ (List.mem_append_right _ (h))))) hX (List.mem_of_getElem? (i := 17) rfl) (hl.1.trans hml.symm) dX7_adjust_51 dX7_adjust_54 dX7_adjust_55 dX7_adjust_58 dX7_adjust_61 htab (Nat.le_of_ble_eq_true rfl) (Nat.le_of_ble_eq_true rfl) (Nat.le_of_ble_eq_true rfl) (Nat.le_of_ble_eq_true rfl) hlocks (by rw [show (kxAdj σ p k b) = 2 by (unfold kxAdj; (repeat' split) <;> first | rfl | omega | (exfalso; omega) | contradiction | grind)]; rfl)
      · refine lv_iload (pc := 43) E.1 E.2 dX7_adjust_43 (lv_at hl 0 rfl) ?_
        refine lv_ldcw (pc := 45) (v := iI (999999)) E.1 E.2 hown (show (Jvm.Cond.constant RX7 367 (iI (999999))).before _ ss = true from (hts _ (List.mem_of_getElem? (i := 5) rfl))) dX7_adjust_45 ?_
        refine z_icmp_le (pc := 48) (tgt := 62) E ⟨by omega, by omega⟩ (by decide) dX7_adjust_48 (by decide) (fun h48 => ?_) (fun h48 => ?_)
        · refine lv_aload_n (pc := 62) E.1 E.2 dX7_adjust_62 rfl (lv_at hl 2 rfl) ?_
          exact absurd (show (kxAdj σ p k b) = 0 by (unfold kxAdj; (repeat' split) <;> first | rfl | omega | (exfalso; omega) | contradiction | grind)) hbad
        · exact z_thrW_xS (pc := 51) (rest := []) (is := 368) (text := "the used amount would leave its range") E hst0 hown (hts _ (List.mem_of_getElem? (i := 1) rfl)) (hts _ (List.mem_of_getElem? (i := 2) rfl)) (fun w h => hts w (List.mem_cons_of_mem _ (List.mem_append_left _ (List.mem_append_right _ (h))))) hX (List.mem_of_getElem? (i := 17) rfl) (hl.1.trans hml.symm) dX7_adjust_51 dX7_adjust_54 dX7_adjust_55 dX7_adjust_58 dX7_adjust_61 htab (Nat.le_of_ble_eq_true rfl) (Nat.le_of_ble_eq_true rfl) (Nat.le_of_ble_eq_true rfl) (Nat.le_of_ble_eq_true rfl) hlocks (by rw [show (kxAdj σ p k b) = 2 by (unfold kxAdj; (repeat' split) <;> first | rfl | omega | (exfalso; omega) | contradiction | grind)]; rfl)
    exact z_badS (pc := 12) (P := fun _ => True) (As := [.int (iI b), .int (iI (-9999)), .int (iI 9999)]) (rest := []) E hml hown hts (mxX7_needRange lL hst0 G b (-9999) 9999 (by omega) (by omega) (by omega) hc12) (va_cwS 3 hts gX7_adjust_X7_needRange rfl rfl rfl vdX7_needRange.2 ⟨Nat.le_of_ble_eq_true rfl, Nat.le_of_ble_eq_true rfl⟩) trivial hK hX rfl hl.1 rfl dX7_adjust_12 ⟨Nat.le_of_ble_eq_true rfl, Nat.le_of_ble_eq_true rfl⟩ (Nat.le_of_ble_eq_true rfl) (by rw [show (kxAdj σ p k b) = 1 by (unfold kxAdj; (repeat' split) <;> first | rfl | omega | (exfalso; omega) | contradiction | grind)]; rfl) htab hlocks
  exact z_badS (pc := 2) (P := fun _ => True) (As := [.int (iI p), .int (iI k)]) (rest := []) E hml hown hts (mxX7_needAccount lL hst0 G p k (by omega) (by omega) hc2) (va_cwS 2 hts gX7_adjust_X7_needAccount rfl rfl rfl vdX7_needAccount.2 ⟨Nat.le_of_ble_eq_true rfl, Nat.le_of_ble_eq_true rfl⟩) trivial hK hX rfl hl.1 rfl dX7_adjust_2 ⟨Nat.le_of_ble_eq_true rfl, Nat.le_of_ble_eq_true rfl⟩ (Nat.le_of_ble_eq_true rfl) (by rw [show (kxAdj σ p k b) = 1 by (unfold kxAdj; (repeat' split) <;> first | rfl | omega | (exfalso; omega) | contradiction | grind)]; rfl) htab hlocks
set_option maxHeartbeats 1000000 in
set_option maxRecDepth 100000 in
theorem mX7_adjust (lL : Launch) (G : GG) (o : Nat → Nat) (ν σ : Int → Int) (π : Nat → Int → Int) (δ τ ω : Int → Int) (p : Int) (k : Int) (b : Int) (hI : In σ) (hp : -2147483648 ≤ p ∧ p < 2147483648) (hk : -2147483648 ≤ k ∧ k < 2147483648) (hb : -2147483648 ≤ b ∧ b < 2147483648) (hok : (kxAdj σ p k b) = 0) (hc : 0 ≤ ν 2 ∧ ν 2 ≤ 1000000) (hu : 0 ≤ ν 3 ∧ ν 3 ≤ 8) : Met lL yX7_adjust wsX7_adjust ({ frames := 4, cells := 0, slots := 0, locals := 153 } : Room) (va_Pc [.ref (o 0), .int (iI p), .int (iI k), .int (iI b)] (fun U => QT G o ν σ π δ τ ω U.heap ∧ KK G U)) (va_Qi (fun r (_ : Unit) => r = (iI (σ (37 + (2 * p + k)) + b))) (fun _ tZ => QT G o (zu (zu ν 2 (ν 2 + 1)) 3 (min (ν 3 + 1) 8)) (nxAdj σ p k b) (pU π (ν 2 % 8) σ) δ τ ω tZ.heap) (Ax o 187)) 0 0 (Ax o 187) := by
  refine z_met (P := (fun H : Heap => QT G o ν σ π δ τ ω H)) (by decide) rfl (Nat.le_of_ble_eq_true rfl) (fun pp ee ss mm below meth cC E hr hml hown hts hlocks hQ hK ls hl => ?_)
  have hl : lv_has ls 6 [(0, .ref (o 0)), (1, .int (iI p)), (2, .int (iI k)), (3, .int (iI b))] := hl
  have hcs : 0 ≤ (({ frames := 4, cells := 0, slots := 0, locals := 153 } : Room)).cells ∧ 0 ≤ (({ frames := 4, cells := 0, slots := 0, locals := 153 } : Room)).slots := ⟨Nat.zero_le _, Nat.zero_le _⟩
  have hS : va_S (Ax o 187) ss.heap ss.heap [] := va_S.rf
  have hin6 : ∀ w ∈ wsX60, w ∈ wsX7_adjust := fun w h => List.mem_cons_of_mem _ (List.mem_append_left _ (List.mem_append_left _ (List.mem_append_left _ (List.mem_append_left _ (List.mem_append_left _ (List.mem_append_left _ (List.mem_append_right _ (h))))))))
  have hin7 : ∀ w ∈ wsX70, w ∈ wsX7_adjust := fun w h => List.mem_cons_of_mem _ (List.mem_append_left _ (List.mem_append_left _ (List.mem_append_left _ (List.mem_append_left _ (List.mem_append_left _ (List.mem_append_left _ (List.mem_append_left _ (List.mem_append_right _ (h)))))))))
  have hF := hI.F
  have hMm := hI.M
  have hGn := hI.Gn
  have hTi := hI.ti
  have hGr := hI.gr
  have hoc := kxAdj_ok hok
  refine lv_iload_n (pc := 0) E.1 E.2 dX7_adjust_0 rfl (lv_at hl 1 rfl) ?_
  refine lv_iload_n (pc := 1) E.1 E.2 dX7_adjust_1 rfl (lv_at hl 2 rfl) ?_
  refine z_rSv (pc := 2) (P := fun _ => True) (As := [.int (iI p), .int (iI k)]) (rest := []) E hml hown hts (mX7_needAccount lL G p k (by omega) (by omega) (by omega)) (va_cwS 2 hts gX7_adjust_X7_needAccount rfl rfl rfl vdX7_needAccount.2 ⟨Nat.le_of_ble_eq_true rfl, Nat.le_of_ble_eq_true rfl⟩) trivial hK rfl hl.1 rfl dX7_adjust_2 hcs (Nat.le_of_ble_eq_true rfl) ?_
  refine lv_iload_n (pc := 5) E.1 E.2 dX7_adjust_5 rfl (lv_at hl 3 rfl) ?_
  refine z_sipush (pc := 6) E (by decide) dX7_adjust_6 ?_
  refine z_sipush (pc := 9) E (by decide) dX7_adjust_9 ?_
  refine z_rSv (pc := 12) (P := fun _ => True) (As := [.int (iI b), .int (iI (-9999)), .int (iI 9999)]) (rest := []) E hml hown hts (mX7_needRange lL G b (-9999) 9999 (by omega) (by omega) (by omega) (by omega)) (va_cwS 3 hts gX7_adjust_X7_needRange rfl rfl rfl vdX7_needRange.2 ⟨Nat.le_of_ble_eq_true rfl, Nat.le_of_ble_eq_true rfl⟩) trivial hK rfl hl.1 rfl dX7_adjust_12 hcs (Nat.le_of_ble_eq_true rfl) ?_
  refine lv_iload_n (pc := 15) E.1 E.2 dX7_adjust_15 rfl (lv_at hl 1 rfl) ?_
  refine lv_iload_n (pc := 16) E.1 E.2 dX7_adjust_16 rfl (lv_at hl 2 rfl) ?_
  refine z_rSi (pc := 17) (P := fun _ => True) (As := [.int (iI p), .int (iI k)]) (rest := []) E hml hown hts (mX7_accountOf lL G p k) (va_cwS 2 hts gX7_adjust_X7_accountOf rfl rfl rfl vdX7_accountOf.2 ⟨Nat.le_of_ble_eq_true rfl, Nat.le_of_ble_eq_true rfl⟩) trivial hK rfl hl.1 rfl dX7_adjust_17 hcs (Nat.le_of_ble_eq_true rfl) ?_
  have hac := hI.acc (k := 2 * p + k) (by omega) (by omega)
  refine lv_istore (pc := 20) (lv' := [(4, .int (iI (2 * p + k))), (0, .ref (o 0)), (1, .int (iI p)), (2, .int (iI k)), (3, .int (iI b))]) E.1 E.2 dX7_adjust_20 hl (by decide) rfl (fun ls hl => ?_)
  refine lv_aload_n (pc := 22) E.1 E.2 dX7_adjust_22 rfl (lv_at hl 1 rfl) ?_
  refine g7_0 (pc := 23) E hts hin7 hown hK hQ.ob (hts _ (List.mem_of_getElem? (i := 3) rfl)) dX7_adjust_23 ?_
  refine g6_2 (pc := 26) E hts hin6 hown hK hQ.nob (hts _ (List.mem_of_getElem? (i := 4) rfl)) dX7_adjust_26 ?_
  refine lv_iload (pc := 29) E.1 E.2 dX7_adjust_29 (lv_at hl 0 rfl) ?_
  refine z_rVi (pc := 31) (As := [.int (iI (2 * p + k))]) (rest := []) E hml hown hts (mX0_amountOf lL G (fun k => o (1 + (8 + k))) σ (2 * p + k)  (by omega)) (cwV 1 hts gX7_adjust_X0_amountOf rfl rfl rfl vdX0_amountOf ⟨Nat.le_of_ble_eq_true rfl, Nat.le_of_ble_eq_true rfl⟩) (oB.recv hK hQ.aco rfl) hQ.now.ac hK rfl hl.1 rfl dX7_adjust_31 hcs (Nat.le_of_ble_eq_true rfl) ?_
  rw [show (if 0 ≤ (2 * p + k) ∧ (2 * p + k) < 16 then σ (37 + (2 * p + k)) else 0) = (σ (37 + (2 * p + k))) from (if_pos (by omega))]
  refine lv_iload_n (pc := 34) E.1 E.2 dX7_adjust_34 rfl (lv_at hl 4 rfl) ?_
  refine z_iadd (pc := 35) E dX7_adjust_35 ?_
  refine lv_istore (pc := 36) (lv' := [(5, .int (iI ((σ (37 + (2 * p + k))) + b))), (4, .int (iI (2 * p + k))), (0, .ref (o 0)), (1, .int (iI p)), (2, .int (iI k)), (3, .int (iI b))]) E.1 E.2 dX7_adjust_36 hl (by decide) rfl (fun ls hl => ?_)
  refine lv_iload (pc := 38) E.1 E.2 dX7_adjust_38 (lv_at hl 0 rfl) ?_
  refine z_if_lt (pc := 40) (tgt := 51) E ⟨by omega, by omega⟩ dX7_adjust_40 (by decide) (fun h40 => ?_) (fun h40 => ?_)
  · exact absurd hok (by unfold kxAdj; (repeat' split) <;> first | decide | omega | (exfalso; omega) | grind)
  · refine lv_iload (pc := 43) E.1 E.2 dX7_adjust_43 (lv_at hl 0 rfl) ?_
    refine lv_ldcw (pc := 45) (v := iI (999999)) E.1 E.2 hown (show (Jvm.Cond.constant RX7 367 (iI (999999))).before _ ss = true from (hts _ (List.mem_of_getElem? (i := 5) rfl))) dX7_adjust_45 ?_
    refine z_icmp_le (pc := 48) (tgt := 62) E ⟨by omega, by omega⟩ (by decide) dX7_adjust_48 (by decide) (fun h48 => ?_) (fun h48 => ?_)
    · refine lv_aload_n (pc := 62) E.1 E.2 dX7_adjust_62 rfl (lv_at hl 2 rfl) ?_
      refine z_wVv (pc := 63) (As := []) (rest := []) E hml hown hts (mX7_remember lL G o ν σ π δ τ ω  hI hc hu) (cwV 0 hts gX7_adjust_X7_remember rfl rfl rfl vdX7_remember ⟨Nat.le_of_ble_eq_true rfl, Nat.le_of_ble_eq_true rfl⟩) (oB.recv hK hQ.ob rfl) hQ hK hS (fun _ h => h) rfl hl.1 rfl dX7_adjust_63 hcs (Nat.le_of_ble_eq_true rfl) (fun H locs hnew hsz hoth hS => ?_)
      have hQ : QT G o (zu (zu ν 2 ((ν 2) + 1)) 3 (min ((ν 3) + 1) 8)) σ (pU π ((ν 2) % 8) σ) δ τ ω H := hnew
      refine lv_aload_n (pc := 66) E.1 E.2 dX7_adjust_66 rfl (lv_at hl 2 rfl) ?_
      refine g7_0 (pc := 67) E hts hin7 hown hK hQ.ob (hts _ (List.mem_of_getElem? (i := 3) rfl)) dX7_adjust_67 ?_
      refine g6_2 (pc := 70) E hts hin6 hown hK hQ.nob (hts _ (List.mem_of_getElem? (i := 4) rfl)) dX7_adjust_70 ?_
      refine lv_iload (pc := 73) E.1 E.2 dX7_adjust_73 (lv_at hl 1 rfl) ?_
      refine lv_iload (pc := 75) E.1 E.2 dX7_adjust_75 (lv_at hl 0 rfl) ?_
      refine z_wVv (pc := 77) (As := [.int (iI (2 * p + k)), .int (iI ((σ (37 + (2 * p + k))) + b))]) (rest := []) E hml hown hts (mX0_setAmount lL G (fun k => o (1 + (8 + k))) σ (2 * p + k) ((σ (37 + (2 * p + k))) + b)  (by omega) (by omega)) (cwV 2 hts gX7_adjust_X0_setAmount rfl rfl rfl vdX0_setAmount ⟨Nat.le_of_ble_eq_true rfl, Nat.le_of_ble_eq_true rfl⟩) (oB.recv hK hQ.aco rfl) hQ.now.ac hK hS (Aq.up2 (by decide)) rfl hl.1 rfl dX7_adjust_77 hcs (Nat.le_of_ble_eq_true rfl) (fun H locs hnew hsz hoth hS => ?_)
      have hQ := QT.upN hQ (ST.upAC hQ.now hnew (fun q h1 h2 => hoth q h1 h2) (fun j hj => by first | rw [zu_n _ _ (by omega)] | rw [zu_n _ _ (by omega), zu_n _ _ (by omega)])) (fun q h1 h2 => hoth q h1 (fun z => h2 (Aq.in 1 8 18 5 (by decide) q z)))
      refine lv_aload_n (pc := 80) E.1 E.2 dX7_adjust_80 rfl (lv_at hl 2 rfl) ?_
      refine g7_0 (pc := 81) E hts hin7 hown hK hQ.ob (hts _ (List.mem_of_getElem? (i := 3) rfl)) dX7_adjust_81 ?_
      refine z_wVv (pc := 84) (As := []) (rest := []) E hml hown hts (mX6_setClocks lL G (fun k => o (1 + k)) (zu σ (37 + (2 * p + k)) ((σ (37 + (2 * p + k))) + b))  (hI.amt (by omega) (by omega))) (cwV 0 hts gX7_adjust_X6_setClocks rfl rfl rfl vdX6_setClocks ⟨Nat.le_of_ble_eq_true rfl, Nat.le_of_ble_eq_true rfl⟩) (oB.recv hK hQ.nob rfl) hQ.now hK hS (Aq.up (by decide)) rfl hl.1 rfl dX7_adjust_84 hcs (Nat.le_of_ble_eq_true rfl) (fun H locs hnew hsz hoth hS => ?_)
      have hQ := QT.upN hQ hnew (fun q h1 h2 => hoth q h1 h2)
      refine lv_iload (pc := 87) E.1 E.2 dX7_adjust_87 (lv_at hl 0 rfl) ?_
      exact z_retWi E hr (congrArg iI (by rfl)) hQ hS hlocks dX7_adjust_89
    · exact absurd hok (by unfold kxAdj; (repeat' split) <;> first | decide | omega | (exfalso; omega) | grind)
set_option maxHeartbeats 1000000 in
set_option maxRecDepth 100000 in
theorem mX7_repair (lL : Launch) (G : GG) (o : Nat → Nat) (ν σ : Int → Int) (π : Nat → Int → Int) (δ τ ω : Int → Int) (hI : In σ) (hc : 0 ≤ ν 2 ∧ ν 2 ≤ 1000000) (hu : 0 ≤ ν 3 ∧ ν 3 ≤ 8) : Met lL yX7_repair wsX7_repair ({ frames := 6, cells := 0, slots := 0, locals := 153 } : Room) (va_Pc [.ref (o 0)] (fun U => QT G o ν σ π δ τ ω U.heap ∧ KK G U)) (va_Qi (fun r (_ : Unit) => r = (iI (wrS σ))) (fun _ tZ => QT G o (zu (zu ν 2 (ν 2 + 1)) 3 (min (ν 3 + 1) 8)) (nxRep σ) (pU π (ν 2 % 8) σ) δ τ ω tZ.heap) (Ax o 187)) 0 0 (Ax o 187) := by
  refine z_met (P := (fun H : Heap => QT G o ν σ π δ τ ω H)) (by decide) rfl (Nat.le_of_ble_eq_true rfl) (fun pp ee ss mm below meth cC E hr hml hown hts hlocks hQ hK ls hl => ?_)
  have hl : lv_has ls 2 [(0, .ref (o 0))] := hl
  have hcs : 0 ≤ (({ frames := 6, cells := 0, slots := 0, locals := 153 } : Room)).cells ∧ 0 ≤ (({ frames := 6, cells := 0, slots := 0, locals := 153 } : Room)).slots := ⟨Nat.zero_le _, Nat.zero_le _⟩
  have hS : va_S (Ax o 187) ss.heap ss.heap [] := va_S.rf
  have hin7 : ∀ w ∈ wsX70, w ∈ wsX7_repair := fun w h => List.mem_cons_of_mem _ (List.mem_append_left _ (List.mem_append_left _ (List.mem_append_left _ (List.mem_append_left _ (List.mem_append_left _ (List.mem_append_right _ (h)))))))
  have hF := hI.F
  have hMm := hI.M
  have hGn := hI.Gn
  have hTi := hI.ti
  have hGr := hI.gr
  refine lv_aload_n (pc := 0) E.1 E.2 dX7_repair_0 rfl (lv_at hl 0 rfl) ?_
  refine z_wVv (pc := 1) (As := []) (rest := []) E hml hown hts (mX7_remember lL G o ν σ π δ τ ω  hI hc hu) (cwV 0 hts gX7_repair_X7_remember rfl rfl rfl vdX7_remember ⟨Nat.le_of_ble_eq_true rfl, Nat.le_of_ble_eq_true rfl⟩) (oB.recv hK hQ.ob rfl) hQ hK hS (fun _ h => h) rfl hl.1 rfl dX7_repair_1 hcs (Nat.le_of_ble_eq_true rfl) (fun H locs hnew hsz hoth hS => ?_)
  have hQ : QT G o (zu (zu ν 2 ((ν 2) + 1)) 3 (min ((ν 3) + 1) 8)) σ (pU π ((ν 2) % 8) σ) δ τ ω H := hnew
  refine lv_aload_n (pc := 4) E.1 E.2 dX7_repair_4 rfl (lv_at hl 0 rfl) ?_
  refine g7_0 (pc := 5) E hts hin7 hown hK hQ.ob (hts _ (List.mem_of_getElem? (i := 1) rfl)) dX7_repair_5 ?_
  refine z_wVi (pc := 8) (As := []) (rest := []) E hml hown hts (mX6_correctAccounts lL G (fun k => o (1 + k)) σ  hI) (cwV 0 hts gX7_repair_X6_correctAccounts rfl rfl rfl vdX6_correctAccounts ⟨Nat.le_of_ble_eq_true rfl, Nat.le_of_ble_eq_true rfl⟩) (oB.recv hK hQ.nob rfl) hQ.now hK hS (Aq.up (by decide)) rfl hl.1 rfl dX7_repair_8 hcs (Nat.le_of_ble_eq_true rfl) (fun H locs hnew hsz hoth hS => ?_)
  have hQ := QT.upN hQ hnew (fun q h1 h2 => hoth q h1 h2)
  refine lv_istore_n (pc := 11) (lv' := [(1, .int (iI (wrS σ))), (0, .ref (o 0))]) E.1 E.2 dX7_repair_11 rfl hl (by decide) rfl (fun ls hl => ?_)
  refine lv_aload_n (pc := 12) E.1 E.2 dX7_repair_12 rfl (lv_at hl 1 rfl) ?_
  refine g7_0 (pc := 13) E hts hin7 hown hK hQ.ob (hts _ (List.mem_of_getElem? (i := 1) rfl)) dX7_repair_13 ?_
  refine z_wVv (pc := 16) (As := []) (rest := []) E hml hown hts (mX6_setClocks lL G (fun k => o (1 + k)) (reA σ 16)  (hI.re (by omega))) (cwV 0 hts gX7_repair_X6_setClocks rfl rfl rfl vdX6_setClocks ⟨Nat.le_of_ble_eq_true rfl, Nat.le_of_ble_eq_true rfl⟩) (oB.recv hK hQ.nob rfl) hQ.now hK hS (Aq.up (by decide)) rfl hl.1 rfl dX7_repair_16 hcs (Nat.le_of_ble_eq_true rfl) (fun H locs hnew hsz hoth hS => ?_)
  have hQ := QT.upN hQ hnew (fun q h1 h2 => hoth q h1 h2)
  refine lv_iload_n (pc := 19) E.1 E.2 dX7_repair_19 rfl (lv_at hl 0 rfl) ?_
  exact z_retWi E hr rfl hQ hS hlocks dX7_repair_20
set_option maxHeartbeats 1000000 in
set_option maxRecDepth 100000 in
theorem mxX7_undo (lL : Launch) (hst0 : lL.stackTraces = false) (G : GG) (o : Nat → Nat) (ν σ : Int → Int) (π : Nat → Int → Int) (δ τ ω : Int → Int) (hI : In σ) (hu : 0 ≤ ν 3 ∧ ν 3 ≤ 8) (hbad : ¬ ((kxUndo (ν 3)) = 0)) : vx_Met lL yX7_undo wsX7_undo ({ frames := 6, cells := 1, slots := 6, locals := 132 } : Room) (va_Pc [.ref (o 0)] (fun U => QT G o ν σ π δ τ ω U.heap ∧ KK G U ∧ KX FF0 U U.heap)) (fun _ _ _ _ => False) (XCe (exq xS xI xI (kxUndo (ν 3)))) 1 6 FF0 := by
  refine z_metX (P := (fun H : Heap => QT G o ν σ π δ τ ω H)) (by decide) rfl (Nat.le_of_ble_eq_true rfl) (fun pp ee ss mm below meth cC E hml hown hts hlocks htab hQ hK hX ls hl => ?_)
  have hl : lv_has ls 2 [(0, .ref (o 0))] := hl
  have hcs : 0 ≤ (({ frames := 6, cells := 1, slots := 6, locals := 132 } : Room)).cells ∧ 0 ≤ (({ frames := 6, cells := 1, slots := 6, locals := 132 } : Room)).slots := ⟨Nat.zero_le _, Nat.zero_le _⟩
  have hin7 : ∀ w ∈ wsX70, w ∈ wsX7_undo := fun w h => List.mem_cons_of_mem _ (List.mem_append_left _ (List.mem_append_left _ (List.mem_append_left _ (List.mem_append_left _ (List.mem_append_left _ (List.mem_append_left _ (List.mem_append_right _ (h))))))))
  have hF := hI.F
  have hMm := hI.M
  have hGn := hI.Gn
  have hTi := hI.ti
  have hGr := hI.gr
  refine lv_aload_n (pc := 0) E.1 E.2 dX7_undo_0 rfl (lv_at hl 0 rfl) ?_
  refine g7_3 (pc := 1) E hts hin7 hown hK hQ.ob (hts _ (List.mem_of_getElem? (i := 3) rfl)) dX7_undo_1 ?_
  refine z_if_ne (pc := 4) (tgt := 18) E ⟨by omega, by omega⟩ dX7_undo_4 (by decide) (fun h4 => ?_) (fun h4 => ?_)
  · exact absurd (show kxUndo (ν 3) = 0 from if_neg h4) hbad
  · exact z_thrW_xS (pc := 7) (rest := []) (is := 404) (text := "there is no change to undo") E hst0 hown (hts _ (List.mem_of_getElem? (i := 1) rfl)) (hts _ (List.mem_of_getElem? (i := 2) rfl)) (fun w h => hts w (List.mem_cons_of_mem _ (List.mem_append_right _ (h)))) hX (List.mem_of_getElem? (i := 19) rfl) (hl.1.trans hml.symm) dX7_undo_7 dX7_undo_10 dX7_undo_11 dX7_undo_14 dX7_undo_17 htab (Nat.le_of_ble_eq_true rfl) (Nat.le_of_ble_eq_true rfl) (Nat.le_of_ble_eq_true rfl) (Nat.le_of_ble_eq_true rfl) hlocks (by rw [show (kxUndo (ν 3)) = 1 by (unfold kxUndo; (repeat' split) <;> first | rfl | omega | (exfalso; omega) | contradiction | grind)]; rfl)
set_option maxHeartbeats 1000000 in
set_option maxRecDepth 100000 in
theorem mX7_undo (lL : Launch) (G : GG) (o : Nat → Nat) (ν σ : Int → Int) (π : Nat → Int → Int) (δ τ ω : Int → Int) (hI : In σ) (hu : 0 ≤ ν 3 ∧ ν 3 ≤ 8) (hok : (kxUndo (ν 3)) = 0) (hc : 1 ≤ ν 2 ∧ ν 2 ≤ 1000000) : Met lL yX7_undo wsX7_undo ({ frames := 3, cells := 0, slots := 0, locals := 132 } : Room) (va_Pc [.ref (o 0)] (fun U => QT G o ν σ π δ τ ω U.heap ∧ KK G U)) (va_Qi (fun r (_ : Unit) => r = (iI (ν 3 - 1))) (fun _ tZ => QT G o (zu (zu ν 3 (ν 3 - 1)) 2 (ν 2 - 1)) (π ((ν 2 - 1) % 8).toNat) π δ τ ω tZ.heap) (Ax o 187)) 0 0 (Ax o 187) := by
  refine z_met (P := (fun H : Heap => QT G o ν σ π δ τ ω H)) (by decide) rfl (Nat.le_of_ble_eq_true rfl) (fun pp ee ss mm below meth cC E hr hml hown hts hlocks hQ hK ls hl => ?_)
  have hl : lv_has ls 2 [(0, .ref (o 0))] := hl
  have hcs : 0 ≤ (({ frames := 3, cells := 0, slots := 0, locals := 132 } : Room)).cells ∧ 0 ≤ (({ frames := 3, cells := 0, slots := 0, locals := 132 } : Room)).slots := ⟨Nat.zero_le _, Nat.zero_le _⟩
  have hS : va_S (Ax o 187) ss.heap ss.heap [] := va_S.rf
  have hin7 : ∀ w ∈ wsX70, w ∈ wsX7_undo := fun w h => List.mem_cons_of_mem _ (List.mem_append_left _ (List.mem_append_left _ (List.mem_append_left _ (List.mem_append_left _ (List.mem_append_left _ (List.mem_append_left _ (List.mem_append_right _ (h))))))))
  have hF := hI.F
  have hMm := hI.M
  have hGn := hI.Gn
  have hTi := hI.ti
  have hGr := hI.gr
  have hoc := kxUndo_ok hok
  refine lv_aload_n (pc := 0) E.1 E.2 dX7_undo_0 rfl (lv_at hl 0 rfl) ?_
  refine g7_3 (pc := 1) E hts hin7 hown hK hQ.ob (hts _ (List.mem_of_getElem? (i := 3) rfl)) dX7_undo_1 ?_
  refine z_if_ne (pc := 4) (tgt := 18) E ⟨by omega, by omega⟩ dX7_undo_4 (by decide) (fun h4 => ?_) (fun h4 => ?_)
  · refine lv_aload_n (pc := 18) E.1 E.2 dX7_undo_18 rfl (lv_at hl 0 rfl) ?_
    refine lv_dup (pc := 19) E.1 E.2 dX7_undo_19 rfl ?_
    refine g7_3 (pc := 20) E hts hin7 hown hK hQ.ob (hts _ (List.mem_of_getElem? (i := 3) rfl)) dX7_undo_20 ?_
    refine z_iconst (pc := 23) E dX7_undo_23 ?_
    refine z_isub (pc := 24) E dX7_undo_24 ?_
    refine p7_3 (pc := 25) E hts hin7 hown hK hQ.ob hS (Ax.at 0 (by decide)) (hts _ (List.mem_of_getElem? (i := 3) rfl)) dX7_undo_25 (fun H locs hnew hoth hS => ?_)
    have hQ := QT.upO (ν2 := (zu ν 3 ((ν 3) - 1))) hQ (by simpa only [zu, Int.reduceEq, reduceIte] using hnew) (fun q h => hoth q h) (fun j hj => by simp only [zu]; (repeat' split) <;> first | rfl | omega)
    refine lv_aload_n (pc := 28) E.1 E.2 dX7_undo_28 rfl (lv_at hl 0 rfl) ?_
    refine lv_dup (pc := 29) E.1 E.2 dX7_undo_29 rfl ?_
    refine g7_2 (pc := 30) E hts hin7 hown hK hQ.ob (hts _ (List.mem_of_getElem? (i := 4) rfl)) dX7_undo_30 ?_
    rw [show (zu ν 3 ((ν 3) - 1)) 2 = ν 2 from by simp only [zu, Int.reduceEq, reduceIte]]
    refine z_iconst (pc := 33) E dX7_undo_33 ?_
    refine z_isub (pc := 34) E dX7_undo_34 ?_
    refine p7_2 (pc := 35) E hts hin7 hown hK hQ.ob hS (Ax.at 0 (by decide)) (hts _ (List.mem_of_getElem? (i := 4) rfl)) dX7_undo_35 (fun H locs hnew hoth hS => ?_)
    have hQ := QT.upO (ν2 := (zu (zu ν 3 ((ν 3) - 1)) 2 ((ν 2) - 1))) hQ (by simpa only [zu, Int.reduceEq, reduceIte] using hnew) (fun q h => hoth q h) (fun j hj => by simp only [zu]; (repeat' split) <;> first | rfl | omega)
    refine lv_aload_n (pc := 38) E.1 E.2 dX7_undo_38 rfl (lv_at hl 0 rfl) ?_
    refine g7_1 (pc := 39) E hts hin7 hown hK hQ.ob (hts _ (List.mem_of_getElem? (i := 5) rfl)) dX7_undo_39 ?_
    refine lv_aload_n (pc := 42) E.1 E.2 dX7_undo_42 rfl (lv_at hl 0 rfl) ?_
    refine g7_2 (pc := 43) E hts hin7 hown hK hQ.ob (hts _ (List.mem_of_getElem? (i := 4) rfl)) dX7_undo_43 ?_
    rw [show (zu (zu ν 3 ((ν 3) - 1)) 2 ((ν 2) - 1)) 2 = (ν 2) - 1 from by simp only [zu, Int.reduceEq, reduceIte]]
    refine z_bipush (pc := 46) E (by decide) dX7_undo_46 ?_
    refine z_rSi (pc := 48) (P := fun _ => True) (As := [.int (iI ((ν 2) - 1)), .int (iI 8)]) (rest := [.ref (o 19)]) E hml hown hts (mJ9_floorMod_7cf53 lL G ((ν 2) - 1) (by omega)) (va_cwS 2 hts gX7_undo_J9_floorMod_7cf53 rfl rfl rfl vdJ9_floorMod_7cf53.2 ⟨Nat.le_of_ble_eq_true rfl, Nat.le_of_ble_eq_true rfl⟩) trivial hK rfl hl.1 rfl dX7_undo_48 hcs (Nat.le_of_ble_eq_true rfl) ?_
    refine z_aaload (pc := 51) E hK hQ.past ⟨by omega, by omega⟩ (by decide) dX7_undo_51 ?_
    refine lv_astore_n (pc := 52) (lv' := [(1, .ref (o (20 + 18 * (((ν 2) - 1) % 8).toNat))), (0, .ref (o 0))]) E.1 E.2 dX7_undo_52 rfl hl (by decide) rfl (fun ls hl => ?_)
    refine lv_aload_n (pc := 53) E.1 E.2 dX7_undo_53 rfl (lv_at hl 0 rfl) ?_
    refine lv_ifnull (pc := 54) E.1 E.2 dX7_undo_54 ?_
    refine lv_aload_n (pc := 57) E.1 E.2 dX7_undo_57 rfl (lv_at hl 1 rfl) ?_
    refine g7_0 (pc := 58) E hts hin7 hown hK hQ.ob (hts _ (List.mem_of_getElem? (i := 6) rfl)) dX7_undo_58 ?_
    refine lv_aload_n (pc := 61) E.1 E.2 dX7_undo_61 rfl (lv_at hl 0 rfl) ?_
    refine z_wVv (pc := 62) (P := fun H9 : Heap => ST G (fun k => o (1 + k)) σ H9 ∧ ST G (fun k => o (20 + 18 * (((ν 2) - 1) % 8).toNat + k)) (π (((ν 2) - 1) % 8).toNat) H9) (As := [.ref (o (20 + 18 * (((ν 2) - 1) % 8).toNat))]) (rest := []) E hml hown hts (mX6_copyFrom lL G (fun k => o (1 + k)) (fun k => o (20 + 18 * (((ν 2) - 1) % 8).toNat + k)) σ (π (((ν 2) - 1) % 8).toNat) (fun i j hi hj => hQ.ij.ne _ _ (by omega) (by omega) (by omega))) (cwV 1 hts gX7_undo_X6_copyFrom rfl rfl rfl vdX6_copyFrom ⟨Nat.le_of_ble_eq_true rfl, Nat.le_of_ble_eq_true rfl⟩) (oB.recv hK hQ.nob rfl) (And.intro hQ.now (hQ.old (by omega))) hK hS (Aq.up (by decide)) rfl hl.1 rfl dX7_undo_62 hcs (Nat.le_of_ble_eq_true rfl) (fun H locs hnew hsz hoth hS => ?_)
    have hQ := QT.upN hQ hnew (fun q h1 h2 => hoth q h1 h2)
    refine lv_aload_n (pc := 65) E.1 E.2 dX7_undo_65 rfl (lv_at hl 1 rfl) ?_
    refine g7_3 (pc := 66) E hts hin7 hown hK hQ.ob (hts _ (List.mem_of_getElem? (i := 3) rfl)) dX7_undo_66 ?_
    rw [show (zu (zu ν 3 ((ν 3) - 1)) 2 ((ν 2) - 1)) 3 = (ν 3) - 1 from by simp only [zu, Int.reduceEq, reduceIte]]
    exact z_retWi E hr (congrArg iI (by rfl)) hQ hS hlocks dX7_undo_69
  · exact absurd hok (by unfold kxUndo; (repeat' split) <;> first | decide | omega | (exfalso; omega) | grind)
