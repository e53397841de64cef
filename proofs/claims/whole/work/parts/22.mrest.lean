theorem vdX8_reasonToPass : yX8_reasonToPass.cls = RX8 ∧ yX8_reasonToPass.cls ≠ "java/lang/invoke/MethodHandle" ∧ yX8_reasonToPass.cls ≠ "java/lang/invoke/VarHandle" ∧ (parseMethodDescriptor yX8_reasonToPass.desc).map (fun d => d.parameters.length) = some 3 := by decide +kernel
theorem vdX8_projectWith : yX8_projectWith.cls = RX8 ∧ yX8_projectWith.cls ≠ "java/lang/invoke/MethodHandle" ∧ yX8_projectWith.cls ≠ "java/lang/invoke/VarHandle" ∧ (parseMethodDescriptor yX8_projectWith.desc).map (fun d => d.parameters.length) = some 2 := by decide +kernel
theorem vdX8_reasonToTag : yX8_reasonToTag.cls = RX8 ∧ yX8_reasonToTag.cls ≠ "java/lang/invoke/MethodHandle" ∧ yX8_reasonToTag.cls ≠ "java/lang/invoke/VarHandle" ∧ (parseMethodDescriptor yX8_reasonToTag.desc).map (fun d => d.parameters.length) = some 2 := by decide +kernel
theorem vdX8_projectUnder : yX8_projectUnder.cls = RX8 ∧ yX8_projectUnder.cls ≠ "java/lang/invoke/MethodHandle" ∧ yX8_projectUnder.cls ≠ "java/lang/invoke/VarHandle" ∧ (parseMethodDescriptor yX8_projectUnder.desc).map (fun d => d.parameters.length) = some 2 := by decide +kernel
theorem vdX8_reasonToMove : yX8_reasonToMove.cls = RX8 ∧ yX8_reasonToMove.cls ≠ "java/lang/invoke/MethodHandle" ∧ yX8_reasonToMove.cls ≠ "java/lang/invoke/VarHandle" ∧ (parseMethodDescriptor yX8_reasonToMove.desc).map (fun d => d.parameters.length) = some 2 := by decide +kernel
theorem vdX8_reasonToCarry : yX8_reasonToCarry.cls = RX8 ∧ yX8_reasonToCarry.cls ≠ "java/lang/invoke/MethodHandle" ∧ yX8_reasonToCarry.cls ≠ "java/lang/invoke/VarHandle" ∧ (parseMethodDescriptor yX8_reasonToCarry.desc).map (fun d => d.parameters.length) = some 2 := by decide +kernel
theorem vdX8_childBehind : yX8_childBehind.cls = RX8 ∧ yX8_childBehind.cls ≠ "java/lang/invoke/MethodHandle" ∧ yX8_childBehind.cls ≠ "java/lang/invoke/VarHandle" ∧ (parseMethodDescriptor yX8_childBehind.desc).map (fun d => d.parameters.length) = some 2 := by decide +kernel
theorem vdX8_hasGift : yX8_hasGift.cls = RX8 ∧ yX8_hasGift.cls ≠ "java/lang/invoke/MethodHandle" ∧ yX8_hasGift.cls ≠ "java/lang/invoke/VarHandle" ∧ (parseMethodDescriptor yX8_hasGift.desc).map (fun d => d.parameters.length) = some 1 := by decide +kernel
theorem vdX8_sooner : yX8_sooner.cls = RX8 ∧ yX8_sooner.cls ≠ "java/lang/invoke/MethodHandle" ∧ yX8_sooner.cls ≠ "java/lang/invoke/VarHandle" ∧ (parseMethodDescriptor yX8_sooner.desc).map (fun d => d.parameters.length) = some 2 := by decide +kernel
theorem vdX8_isRefused : yX8_isRefused.cls = RX8 ∧ yX8_isRefused.cls ≠ "java/lang/invoke/MethodHandle" ∧ yX8_isRefused.cls ≠ "java/lang/invoke/VarHandle" ∧ (parseMethodDescriptor yX8_isRefused.desc).map (fun d => d.parameters.length) = some 3 := by decide +kernel
theorem vdX8_addsFolder : yX8_addsFolder.cls = RX8 ∧ yX8_addsFolder.cls ≠ "java/lang/invoke/MethodHandle" ∧ yX8_addsFolder.cls ≠ "java/lang/invoke/VarHandle" ∧ (parseMethodDescriptor yX8_addsFolder.desc).map (fun d => d.parameters.length) = some 3 := by decide +kernel
theorem vdX8_addsFile : yX8_addsFile.cls = RX8 ∧ yX8_addsFile.cls ≠ "java/lang/invoke/MethodHandle" ∧ yX8_addsFile.cls ≠ "java/lang/invoke/VarHandle" ∧ (parseMethodDescriptor yX8_addsFile.desc).map (fun d => d.parameters.length) = some 3 := by decide +kernel
theorem vdX8_closesUp : yX8_closesUp.cls = RX8 ∧ yX8_closesUp.cls ≠ "java/lang/invoke/MethodHandle" ∧ yX8_closesUp.cls ≠ "java/lang/invoke/VarHandle" ∧ (parseMethodDescriptor yX8_closesUp.desc).map (fun d => d.parameters.length) = some 3 := by decide +kernel
theorem vdX8_begins : yX8_begins.cls = RX8 ∧ yX8_begins.cls ≠ "java/lang/invoke/MethodHandle" ∧ yX8_begins.cls ≠ "java/lang/invoke/VarHandle" ∧ (parseMethodDescriptor yX8_begins.desc).map (fun d => d.parameters.length) = some 0 := by decide +kernel
theorem vdX8_counts : yX8_counts.cls = RX8 ∧ yX8_counts.cls ≠ "java/lang/invoke/MethodHandle" ∧ yX8_counts.cls ≠ "java/lang/invoke/VarHandle" ∧ (parseMethodDescriptor yX8_counts.desc).map (fun d => d.parameters.length) = some 3 := by decide +kernel
theorem vdX8_dropsGift : yX8_dropsGift.cls = RX8 ∧ yX8_dropsGift.cls ≠ "java/lang/invoke/MethodHandle" ∧ yX8_dropsGift.cls ≠ "java/lang/invoke/VarHandle" ∧ (parseMethodDescriptor yX8_dropsGift.desc).map (fun d => d.parameters.length) = some 1 := by decide +kernel
set_option maxHeartbeats 1000000 in
set_option maxRecDepth 100000 in
theorem mX8_reasonToPass (lL : Launch) (G : GG) (o : Nat → Nat) (μ σ φ κ β ω : Int → Int) (f : Int) (a : Int) (t : Int) (hI : In σ) (hf : 0 ≤ f ∧ f < σ 2) (ha : -1 ≤ a ∧ a ≤ 7) (ht : -1 ≤ t ∧ t ≤ 7) : Met lL yX8_reasonToPass wsX8_reasonToPass ({ frames := 4, cells := 0, slots := 0, locals := 101 } : Room) (va_Pc [.ref (o 0), .int (iI f), .int (iI a), .int (iI t)] (fun U => W8 G o (mV o μ) σ φ κ β ω U.heap ∧ KK G U)) (vp_Si (fun r => r = (iI (rpS σ f a t)))) 0 0 (fun _ => False) := by
  refine z_met (P := (fun H : Heap => W8 G o (mV o μ) σ φ κ β ω H)) (by decide) rfl (Nat.le_of_ble_eq_true rfl) (fun pp ee ss mm below meth cC E hr hml hown hts hlocks hM hK ls hl => ?_)
  have hl : lv_has ls 4 [(0, .ref (o 0)), (1, .int (iI f)), (2, .int (iI a)), (3, .int (iI t))] := hl
  have hcs : 0 ≤ (({ frames := 4, cells := 0, slots := 0, locals := 101 } : Room)).cells ∧ 0 ≤ (({ frames := 4, cells := 0, slots := 0, locals := 101 } : Room)).slots := ⟨Nat.zero_le _, Nat.zero_le _⟩
  have hF := hI.F
  have hMm := hI.M
  have hGn := hI.Gn
  refine lv_iload_n (pc := 0) E.1 E.2 dX8_reasonToPass_0 rfl (lv_at hl 2 rfl) ?_
  refine lv_iload_n (pc := 1) E.1 E.2 dX8_reasonToPass_1 rfl (lv_at hl 3 rfl) ?_
  refine z_icmp_ne (pc := 2) (tgt := 9) E ⟨by omega, by omega⟩ ⟨by omega, by omega⟩ dX8_reasonToPass_2 (by decide) (fun h2 => ?_) (fun h2 => ?_)
  · refine lv_aload_n (pc := 9) E.1 E.2 dX8_reasonToPass_9 rfl (lv_at hl 0 rfl) ?_
    refine lv_iload_n (pc := 10) E.1 E.2 dX8_reasonToPass_10 rfl (lv_at hl 3 rfl) ?_
    refine lv_aload_n (pc := 11) E.1 E.2 dX8_reasonToPass_11 rfl (lv_at hl 0 rfl) ?_
    refine lv_iload_n (pc := 12) E.1 E.2 dX8_reasonToPass_12 rfl (lv_at hl 1 rfl) ?_
    refine z_iconst (pc := 13) E dX8_reasonToPass_13 ?_
    refine z_rVl (pc := 14) (As := [.int (iI f), .int (iI 1)]) (rest := [.int (iI t), .ref (o 0)]) E hml hown hts (mX8_openOf lL G o μ σ φ κ β ω f 1 hI (by omega) (Or.inr rfl)) (cwV 2 hts gX8_reasonToPass_X8_openOf rfl rfl rfl vdX8_openOf ⟨Nat.le_of_ble_eq_true rfl, Nat.le_of_ble_eq_true rfl⟩) (oB.recv hK hM.1 rfl) hM hK rfl hl.1 rfl dX8_reasonToPass_14 hcs (Nat.le_of_ble_eq_true rfl) ?_
    have ho1 := hI.opb f 1
    refine lv_aload_n (pc := 17) E.1 E.2 dX8_reasonToPass_17 rfl (lv_at hl 0 rfl) ?_
    refine lv_iload_n (pc := 18) E.1 E.2 dX8_reasonToPass_18 rfl (lv_at hl 1 rfl) ?_
    refine z_iconst (pc := 19) E dX8_reasonToPass_19 ?_
    refine z_rVl (pc := 20) (As := [.int (iI f), .int (iI 0)]) (rest := [.long (iL (opS σ f 1)), .int (iI t), .ref (o 0)]) E hml hown hts (mX8_openOf lL G o μ σ φ κ β ω f 0 hI (by omega) (Or.inl rfl)) (cwV 2 hts gX8_reasonToPass_X8_openOf rfl rfl rfl vdX8_openOf ⟨Nat.le_of_ble_eq_true rfl, Nat.le_of_ble_eq_true rfl⟩) (oB.recv hK hM.1 rfl) hM hK rfl hl.1 rfl dX8_reasonToPass_20 hcs (Nat.le_of_ble_eq_true rfl) ?_
    have ho0 := hI.opb f 0
    refine z_rVi (pc := 23) (As := [.int (iI t), .long (iL (opS σ f 1)), .long (iL (opS σ f 0))]) (rest := []) E hml hown hts (mX8_reasonFor lL G o μ σ φ κ β ω t (opS σ f 1) (opS σ f 0) hI (by omega) (by omega) (by omega)) (cwV 3 hts gX8_reasonToPass_X8_reasonFor rfl rfl rfl vdX8_reasonFor ⟨Nat.le_of_ble_eq_true rfl, Nat.le_of_ble_eq_true rfl⟩) (oB.recv hK hM.1 rfl) hM hK rfl hl.1 rfl dX8_reasonToPass_23 hcs (Nat.le_of_ble_eq_true rfl) ?_
    exact z_retRi E hr (congrArg iI (by first | (unfold rpS; rw [if_pos h2]) | (unfold rpS; rw [if_neg h2]))) hlocks dX8_reasonToPass_26
  · refine z_iconst (pc := 5) E dX8_reasonToPass_5 ?_
    refine lv_goto (pc := 6) (tgt := 26) E.1 E.2 dX8_reasonToPass_6 (by decide) ?_
    exact z_retRi E hr (congrArg iI (by first | (unfold rpS; rw [if_pos h2]) | (unfold rpS; rw [if_neg h2]))) hlocks dX8_reasonToPass_26
set_option maxHeartbeats 1000000 in
set_option maxRecDepth 100000 in
theorem mX8_projectWith (lL : Launch) (G : GG) (o : Nat → Nat) (μ σ φ κ β ω : Int → Int) (f : Int) (t : Int) (hI : In σ) (hf : 0 ≤ f ∧ f < σ 2) (ht : -1 ≤ t ∧ t ≤ 7) : Met lL yX8_projectWith wsX8_projectWith ({ frames := 2, cells := 0, slots := 0, locals := 43 } : Room) (va_Pc [.ref (o 0), .int (iI f), .int (iI t)] (fun U => W8 G o (mV o μ) σ φ κ β ω U.heap ∧ KK G U)) (vp_Si (fun r => r = (iI (pwS σ f t)))) 0 0 (fun _ => False) := by
  refine z_met (P := (fun H : Heap => W8 G o (mV o μ) σ φ κ β ω H)) (by decide) rfl (Nat.le_of_ble_eq_true rfl) (fun pp ee ss mm below meth cC E hr hml hown hts hlocks hM hK ls hl => ?_)
  have hl : lv_has ls 3 [(0, .ref (o 0)), (1, .int (iI f)), (2, .int (iI t))] := hl
  have hcs : 0 ≤ (({ frames := 2, cells := 0, slots := 0, locals := 43 } : Room)).cells ∧ 0 ≤ (({ frames := 2, cells := 0, slots := 0, locals := 43 } : Room)).slots := ⟨Nat.zero_le _, Nat.zero_le _⟩
  have hF := hI.F
  have hMm := hI.M
  have hGn := hI.Gn
  refine lv_iload_n (pc := 0) E.1 E.2 dX8_projectWith_0 rfl (lv_at hl 2 rfl) ?_
  refine z_iconst (pc := 1) E dX8_projectWith_1 ?_
  refine z_icmp_ne (pc := 2) (tgt := 9) E ⟨by omega, by omega⟩ (by decide) dX8_projectWith_2 (by decide) (fun h2 => ?_) (fun h2 => ?_)
  · refine lv_iload_n (pc := 9) E.1 E.2 dX8_projectWith_9 rfl (lv_at hl 2 rfl) ?_
    refine lv_goto (pc := 10) (tgt := 22) E.1 E.2 dX8_projectWith_10 (by decide) ?_
    exact z_retRi E hr (congrArg iI (by (unfold pwS; split <;> first | rfl | omega))) hlocks dX8_projectWith_22
  · refine lv_iload_n (pc := 5) E.1 E.2 dX8_projectWith_5 rfl (lv_at hl 1 rfl) ?_
    refine z_if_ne (pc := 6) (tgt := 13) E ⟨by omega, by omega⟩ dX8_projectWith_6 (by decide) (fun h6 => ?_) (fun h6 => ?_)
    · refine lv_aload_n (pc := 13) E.1 E.2 dX8_projectWith_13 rfl (lv_at hl 0 rfl) ?_
      refine lv_aload_n (pc := 14) E.1 E.2 dX8_projectWith_14 rfl (lv_at hl 0 rfl) ?_
      refine lv_iload_n (pc := 15) E.1 E.2 dX8_projectWith_15 rfl (lv_at hl 1 rfl) ?_
      refine z_rVi (pc := 16) (As := [.int (iI f)]) (rest := [.ref (o 0)]) E hml hown hts (mX8_parentOf lL G o μ σ φ κ β ω f (by omega)) (cwV 1 hts gX8_projectWith_X8_parentOf rfl rfl rfl vdX8_parentOf ⟨Nat.le_of_ble_eq_true rfl, Nat.le_of_ble_eq_true rfl⟩) (oB.recv hK hM.1 rfl) hM hK rfl hl.1 rfl dX8_projectWith_16 hcs (Nat.le_of_ble_eq_true rfl) ?_
      refine z_rVi (pc := 19) (As := [.int (iI (σ (69 + f)))]) (rest := []) E hml hown hts (mX8_projectOf lL G o μ σ φ κ β ω (σ (69 + f)) hI (hI.fp hf.1 hf.2)) (cwV 1 hts gX8_projectWith_X8_projectOf rfl rfl rfl vdX8_projectOf ⟨Nat.le_of_ble_eq_true rfl, Nat.le_of_ble_eq_true rfl⟩) (oB.recv hK hM.1 rfl) hM hK rfl hl.1 rfl dX8_projectWith_19 hcs (Nat.le_of_ble_eq_true rfl) ?_
      exact z_retRi E hr (congrArg iI (by (unfold pwS; split <;> first | rfl | omega))) hlocks dX8_projectWith_22
    · refine lv_iload_n (pc := 9) E.1 E.2 dX8_projectWith_9 rfl (lv_at hl 2 rfl) ?_
      refine lv_goto (pc := 10) (tgt := 22) E.1 E.2 dX8_projectWith_10 (by decide) ?_
      exact z_retRi E hr (congrArg iI (by (unfold pwS; split <;> first | rfl | omega))) hlocks dX8_projectWith_22
set_option maxHeartbeats 1000000 in
set_option maxRecDepth 100000 in
theorem mX8_reasonToTag (lL : Launch) (G : GG) (o : Nat → Nat) (μ σ φ κ β ω : Int → Int) (f : Int) (t : Int) (hI : In σ) (hf : 0 ≤ f ∧ f < σ 2) (ht : -1 ≤ t ∧ t ≤ 7) : Met lL yX8_reasonToTag wsX8_reasonToTag ({ frames := 5, cells := 0, slots := 0, locals := 124 } : Room) (va_Pc [.ref (o 0), .int (iI f), .int (iI t)] (fun U => W8 G o (mV o μ) σ φ κ β ω U.heap ∧ KK G U)) (vp_Si (fun r => r = (iI (rtS σ f t)))) 0 0 (fun _ => False) := by
  refine z_met (P := (fun H : Heap => W8 G o (mV o μ) σ φ κ β ω H)) (by decide) rfl (Nat.le_of_ble_eq_true rfl) (fun pp ee ss mm below meth cC E hr hml hown hts hlocks hM hK ls hl => ?_)
  have hl : lv_has ls 3 [(0, .ref (o 0)), (1, .int (iI f)), (2, .int (iI t))] := hl
  have hcs : 0 ≤ (({ frames := 5, cells := 0, slots := 0, locals := 124 } : Room)).cells ∧ 0 ≤ (({ frames := 5, cells := 0, slots := 0, locals := 124 } : Room)).slots := ⟨Nat.zero_le _, Nat.zero_le _⟩
  have hF := hI.F
  have hMm := hI.M
  have hGn := hI.Gn
  refine lv_aload_n (pc := 0) E.1 E.2 dX8_reasonToTag_0 rfl (lv_at hl 0 rfl) ?_
  refine lv_iload_n (pc := 1) E.1 E.2 dX8_reasonToTag_1 rfl (lv_at hl 1 rfl) ?_
  refine lv_aload_n (pc := 2) E.1 E.2 dX8_reasonToTag_2 rfl (lv_at hl 0 rfl) ?_
  refine lv_iload_n (pc := 3) E.1 E.2 dX8_reasonToTag_3 rfl (lv_at hl 1 rfl) ?_
  refine z_rVi (pc := 4) (As := [.int (iI f)]) (rest := [.int (iI f), .ref (o 0)]) E hml hown hts (mX8_projectOf lL G o μ σ φ κ β ω f hI (Or.inr hf)) (cwV 1 hts gX8_reasonToTag_X8_projectOf rfl rfl rfl vdX8_projectOf ⟨Nat.le_of_ble_eq_true rfl, Nat.le_of_ble_eq_true rfl⟩) (oB.recv hK hM.1 rfl) hM hK rfl hl.1 rfl dX8_reasonToTag_4 hcs (Nat.le_of_ble_eq_true rfl) ?_
  have hp1 := hI.pjr (f := f) (Or.inr hf)
  refine lv_aload_n (pc := 7) E.1 E.2 dX8_reasonToTag_7 rfl (lv_at hl 0 rfl) ?_
  refine lv_iload_n (pc := 8) E.1 E.2 dX8_reasonToTag_8 rfl (lv_at hl 1 rfl) ?_
  refine lv_iload_n (pc := 9) E.1 E.2 dX8_reasonToTag_9 rfl (lv_at hl 2 rfl) ?_
  refine z_rVi (pc := 10) (As := [.int (iI f), .int (iI t)]) (rest := [.int (iI (pjF σ f)), .int (iI f), .ref (o 0)]) E hml hown hts (mX8_projectWith lL G o μ σ φ κ β ω f t hI (by omega) (by omega)) (cwV 2 hts gX8_reasonToTag_X8_projectWith rfl rfl rfl vdX8_projectWith ⟨Nat.le_of_ble_eq_true rfl, Nat.le_of_ble_eq_true rfl⟩) (oB.recv hK hM.1 rfl) hM hK rfl hl.1 rfl dX8_reasonToTag_10 hcs (Nat.le_of_ble_eq_true rfl) ?_
  have hp2 := hI.pwb hf ht
  refine z_rVi (pc := 13) (As := [.int (iI f), .int (iI (pjF σ f)), .int (iI (pwS σ f t))]) (rest := []) E hml hown hts (mX8_reasonToPass lL G o μ σ φ κ β ω f (pjF σ f) (pwS σ f t) hI (by omega) (by omega) (by omega)) (cwV 3 hts gX8_reasonToTag_X8_reasonToPass rfl rfl rfl vdX8_reasonToPass ⟨Nat.le_of_ble_eq_true rfl, Nat.le_of_ble_eq_true rfl⟩) (oB.recv hK hM.1 rfl) hM hK rfl hl.1 rfl dX8_reasonToTag_13 hcs (Nat.le_of_ble_eq_true rfl) ?_
  exact z_retRi E hr (congrArg iI (by rfl)) hlocks dX8_reasonToTag_16
set_option maxHeartbeats 1000000 in
set_option maxRecDepth 100000 in
theorem mX8_projectUnder (lL : Launch) (G : GG) (o : Nat → Nat) (μ σ φ κ β ω : Int → Int) (f : Int) (q : Int) (hI : In σ) (hf : 0 ≤ f ∧ f < σ 2) (hq : 0 ≤ q ∧ q < σ 2) : Met lL yX8_projectUnder wsX8_projectUnder ({ frames := 2, cells := 0, slots := 0, locals := 43 } : Room) (va_Pc [.ref (o 0), .int (iI f), .int (iI q)] (fun U => W8 G o (mV o μ) σ φ κ β ω U.heap ∧ KK G U)) (vp_Si (fun r => r = (iI (puS σ f q)))) 0 0 (fun _ => False) := by
  refine z_met (P := (fun H : Heap => W8 G o (mV o μ) σ φ κ β ω H)) (by decide) rfl (Nat.le_of_ble_eq_true rfl) (fun pp ee ss mm below meth cC E hr hml hown hts hlocks hM hK ls hl => ?_)
  have hl : lv_has ls 3 [(0, .ref (o 0)), (1, .int (iI f)), (2, .int (iI q))] := hl
  have hcs : 0 ≤ (({ frames := 2, cells := 0, slots := 0, locals := 43 } : Room)).cells ∧ 0 ≤ (({ frames := 2, cells := 0, slots := 0, locals := 43 } : Room)).slots := ⟨Nat.zero_le _, Nat.zero_le _⟩
  have hF := hI.F
  have hMm := hI.M
  have hGn := hI.Gn
  refine lv_aload_n (pc := 0) E.1 E.2 dX8_projectUnder_0 rfl (lv_at hl 0 rfl) ?_
  refine lv_iload_n (pc := 1) E.1 E.2 dX8_projectUnder_1 rfl (lv_at hl 1 rfl) ?_
  refine z_rVi (pc := 2) (As := [.int (iI f)]) (rest := []) E hml hown hts (mX8_tagOf lL G o μ σ φ κ β ω f (by omega)) (cwV 1 hts gX8_projectUnder_X8_tagOf rfl rfl rfl vdX8_tagOf ⟨Nat.le_of_ble_eq_true rfl, Nat.le_of_ble_eq_true rfl⟩) (oB.recv hK hM.1 rfl) hM hK rfl hl.1 rfl dX8_projectUnder_2 hcs (Nat.le_of_ble_eq_true rfl) ?_
  have htg := hI.tag hf.1 hf.2
  refine z_iconst (pc := 5) E dX8_projectUnder_5 ?_
  refine z_icmp_eq (pc := 6) (tgt := 17) E ⟨by omega, by omega⟩ (by decide) dX8_projectUnder_6 (by decide) (fun h6 => ?_) (fun h6 => ?_)
  · refine lv_aload_n (pc := 17) E.1 E.2 dX8_projectUnder_17 rfl (lv_at hl 0 rfl) ?_
    refine lv_iload_n (pc := 18) E.1 E.2 dX8_projectUnder_18 rfl (lv_at hl 2 rfl) ?_
    refine z_rVi (pc := 19) (As := [.int (iI q)]) (rest := []) E hml hown hts (mX8_projectOf lL G o μ σ φ κ β ω q hI (Or.inr hq)) (cwV 1 hts gX8_projectUnder_X8_projectOf rfl rfl rfl vdX8_projectOf ⟨Nat.le_of_ble_eq_true rfl, Nat.le_of_ble_eq_true rfl⟩) (oB.recv hK hM.1 rfl) hM hK rfl hl.1 rfl dX8_projectUnder_19 hcs (Nat.le_of_ble_eq_true rfl) ?_
    exact z_retRi E hr (congrArg iI (by first | (unfold puS; rw [if_pos h6]) | (unfold puS; rw [if_neg h6]))) hlocks dX8_projectUnder_22
  · refine lv_aload_n (pc := 9) E.1 E.2 dX8_projectUnder_9 rfl (lv_at hl 0 rfl) ?_
    refine lv_iload_n (pc := 10) E.1 E.2 dX8_projectUnder_10 rfl (lv_at hl 1 rfl) ?_
    refine z_rVi (pc := 11) (As := [.int (iI f)]) (rest := []) E hml hown hts (mX8_tagOf lL G o μ σ φ κ β ω f (by omega)) (cwV 1 hts gX8_projectUnder_X8_tagOf rfl rfl rfl vdX8_tagOf ⟨Nat.le_of_ble_eq_true rfl, Nat.le_of_ble_eq_true rfl⟩) (oB.recv hK hM.1 rfl) hM hK rfl hl.1 rfl dX8_projectUnder_11 hcs (Nat.le_of_ble_eq_true rfl) ?_
    refine lv_goto (pc := 14) (tgt := 22) E.1 E.2 dX8_projectUnder_14 (by decide) ?_
    exact z_retRi E hr (congrArg iI (by first | (unfold puS; rw [if_pos h6]) | (unfold puS; rw [if_neg h6]))) hlocks dX8_projectUnder_22
set_option maxHeartbeats 1000000 in
set_option maxRecDepth 100000 in
theorem mX8_reasonToMove (lL : Launch) (G : GG) (o : Nat → Nat) (μ σ φ κ β ω : Int → Int) (f : Int) (q : Int) (hI : In σ) (hf : 0 ≤ f ∧ f < σ 2) (hq : 0 ≤ q ∧ q < σ 2) : Met lL yX8_reasonToMove wsX8_reasonToMove ({ frames := 5, cells := 0, slots := 0, locals := 124 } : Room) (va_Pc [.ref (o 0), .int (iI f), .int (iI q)] (fun U => W8 G o (mV o μ) σ φ κ β ω U.heap ∧ KK G U)) (vp_Si (fun r => r = (iI (rmS σ f q)))) 0 0 (fun _ => False) := by
  refine z_met (P := (fun H : Heap => W8 G o (mV o μ) σ φ κ β ω H)) (by decide) rfl (Nat.le_of_ble_eq_true rfl) (fun pp ee ss mm below meth cC E hr hml hown hts hlocks hM hK ls hl => ?_)
  have hl : lv_has ls 3 [(0, .ref (o 0)), (1, .int (iI f)), (2, .int (iI q))] := hl
  have hcs : 0 ≤ (({ frames := 5, cells := 0, slots := 0, locals := 124 } : Room)).cells ∧ 0 ≤ (({ frames := 5, cells := 0, slots := 0, locals := 124 } : Room)).slots := ⟨Nat.zero_le _, Nat.zero_le _⟩
  have hF := hI.F
  have hMm := hI.M
  have hGn := hI.Gn
  refine lv_iload_n (pc := 0) E.1 E.2 dX8_reasonToMove_0 rfl (lv_at hl 1 rfl) ?_
  refine z_if_eq (pc := 1) (tgt := 13) E ⟨by omega, by omega⟩ dX8_reasonToMove_1 (by decide) (fun h1 => ?_) (fun h1 => ?_)
  · refine z_iconst (pc := 13) E dX8_reasonToMove_13 ?_
    refine lv_goto (pc := 14) (tgt := 33) E.1 E.2 dX8_reasonToMove_14 (by decide) ?_
    exact z_retRi E hr (congrArg iI (by first | (unfold rmS; rw [if_pos (Or.inl h1)]) | (unfold rmS; rw [if_pos (Or.inr h10)]) | (unfold rmS; rw [if_neg (fun z => z.elim h1 h10)]))) hlocks dX8_reasonToMove_33
  · refine lv_aload_n (pc := 4) E.1 E.2 dX8_reasonToMove_4 rfl (lv_at hl 0 rfl) ?_
    refine lv_iload_n (pc := 5) E.1 E.2 dX8_reasonToMove_5 rfl (lv_at hl 2 rfl) ?_
    refine lv_iload_n (pc := 6) E.1 E.2 dX8_reasonToMove_6 rfl (lv_at hl 1 rfl) ?_
    refine z_rVi (pc := 7) (As := [.int (iI q), .int (iI f)]) (rest := []) E hml hown hts (mX8_isBelow lL G o μ σ φ κ β ω q f hI (Or.inr hq) (by omega)) (cwV 2 hts gX8_reasonToMove_X8_isBelow rfl rfl rfl vdX8_isBelow ⟨Nat.le_of_ble_eq_true rfl, Nat.le_of_ble_eq_true rfl⟩) (oB.recv hK hM.1 rfl) hM hK rfl hl.1 rfl dX8_reasonToMove_7 hcs (Nat.le_of_ble_eq_true rfl) ?_
    refine z_ifb_eq (pc := 10) (tgt := 17) E dX8_reasonToMove_10 (by decide) (fun h10 => ?_) (fun h10 => ?_)
    · refine lv_aload_n (pc := 17) E.1 E.2 dX8_reasonToMove_17 rfl (lv_at hl 0 rfl) ?_
      refine lv_iload_n (pc := 18) E.1 E.2 dX8_reasonToMove_18 rfl (lv_at hl 1 rfl) ?_
      refine lv_aload_n (pc := 19) E.1 E.2 dX8_reasonToMove_19 rfl (lv_at hl 0 rfl) ?_
      refine lv_iload_n (pc := 20) E.1 E.2 dX8_reasonToMove_20 rfl (lv_at hl 1 rfl) ?_
      refine z_rVi (pc := 21) (As := [.int (iI f)]) (rest := [.int (iI f), .ref (o 0)]) E hml hown hts (mX8_projectOf lL G o μ σ φ κ β ω f hI (Or.inr hf)) (cwV 1 hts gX8_reasonToMove_X8_projectOf rfl rfl rfl vdX8_projectOf ⟨Nat.le_of_ble_eq_true rfl, Nat.le_of_ble_eq_true rfl⟩) (oB.recv hK hM.1 rfl) hM hK rfl hl.1 rfl dX8_reasonToMove_21 hcs (Nat.le_of_ble_eq_true rfl) ?_
      have hp1 := hI.pjr (f := f) (Or.inr hf)
      refine lv_aload_n (pc := 24) E.1 E.2 dX8_reasonToMove_24 rfl (lv_at hl 0 rfl) ?_
      refine lv_iload_n (pc := 25) E.1 E.2 dX8_reasonToMove_25 rfl (lv_at hl 1 rfl) ?_
      refine lv_iload_n (pc := 26) E.1 E.2 dX8_reasonToMove_26 rfl (lv_at hl 2 rfl) ?_
      refine z_rVi (pc := 27) (As := [.int (iI f), .int (iI q)]) (rest := [.int (iI (pjF σ f)), .int (iI f), .ref (o 0)]) E hml hown hts (mX8_projectUnder lL G o μ σ φ κ β ω f q hI (by omega) (by omega)) (cwV 2 hts gX8_reasonToMove_X8_projectUnder rfl rfl rfl vdX8_projectUnder ⟨Nat.le_of_ble_eq_true rfl, Nat.le_of_ble_eq_true rfl⟩) (oB.recv hK hM.1 rfl) hM hK rfl hl.1 rfl dX8_reasonToMove_27 hcs (Nat.le_of_ble_eq_true rfl) ?_
      have hp2 := hI.pub hf hq
      refine z_rVi (pc := 30) (As := [.int (iI f), .int (iI (pjF σ f)), .int (iI (puS σ f q))]) (rest := []) E hml hown hts (mX8_reasonToPass lL G o μ σ φ κ β ω f (pjF σ f) (puS σ f q) hI (by omega) (by omega) (by omega)) (cwV 3 hts gX8_reasonToMove_X8_reasonToPass rfl rfl rfl vdX8_reasonToPass ⟨Nat.le_of_ble_eq_true rfl, Nat.le_of_ble_eq_true rfl⟩) (oB.recv hK hM.1 rfl) hM hK rfl hl.1 rfl dX8_reasonToMove_30 hcs (Nat.le_of_ble_eq_true rfl) ?_
      exact z_retRi E hr (congrArg iI (by first | (unfold rmS; rw [if_pos (Or.inl h1)]) | (unfold rmS; rw [if_pos (Or.inr h10)]) | (unfold rmS; rw [if_neg (fun z => z.elim h1 h10)]))) hlocks dX8_reasonToMove_33
    · refine z_iconst (pc := 13) E dX8_reasonToMove_13 ?_
      refine lv_goto (pc := 14) (tgt := 33) E.1 E.2 dX8_reasonToMove_14 (by decide) ?_
      exact z_retRi E hr (congrArg iI (by first | (unfold rmS; rw [if_pos (Or.inl h1)]) | (unfold rmS; rw [if_pos (Or.inr h10)]) | (unfold rmS; rw [if_neg (fun z => z.elim h1 h10)]))) hlocks dX8_reasonToMove_33
set_option maxHeartbeats 1000000 in
set_option maxRecDepth 100000 in
theorem mX8_reasonToCarry (lL : Launch) (G : GG) (o : Nat → Nat) (μ σ φ κ β ω : Int → Int) (k : Int) (f : Int) (hI : In σ) (hk : 0 ≤ k ∧ k < σ 3) (hf : 0 ≤ f ∧ f < σ 2) : Met lL yX8_reasonToCarry wsX8_reasonToCarry ({ frames := 4, cells := 0, slots := 0, locals := 101 } : Room) (va_Pc [.ref (o 0), .int (iI k), .int (iI f)] (fun U => W8 G o (mV o μ) σ φ κ β ω U.heap ∧ KK G U)) (vp_Si (fun r => r = (iI (rcS σ k f)))) 0 0 (fun _ => False) := by
  refine z_met (P := (fun H : Heap => W8 G o (mV o μ) σ φ κ β ω H)) (by decide) rfl (Nat.le_of_ble_eq_true rfl) (fun pp ee ss mm below meth cC E hr hml hown hts hlocks hM hK ls hl => ?_)
  have hl : lv_has ls 4 [(0, .ref (o 0)), (1, .int (iI k)), (2, .int (iI f))] := hl
  have hcs : 0 ≤ (({ frames := 4, cells := 0, slots := 0, locals := 101 } : Room)).cells ∧ 0 ≤ (({ frames := 4, cells := 0, slots := 0, locals := 101 } : Room)).slots := ⟨Nat.zero_le _, Nat.zero_le _⟩
  have hin8 : ∀ w ∈ wsX80, w ∈ wsX8_reasonToCarry := fun w h => List.mem_cons_of_mem _ (List.mem_append_right _ (h))
  have hF := hI.F
  have hMm := hI.M
  have hGn := hI.Gn
  have hfk := hI.fil hk.1 hk.2
  have hp1 := hI.pjr (f := f) (Or.inr hf)
  have hp2 := hI.pjr (f := σ (189 + k)) (Or.inr hfk.1)
  refine lv_aload_n (pc := 0) E.1 E.2 dX8_reasonToCarry_0 rfl (lv_at hl 0 rfl) ?_
  refine lv_iload_n (pc := 1) E.1 E.2 dX8_reasonToCarry_1 rfl (lv_at hl 2 rfl) ?_
  refine z_rVi (pc := 2) (As := [.int (iI f)]) (rest := []) E hml hown hts (mX8_projectOf lL G o μ σ φ κ β ω f hI (Or.inr hf)) (cwV 1 hts gX8_reasonToCarry_X8_projectOf rfl rfl rfl vdX8_projectOf ⟨Nat.le_of_ble_eq_true rfl, Nat.le_of_ble_eq_true rfl⟩) (oB.recv hK hM.1 rfl) hM hK rfl hl.1 rfl dX8_reasonToCarry_2 hcs (Nat.le_of_ble_eq_true rfl) ?_
  refine lv_istore_n (pc := 5) (lv' := [(3, .int (iI (pjF σ f))), (0, .ref (o 0)), (1, .int (iI k)), (2, .int (iI f))]) E.1 E.2 dX8_reasonToCarry_5 rfl hl (by decide) rfl (fun ls hl => ?_)
  refine lv_iload_n (pc := 6) E.1 E.2 dX8_reasonToCarry_6 rfl (lv_at hl 0 rfl) ?_
  refine lv_aload_n (pc := 7) E.1 E.2 dX8_reasonToCarry_7 rfl (lv_at hl 1 rfl) ?_
  refine lv_aload_n (pc := 8) E.1 E.2 dX8_reasonToCarry_8 rfl (lv_at hl 1 rfl) ?_
  refine lv_iload_n (pc := 9) E.1 E.2 dX8_reasonToCarry_9 rfl (lv_at hl 2 rfl) ?_
  refine z_rVi (pc := 10) (As := [.int (iI k)]) (rest := [.ref (o 0), .int (iI (pjF σ f))]) E hml hown hts (mX8_folderOf lL G o μ σ φ κ β ω k (by omega)) (cwV 1 hts gX8_reasonToCarry_X8_folderOf rfl rfl rfl vdX8_folderOf ⟨Nat.le_of_ble_eq_true rfl, Nat.le_of_ble_eq_true rfl⟩) (oB.recv hK hM.1 rfl) hM hK rfl hl.1 rfl dX8_reasonToCarry_10 hcs (Nat.le_of_ble_eq_true rfl) ?_
  refine z_rVi (pc := 13) (As := [.int (iI (σ (189 + k)))]) (rest := [.int (iI (pjF σ f))]) E hml hown hts (mX8_projectOf lL G o μ σ φ κ β ω (σ (189 + k)) hI (Or.inr hfk.1)) (cwV 1 hts gX8_reasonToCarry_X8_projectOf rfl rfl rfl vdX8_projectOf ⟨Nat.le_of_ble_eq_true rfl, Nat.le_of_ble_eq_true rfl⟩) (oB.recv hK hM.1 rfl) hM hK rfl hl.1 rfl dX8_reasonToCarry_13 hcs (Nat.le_of_ble_eq_true rfl) ?_
  refine z_icmp_ne (pc := 16) (tgt := 23) E ⟨by omega, by omega⟩ ⟨by omega, by omega⟩ dX8_reasonToCarry_16 (by decide) (fun h16 => ?_) (fun h16 => ?_)
  · refine lv_aload_n (pc := 23) E.1 E.2 dX8_reasonToCarry_23 rfl (lv_at hl 1 rfl) ?_
    refine lv_iload_n (pc := 24) E.1 E.2 dX8_reasonToCarry_24 rfl (lv_at hl 0 rfl) ?_
    refine lv_aload_n (pc := 25) E.1 E.2 dX8_reasonToCarry_25 rfl (lv_at hl 1 rfl) ?_
    refine g8_0 (pc := 26) E hts hin8 hown hK hM.1 (hts _ (List.mem_of_getElem? (i := 1) rfl)) dX8_reasonToCarry_26 ?_
    refine z_sipush (pc := 29) E (by decide) dX8_reasonToCarry_29 ?_
    refine lv_iload_n (pc := 32) E.1 E.2 dX8_reasonToCarry_32 rfl (lv_at hl 2 rfl) ?_
    refine z_iadd (pc := 33) E dX8_reasonToCarry_33 ?_
    refine z_laload (pc := 34) E hK hM.2.1 ⟨by omega, by omega⟩ (by decide) dX8_reasonToCarry_34 ?_
    have hb34 := hI.bd (249 + k)
    refine z_lconst (pc := 35) (v := 1) E (by decide) dX8_reasonToCarry_35 ?_
    refine z_rVi (pc := 36) (As := [.int (iI (pjF σ f)), .long (iL (σ (249 + k))), .long (iL 1)]) (rest := []) E hml hown hts (mX8_reasonFor lL G o μ σ φ κ β ω (pjF σ f) (σ (249 + k)) 1 hI (by omega) (by omega) (by omega)) (cwV 3 hts gX8_reasonToCarry_X8_reasonFor rfl rfl rfl vdX8_reasonFor ⟨Nat.le_of_ble_eq_true rfl, Nat.le_of_ble_eq_true rfl⟩) (oB.recv hK hM.1 rfl) hM hK rfl hl.1 rfl dX8_reasonToCarry_36 hcs (Nat.le_of_ble_eq_true rfl) ?_
    exact z_retRi E hr (congrArg iI (by first | (unfold rcS; rw [if_pos h16]) | (unfold rcS; rw [if_neg h16]))) hlocks dX8_reasonToCarry_39
  · refine z_iconst (pc := 19) E dX8_reasonToCarry_19 ?_
    refine lv_goto (pc := 20) (tgt := 39) E.1 E.2 dX8_reasonToCarry_20 (by decide) ?_
    exact z_retRi E hr (congrArg iI (by first | (unfold rcS; rw [if_pos h16]) | (unfold rcS; rw [if_neg h16]))) hlocks dX8_reasonToCarry_39
set_option maxHeartbeats 1000000 in
set_option maxRecDepth 100000 in
theorem mX8_childBehind (lL : Launch) (G : GG) (o : Nat → Nat) (μ σ φ κ β ω : Int → Int) (f : Int) (a : Int) (hI : In σ) (hf : -2147483648 ≤ f ∧ f < 2147483648) (ha : -1 ≤ a ∧ a < 40) : Met lL yX8_childBehind wsX8_childBehind ({ frames := 1, cells := 0, slots := 0, locals := 21 } : Room) (va_Pc [.ref (o 0), .int (iI f), .int (iI a)] (fun U => W8 G o (mV o μ) σ φ κ β ω U.heap ∧ KK G U)) (vp_Si (fun r => r = (iI (cbS σ f (a + 1))))) 0 0 (fun _ => False) := by
  refine z_met (P := (fun H : Heap => W8 G o (mV o μ) σ φ κ β ω H)) (by decide) rfl (Nat.le_of_ble_eq_true rfl) (fun pp ee ss mm below meth cC E hr hml hown hts hlocks hM hK ls hl => ?_)
  have hl : lv_has ls 4 [(0, .ref (o 0)), (1, .int (iI f)), (2, .int (iI a))] := hl
  have hcs : 0 ≤ (({ frames := 1, cells := 0, slots := 0, locals := 21 } : Room)).cells ∧ 0 ≤ (({ frames := 1, cells := 0, slots := 0, locals := 21 } : Room)).slots := ⟨Nat.zero_le _, Nat.zero_le _⟩
  have hin8 : ∀ w ∈ wsX80, w ∈ wsX8_childBehind := fun w h => List.mem_cons_of_mem _ (List.mem_append_right _ (h))
  have hF := hI.F
  have hMm := hI.M
  have hGn := hI.Gn
  refine lv_iload_n (pc := 0) E.1 E.2 dX8_childBehind_0 rfl (lv_at hl 2 rfl) ?_
  refine z_iconst (pc := 1) E dX8_childBehind_1 ?_
  refine z_iadd (pc := 2) E dX8_childBehind_2 ?_
  refine lv_istore_n (pc := 3) (lv' := [(3, .int (iI (a + 1))), (0, .ref (o 0)), (1, .int (iI f)), (2, .int (iI a))]) E.1 E.2 dX8_childBehind_3 rfl hl (by decide) rfl (fun ls hl => ?_)
  suffices L4 : ∀ (nf : Nat), ∀ (k : Int), (0 ≤ k ∧ k ≤ 40) → (cbS σ f k = cbS σ f (a + 1)) → ((40 - k).toNat) < nf → ∀ ls : Array Slot, lv_has ls 4 [(3, .int (iI k)), (0, .ref (o 0)), (1, .int (iI f)), (2, .int (iI a))] → W pp lL ee ({ frames := 1, cells := 0, slots := 0, locals := 21 } : Room) ss mm [.ref (o 0), .int (iI f), .int (iI a)].toArray below meth cC ss.heap [] 0 0 (MQ below (vp_Si (fun r => r = (iI (cbS σ f (a + 1))))) [.ref (o 0), .int (iI f), .int (iI a)].toArray ss 0 0 (fun _ => False)) (F0 mm 4 ls []) from L4 _ (a + 1) (by omega) rfl (Nat.lt_succ_self _) ls (lv_sub hl [0, 1, 2, 3] rfl)
  intro nfL4
  induction nfL4 with
  | zero => intro k hk he hmzL4; exact absurd hmzL4 (Nat.not_lt_zero _)
  | succ nfL4 ihL4 =>
    intro k hk he hmzL4 ls hl
    refine lv_iload_n (pc := 4) E.1 E.2 dX8_childBehind_4 rfl (lv_at hl 0 rfl) ?_
    refine z_i2l (pc := 5) E ⟨by omega, by omega⟩ dX8_childBehind_5 ?_
    refine lv_aload_n (pc := 6) E.1 E.2 dX8_childBehind_6 rfl (lv_at hl 1 rfl) ?_
    refine g8_0 (pc := 7) E hts hin8 hown hK hM.1 (hts _ (List.mem_of_getElem? (i := 1) rfl)) dX8_childBehind_7 ?_
    refine z_iconst (pc := 10) E dX8_childBehind_10 ?_
    refine z_laload (pc := 11) E hK hM.2.1 ⟨by omega, by omega⟩ (by decide) dX8_childBehind_11 ?_
    have hb11 := hI.bd 2
    refine z_lcmp_ge (pc := 12) (tgt := 33) E ⟨by omega, by omega⟩ ⟨by omega, by omega⟩ dX8_childBehind_12 dX8_childBehind_13 (by decide) (fun h12 => ?_) (fun h12 => ?_)
    · refine z_iconst (pc := 33) E dX8_childBehind_33 ?_
      exact z_retRi E hr (congrArg iI (by first | (rw [← he, cbS_s (by omega), if_pos h22]) | (rw [← he, cbS_n (by omega)]))) hlocks dX8_childBehind_34
    · refine lv_aload_n (pc := 16) E.1 E.2 dX8_childBehind_16 rfl (lv_at hl 1 rfl) ?_
      refine lv_iload_n (pc := 17) E.1 E.2 dX8_childBehind_17 rfl (lv_at hl 0 rfl) ?_
      refine z_rVi (pc := 18) (As := [.int (iI k)]) (rest := []) E hml hown hts (mX8_parentOf lL G o μ σ φ κ β ω k (by omega)) (cwV 1 hts gX8_childBehind_X8_parentOf rfl rfl rfl vdX8_parentOf ⟨Nat.le_of_ble_eq_true rfl, Nat.le_of_ble_eq_true rfl⟩) (oB.recv hK hM.1 rfl) hM hK rfl hl.1 rfl dX8_childBehind_18 hcs (Nat.le_of_ble_eq_true rfl) ?_
      have hpk := hI.par (f := k) hk.1 (by omega)
      refine lv_iload_n (pc := 21) E.1 E.2 dX8_childBehind_21 rfl (lv_at hl 2 rfl) ?_
      refine z_icmp_ne (pc := 22) (tgt := 27) E ⟨by omega, by omega⟩ ⟨by omega, by omega⟩ dX8_childBehind_22 (by decide) (fun h22 => ?_) (fun h22 => ?_)
      · refine lv_iinc (pc := 27) (v := iI (k + 1)) (lv' := [(3, .int (iI (k + 1))), (0, .ref (o 0)), (1, .int (iI f)), (2, .int (iI a))]) E.1 E.2 dX8_childBehind_27 hl (k := 0) rfl (iI_add _ _) (by decide) rfl (fun ls hl => ?_)
        refine lv_goto (pc := 30) (tgt := 4) E.1 E.2 dX8_childBehind_30 (by decide) ?_
        exact ihL4 (k + 1) (by omega) (by rw [← he, cbS_s (k := k) (by omega), if_neg h22]) (by omega) ls (lv_sub hl [0, 1, 2, 3] rfl)
      · refine lv_iload_n (pc := 25) E.1 E.2 dX8_childBehind_25 rfl (lv_at hl 0 rfl) ?_
        exact z_retRi E hr (congrArg iI (by first | (rw [← he, cbS_s (by omega), if_pos h22]) | (rw [← he, cbS_n (by omega)]))) hlocks dX8_childBehind_26
set_option maxHeartbeats 1000000 in
set_option maxRecDepth 100000 in
theorem mX8_hasGift (lL : Launch) (G : GG) (o : Nat → Nat) (μ σ φ κ β ω : Int → Int) (p : Int) (hI : In σ) (hp : -2147483648 ≤ p ∧ p < 2147483648) : Met lL yX8_hasGift wsX8_hasGift ({ frames := 0, cells := 0, slots := 0, locals := 0 } : Room) (va_Pc [.ref (o 0), .int (iI p)] (fun U => W8 G o (mV o μ) σ φ κ β ω U.heap ∧ KK G U)) (vp_Si (fun r => r = (iI (if hgS σ p then 1 else 0)))) 0 0 (fun _ => False) := by
  refine z_met (P := (fun H : Heap => W8 G o (mV o μ) σ φ κ β ω H)) (by decide) rfl (Nat.le_of_ble_eq_true rfl) (fun pp ee ss mm below meth cC E hr hml hown hts hlocks hM hK ls hl => ?_)
  have hl : lv_has ls 4 [(0, .ref (o 0)), (1, .int (iI p))] := hl
  have hcs : 0 ≤ (({ frames := 0, cells := 0, slots := 0, locals := 0 } : Room)).cells ∧ 0 ≤ (({ frames := 0, cells := 0, slots := 0, locals := 0 } : Room)).slots := ⟨Nat.zero_le _, Nat.zero_le _⟩
  have hin8 : ∀ w ∈ wsX80, w ∈ wsX8_hasGift := fun w h => List.mem_cons_of_mem _ (List.mem_append_right _ (h))
  have hF := hI.F
  have hMm := hI.M
  have hGn := hI.Gn
  refine z_iconst (pc := 0) E dX8_hasGift_0 ?_
  refine lv_istore_n (pc := 1) (lv' := [(2, .int (iI 0)), (0, .ref (o 0)), (1, .int (iI p))]) E.1 E.2 dX8_hasGift_1 rfl hl (by decide) rfl (fun ls hl => ?_)
  refine z_iconst (pc := 2) E dX8_hasGift_2 ?_
  refine lv_istore_n (pc := 3) (lv' := [(3, .int (iI 0)), (2, .int (iI 0)), (0, .ref (o 0)), (1, .int (iI p))]) E.1 E.2 dX8_hasGift_3 rfl hl (by decide) rfl (fun ls hl => ?_)
  suffices L4 : ∀ (nf : Nat), ∀ (a k : Int), (0 ≤ k ∧ k ≤ σ 4) → (a = 0 ∨ a = 1) → (a = 1 ↔ 0 < cn (hgP σ p) k.toNat) → ((σ 4 - k).toNat) < nf → ∀ ls : Array Slot, lv_has ls 4 [(3, .int (iI k)), (2, .int (iI a)), (0, .ref (o 0)), (1, .int (iI p))] → W pp lL ee ({ frames := 0, cells := 0, slots := 0, locals := 0 } : Room) ss mm [.ref (o 0), .int (iI p)].toArray below meth cC ss.heap [] 0 0 (MQ below (vp_Si (fun r => r = (iI (if hgS σ p then 1 else 0)))) [.ref (o 0), .int (iI p)].toArray ss 0 0 (fun _ => False)) (F0 mm 4 ls []) from L4 _ 0 0 (by omega) (Or.inl rfl) (by simp [cn]) (Nat.lt_succ_self _) ls (lv_sub hl [0, 1, 2, 3] rfl)
  intro nfL4
  induction nfL4 with
  | zero => intro a k hk ha hn hmzL4; exact absurd hmzL4 (Nat.not_lt_zero _)
  | succ nfL4 ihL4 =>
    intro a k hk ha hn hmzL4 ls hl
    refine lv_iload_n (pc := 4) E.1 E.2 dX8_hasGift_4 rfl (lv_at hl 0 rfl) ?_
    refine z_i2l (pc := 5) E ⟨by omega, by omega⟩ dX8_hasGift_5 ?_
    refine lv_aload_n (pc := 6) E.1 E.2 dX8_hasGift_6 rfl (lv_at hl 2 rfl) ?_
    refine g8_0 (pc := 7) E hts hin8 hown hK hM.1 (hts _ (List.mem_of_getElem? (i := 1) rfl)) dX8_hasGift_7 ?_
    refine z_iconst (pc := 10) E dX8_hasGift_10 ?_
    refine z_laload (pc := 11) E hK hM.2.1 ⟨by omega, by omega⟩ (by decide) dX8_hasGift_11 ?_
    have hb11 := hI.bd 4
    refine z_lcmp_ge (pc := 12) (tgt := 72) E ⟨by omega, by omega⟩ ⟨by omega, by omega⟩ dX8_hasGift_12 dX8_hasGift_13 (by decide) (fun h12 => ?_) (fun h12 => ?_)
    · refine lv_iload_n (pc := 72) E.1 E.2 dX8_hasGift_72 rfl (lv_at hl 1 rfl) ?_
      exact z_retRz E hr (by rcases ha with q | q <;> rw [q] <;> rfl) (congrArg iI (by (have e : k = σ 4 := by omega); rw [e] at hn; (by_cases z : hgS σ p); (rw [if_pos z]; exact hn.mpr z); (rw [if_neg z]; have h9 : ¬ a = 1 := fun q => z (hn.mp q); omega))) hlocks dX8_hasGift_73
    · refine lv_iload_n (pc := 16) E.1 E.2 dX8_hasGift_16 rfl (lv_at hl 1 rfl) ?_
      refine z_if_ne (pc := 17) (tgt := 60) E ⟨by omega, by omega⟩ dX8_hasGift_17 (by decide) (fun h17 => ?_) (fun h17 => ?_)
      · refine z_iconst (pc := 60) E dX8_hasGift_60 ?_
        refine lv_goto (pc := 61) (tgt := 65) E.1 E.2 dX8_hasGift_61 (by decide) ?_
        refine lv_istore_n (pc := 65) (lv' := [(2, .int (iI 1)), (3, .int (iI k)), (0, .ref (o 0)), (1, .int (iI p))]) E.1 E.2 dX8_hasGift_65 rfl hl (by decide) rfl (fun ls hl => ?_)
        refine lv_iinc (pc := 66) (v := iI (k + 1)) (lv' := [(3, .int (iI (k + 1))), (2, .int (iI 1)), (0, .ref (o 0)), (1, .int (iI p))]) E.1 E.2 dX8_hasGift_66 hl (k := 1) rfl (iI_add _ _) (by decide) rfl (fun ls hl => ?_)
        refine lv_goto (pc := 69) (tgt := 4) E.1 E.2 dX8_hasGift_69 (by decide) ?_
        exact ihL4 1 (k + 1) (by omega) (by omega) (by have hc := hgP_b σ p k; have hcc := (cn_bd (p := hgP σ p) (b := 1) (hgP_b σ p) k.toNat).1; rw [cn_s _ hk.1]; omega) (by omega) ls (lv_sub hl [0, 1, 2, 3] rfl)
      · refine lv_aload_n (pc := 20) E.1 E.2 dX8_hasGift_20 rfl (lv_at hl 2 rfl) ?_
        refine g8_0 (pc := 21) E hts hin8 hown hK hM.1 (hts _ (List.mem_of_getElem? (i := 1) rfl)) dX8_hasGift_21 ?_
        refine z_sipush (pc := 24) E (by decide) dX8_hasGift_24 ?_
        refine z_iconst (pc := 27) E dX8_hasGift_27 ?_
        refine lv_iload_n (pc := 28) E.1 E.2 dX8_hasGift_28 rfl (lv_at hl 0 rfl) ?_
        refine z_imul (pc := 29) E dX8_hasGift_29 ?_
        refine z_iadd (pc := 30) E dX8_hasGift_30 ?_
        refine z_iconst (pc := 31) E dX8_hasGift_31 ?_
        refine z_iadd (pc := 32) E dX8_hasGift_32 ?_
        refine z_laload (pc := 33) E hK hM.2.1 ⟨by omega, by omega⟩ (by decide) dX8_hasGift_33 ?_
        have hb33 := hI.bd ((309 + (4 * k)) + 0)
        refine lv_iload_n (pc := 34) E.1 E.2 dX8_hasGift_34 rfl (lv_at hl 3 rfl) ?_
        refine z_i2l (pc := 35) E ⟨by omega, by omega⟩ dX8_hasGift_35 ?_
        refine z_lcmp_eq (pc := 36) (tgt := 60) E ⟨by omega, by omega⟩ ⟨by omega, by omega⟩ dX8_hasGift_36 dX8_hasGift_37 (by decide) (fun h36 => ?_) (fun h36 => ?_)
        · have e0 : σ (309 + 4 * k + 0) = σ (309 + 4 * k) := by rw [Int.add_zero]
          have hz : hgP σ p k = 1 := by unfold hgP; exact if_pos (Or.inl (e0.symm.trans h36))
          refine z_iconst (pc := 60) E dX8_hasGift_60 ?_
          refine lv_goto (pc := 61) (tgt := 65) E.1 E.2 dX8_hasGift_61 (by decide) ?_
          refine lv_istore_n (pc := 65) (lv' := [(2, .int (iI 1)), (3, .int (iI k)), (0, .ref (o 0)), (1, .int (iI p))]) E.1 E.2 dX8_hasGift_65 rfl hl (by decide) rfl (fun ls hl => ?_)
          refine lv_iinc (pc := 66) (v := iI (k + 1)) (lv' := [(3, .int (iI (k + 1))), (2, .int (iI 1)), (0, .ref (o 0)), (1, .int (iI p))]) E.1 E.2 dX8_hasGift_66 hl (k := 1) rfl (iI_add _ _) (by decide) rfl (fun ls hl => ?_)
          refine lv_goto (pc := 69) (tgt := 4) E.1 E.2 dX8_hasGift_69 (by decide) ?_
          exact ihL4 1 (k + 1) (by omega) (by omega) (by have hc := hgP_b σ p k; have hcc := (cn_bd (p := hgP σ p) (b := 1) (hgP_b σ p) k.toNat).1; rw [cn_s _ hk.1]; omega) (by omega) ls (lv_sub hl [0, 1, 2, 3] rfl)
        · have e0 : σ (309 + 4 * k + 0) = σ (309 + 4 * k) := by rw [Int.add_zero]
          refine lv_aload_n (pc := 40) E.1 E.2 dX8_hasGift_40 rfl (lv_at hl 2 rfl) ?_
          refine g8_0 (pc := 41) E hts hin8 hown hK hM.1 (hts _ (List.mem_of_getElem? (i := 1) rfl)) dX8_hasGift_41 ?_
          refine z_sipush (pc := 44) E (by decide) dX8_hasGift_44 ?_
          refine z_iconst (pc := 47) E dX8_hasGift_47 ?_
          refine lv_iload_n (pc := 48) E.1 E.2 dX8_hasGift_48 rfl (lv_at hl 0 rfl) ?_
          refine z_imul (pc := 49) E dX8_hasGift_49 ?_
          refine z_iadd (pc := 50) E dX8_hasGift_50 ?_
          refine z_iconst (pc := 51) E dX8_hasGift_51 ?_
          refine z_iadd (pc := 52) E dX8_hasGift_52 ?_
          refine z_laload (pc := 53) E hK hM.2.1 ⟨by omega, by omega⟩ (by decide) dX8_hasGift_53 ?_
          have hb53 := hI.bd ((309 + (4 * k)) + 1)
          refine lv_iload_n (pc := 54) E.1 E.2 dX8_hasGift_54 rfl (lv_at hl 3 rfl) ?_
          refine z_i2l (pc := 55) E ⟨by omega, by omega⟩ dX8_hasGift_55 ?_
          refine z_lcmp_ne (pc := 56) (tgt := 64) E ⟨by omega, by omega⟩ ⟨by omega, by omega⟩ dX8_hasGift_56 dX8_hasGift_57 (by decide) (fun h56 => ?_) (fun h56 => ?_)
          · have hz : hgP σ p k = 0 := by unfold hgP; exact if_neg (fun q => q.elim (fun q => h36 (e0.trans q)) h56)
            refine z_iconst (pc := 64) E dX8_hasGift_64 ?_
            refine lv_istore_n (pc := 65) (lv' := [(2, .int (iI 0)), (3, .int (iI k)), (0, .ref (o 0)), (1, .int (iI p))]) E.1 E.2 dX8_hasGift_65 rfl hl (by decide) rfl (fun ls hl => ?_)
            refine lv_iinc (pc := 66) (v := iI (k + 1)) (lv' := [(3, .int (iI (k + 1))), (2, .int (iI 0)), (0, .ref (o 0)), (1, .int (iI p))]) E.1 E.2 dX8_hasGift_66 hl (k := 1) rfl (iI_add _ _) (by decide) rfl (fun ls hl => ?_)
            refine lv_goto (pc := 69) (tgt := 4) E.1 E.2 dX8_hasGift_69 (by decide) ?_
            exact ihL4 0 (k + 1) (by omega) (by omega) (by have hc := hgP_b σ p k; have hcc := (cn_bd (p := hgP σ p) (b := 1) (hgP_b σ p) k.toNat).1; rw [cn_s _ hk.1]; omega) (by omega) ls (lv_sub hl [0, 1, 2, 3] rfl)
          · have hz : hgP σ p k = 1 := by unfold hgP; exact if_pos (Or.inr h56)
            refine z_iconst (pc := 60) E dX8_hasGift_60 ?_
            refine lv_goto (pc := 61) (tgt := 65) E.1 E.2 dX8_hasGift_61 (by decide) ?_
            refine lv_istore_n (pc := 65) (lv' := [(2, .int (iI 1)), (3, .int (iI k)), (0, .ref (o 0)), (1, .int (iI p))]) E.1 E.2 dX8_hasGift_65 rfl hl (by decide) rfl (fun ls hl => ?_)
            refine lv_iinc (pc := 66) (v := iI (k + 1)) (lv' := [(3, .int (iI (k + 1))), (2, .int (iI 1)), (0, .ref (o 0)), (1, .int (iI p))]) E.1 E.2 dX8_hasGift_66 hl (k := 1) rfl (iI_add _ _) (by decide) rfl (fun ls hl => ?_)
            refine lv_goto (pc := 69) (tgt := 4) E.1 E.2 dX8_hasGift_69 (by decide) ?_
            exact ihL4 1 (k + 1) (by omega) (by omega) (by have hc := hgP_b σ p k; have hcc := (cn_bd (p := hgP σ p) (b := 1) (hgP_b σ p) k.toNat).1; rw [cn_s _ hk.1]; omega) (by omega) ls (lv_sub hl [0, 1, 2, 3] rfl)
set_option maxHeartbeats 1000000 in
set_option maxRecDepth 100000 in
theorem mX8_sooner (lL : Launch) (G : GG) (o : Nat → Nat) (μ σ φ κ β ω : Int → Int) (a : Int) (t : Int) (hI : In σ) (ha : -4611686018427387904 ≤ a ∧ a < 4611686018427387904) (ht : -4611686018427387904 ≤ t ∧ t < 4611686018427387904) : Met lL yX8_sooner wsX8_sooner ({ frames := 0, cells := 0, slots := 0, locals := 0 } : Room) (va_Pc [.ref (o 0), .long (iL a), .long (iL t)] (fun U => W8 G o (mV o μ) σ φ κ β ω U.heap ∧ KK G U)) (vp_Sl (fun r => r = (iL (snS σ a t)))) 0 0 (fun _ => False) := by
  refine z_met (P := (fun H : Heap => W8 G o (mV o μ) σ φ κ β ω H)) (by decide) rfl (Nat.le_of_ble_eq_true rfl) (fun pp ee ss mm below meth cC E hr hml hown hts hlocks hM hK ls hl => ?_)
  have hl : lv_has ls 5 [(0, .ref (o 0)), (1, .long (iL a)), (3, .long (iL t))] := hl
  have hcs : 0 ≤ (({ frames := 0, cells := 0, slots := 0, locals := 0 } : Room)).cells ∧ 0 ≤ (({ frames := 0, cells := 0, slots := 0, locals := 0 } : Room)).slots := ⟨Nat.zero_le _, Nat.zero_le _⟩
  have hin8 : ∀ w ∈ wsX80, w ∈ wsX8_sooner := fun w h => List.mem_cons_of_mem _ (List.mem_append_right _ (h))
  have hF := hI.F
  have hMm := hI.M
  have hGn := hI.Gn
  refine lv_lload_n (pc := 0) E.1 E.2 dX8_sooner_0 rfl (lv_at hl 2 rfl) ?_
  refine lv_aload_n (pc := 1) E.1 E.2 dX8_sooner_1 rfl (lv_at hl 0 rfl) ?_
  refine g8_0 (pc := 2) E hts hin8 hown hK hM.1 (hts _ (List.mem_of_getElem? (i := 1) rfl)) dX8_sooner_2 ?_
  refine z_iconst (pc := 5) E dX8_sooner_5 ?_
  refine z_laload (pc := 6) E hK hM.2.1 ⟨by omega, by omega⟩ (by decide) dX8_sooner_6 ?_
  have hb6 := hI.bd 0
  refine z_lcmp_le (pc := 7) (tgt := 29) E ⟨by omega, by omega⟩ ⟨by omega, by omega⟩ dX8_sooner_7 dX8_sooner_8 (by decide) (fun h7 => ?_) (fun h7 => ?_)
  · refine lv_lload_n (pc := 29) E.1 E.2 dX8_sooner_29 rfl (lv_at hl 1 rfl) ?_
    exact z_retRl E hr (congrArg iL (by unfold snS; split <;> omega)) hlocks dX8_sooner_30
  · refine lv_lload_n (pc := 11) E.1 E.2 dX8_sooner_11 rfl (lv_at hl 1 rfl) ?_
    refine lv_ldc2 (pc := 12) (v := iL (-1)) E.1 E.2 hown (show (Jvm.Cond.constantLong RX8 37 (iL (-1))).before _ ss = true from (hts _ (List.mem_of_getElem? (i := 2) rfl))) dX8_sooner_12 ?_
    refine z_lcmp_eq (pc := 15) (tgt := 25) E ⟨by omega, by omega⟩ (by decide) dX8_sooner_15 dX8_sooner_16 (by decide) (fun h15 => ?_) (fun h15 => ?_)
    · refine lv_lload_n (pc := 25) E.1 E.2 dX8_sooner_25 rfl (lv_at hl 2 rfl) ?_
      refine lv_goto (pc := 26) (tgt := 30) E.1 E.2 dX8_sooner_26 (by decide) ?_
      exact z_retRl E hr (congrArg iL (by unfold snS; split <;> omega)) hlocks dX8_sooner_30
    · refine lv_lload_n (pc := 19) E.1 E.2 dX8_sooner_19 rfl (lv_at hl 2 rfl) ?_
      refine lv_lload_n (pc := 20) E.1 E.2 dX8_sooner_20 rfl (lv_at hl 1 rfl) ?_
      refine z_lcmp_ge (pc := 21) (tgt := 29) E ⟨by omega, by omega⟩ ⟨by omega, by omega⟩ dX8_sooner_21 dX8_sooner_22 (by decide) (fun h21 => ?_) (fun h21 => ?_)
      · refine lv_lload_n (pc := 29) E.1 E.2 dX8_sooner_29 rfl (lv_at hl 1 rfl) ?_
        exact z_retRl E hr (congrArg iL (by unfold snS; split <;> omega)) hlocks dX8_sooner_30
      · refine lv_lload_n (pc := 25) E.1 E.2 dX8_sooner_25 rfl (lv_at hl 2 rfl) ?_
        refine lv_goto (pc := 26) (tgt := 30) E.1 E.2 dX8_sooner_26 (by decide) ?_
        exact z_retRl E hr (congrArg iL (by unfold snS; split <;> omega)) hlocks dX8_sooner_30
set_option maxHeartbeats 1000000 in
set_option maxRecDepth 100000 in
theorem mX8_isRefused (lL : Launch) (G : GG) (o : Nat → Nat) (μ σ φ κ β ω : Int → Int) (a : Int) (t : Int) (x : Int) (hI : In σ) (ha : 0 ≤ a ∧ a ≤ 7) (ht : 0 ≤ t ∧ t ≤ 7) (hx : -2147483648 ≤ x ∧ x < 2147483648) : Met lL yX8_isRefused wsX8_isRefused ({ frames := 2, cells := 0, slots := 0, locals := 50 } : Room) (va_Pc [.ref (o 0), .int (iI a), .int (iI t), .int (iI x)] (fun U => W8 G o (mV o μ) σ φ κ β ω U.heap ∧ KK G U)) (vp_Si (fun r => r = (iI (if rfS σ a t x then 1 else 0)))) 0 0 (fun _ => False) := by
  refine z_met (P := (fun H : Heap => W8 G o (mV o μ) σ φ κ β ω H)) (by decide) rfl (Nat.le_of_ble_eq_true rfl) (fun pp ee ss mm below meth cC E hr hml hown hts hlocks hM hK ls hl => ?_)
  have hl : lv_has ls 4 [(0, .ref (o 0)), (1, .int (iI a)), (2, .int (iI t)), (3, .int (iI x))] := hl
  have hcs : 0 ≤ (({ frames := 2, cells := 0, slots := 0, locals := 50 } : Room)).cells ∧ 0 ≤ (({ frames := 2, cells := 0, slots := 0, locals := 50 } : Room)).slots := ⟨Nat.zero_le _, Nat.zero_le _⟩
  have hin8 : ∀ w ∈ wsX80, w ∈ wsX8_isRefused := fun w h => List.mem_cons_of_mem _ (List.mem_append_right _ (h))
  have hF := hI.F
  have hMm := hI.M
  have hGn := hI.Gn
  have hla := hI.lmb (t := 21) (p := a) (k := 0) (Or.inr rfl) ha (Or.inl rfl)
  have hlt := hI.lmb (t := 21) (p := t) (k := 0) (Or.inr rfl) ht (Or.inl rfl)
  have hac := hI.acc (k := 2 * a + 0) (by omega) (by omega)
  refine lv_aload_n (pc := 0) E.1 E.2 dX8_isRefused_0 rfl (lv_at hl 0 rfl) ?_
  refine lv_iload_n (pc := 1) E.1 E.2 dX8_isRefused_1 rfl (lv_at hl 1 rfl) ?_
  refine z_iconst (pc := 2) E dX8_isRefused_2 ?_
  refine z_iconst (pc := 3) E dX8_isRefused_3 ?_
  refine z_rVl (pc := 4) (As := [.int (iI a), .int (iI 0), .int (iI 1)]) (rest := []) E hml hown hts (mX8_limitOf lL G o μ σ φ κ β ω a 0 1 hI (by omega) (Or.inl rfl) (Or.inr rfl)) (cwV 3 hts gX8_isRefused_X8_limitOf rfl rfl rfl vdX8_limitOf ⟨Nat.le_of_ble_eq_true rfl, Nat.le_of_ble_eq_true rfl⟩) (oB.recv hK hM.1 rfl) hM hK rfl hl.1 rfl dX8_isRefused_4 hcs (Nat.le_of_ble_eq_true rfl) ?_
  rw [show ((lmS σ (if (1 : Int) = 0 then 5 else 21) a 0 : Int)) = lmS σ 21 a 0 from rfl]
  refine lv_ldc2 (pc := 7) (v := iL (-1)) E.1 E.2 hown (show (Jvm.Cond.constantLong RX8 37 (iL (-1))).before _ ss = true from (hts _ (List.mem_of_getElem? (i := 1) rfl))) dX8_isRefused_7 ?_
  refine z_lcmp_eq (pc := 10) (tgt := 41) E ⟨by omega, by omega⟩ (by decide) dX8_isRefused_10 dX8_isRefused_11 (by decide) (fun h10 => ?_) (fun h10 => ?_)
  · refine z_iconst (pc := 41) E dX8_isRefused_41 ?_
    exact z_retRz E hr rfl (congrArg iI (by simp only [rfS] at *; split <;> omega)) hlocks dX8_isRefused_42
  · refine lv_aload_n (pc := 14) E.1 E.2 dX8_isRefused_14 rfl (lv_at hl 0 rfl) ?_
    refine lv_iload_n (pc := 15) E.1 E.2 dX8_isRefused_15 rfl (lv_at hl 2 rfl) ?_
    refine z_iconst (pc := 16) E dX8_isRefused_16 ?_
    refine z_iconst (pc := 17) E dX8_isRefused_17 ?_
    refine z_rVl (pc := 18) (As := [.int (iI t), .int (iI 0), .int (iI 1)]) (rest := []) E hml hown hts (mX8_limitOf lL G o μ σ φ κ β ω t 0 1 hI (by omega) (Or.inl rfl) (Or.inr rfl)) (cwV 3 hts gX8_isRefused_X8_limitOf rfl rfl rfl vdX8_limitOf ⟨Nat.le_of_ble_eq_true rfl, Nat.le_of_ble_eq_true rfl⟩) (oB.recv hK hM.1 rfl) hM hK rfl hl.1 rfl dX8_isRefused_18 hcs (Nat.le_of_ble_eq_true rfl) ?_
    rw [show ((lmS σ (if (1 : Int) = 0 then 5 else 21) t 0 : Int)) = lmS σ 21 t 0 from rfl]
    refine lv_ldc2 (pc := 21) (v := iL (-1)) E.1 E.2 hown (show (Jvm.Cond.constantLong RX8 37 (iL (-1))).before _ ss = true from (hts _ (List.mem_of_getElem? (i := 1) rfl))) dX8_isRefused_21 ?_
    refine z_lcmp_eq (pc := 24) (tgt := 41) E ⟨by omega, by omega⟩ (by decide) dX8_isRefused_24 dX8_isRefused_25 (by decide) (fun h24 => ?_) (fun h24 => ?_)
    · refine z_iconst (pc := 41) E dX8_isRefused_41 ?_
      exact z_retRz E hr rfl (congrArg iI (by simp only [rfS] at *; split <;> omega)) hlocks dX8_isRefused_42
    · refine lv_aload_n (pc := 28) E.1 E.2 dX8_isRefused_28 rfl (lv_at hl 0 rfl) ?_
      refine g8_0 (pc := 29) E hts hin8 hown hK hM.1 (hts _ (List.mem_of_getElem? (i := 2) rfl)) dX8_isRefused_29 ?_
      refine z_iconst (pc := 32) E dX8_isRefused_32 ?_
      refine z_laload (pc := 33) E hK hM.2.1 ⟨by omega, by omega⟩ (by decide) dX8_isRefused_33 ?_
      have hb33 := hI.bd 4
      refine lv_ldc2 (pc := 34) (v := iL (12)) E.1 E.2 hown (show (Jvm.Cond.constantLong RX8 351 (iL (12))).before _ ss = true from (hts _ (List.mem_of_getElem? (i := 3) rfl))) dX8_isRefused_34 ?_
      refine z_lcmp_ne (pc := 37) (tgt := 43) E ⟨by omega, by omega⟩ (by decide) dX8_isRefused_37 dX8_isRefused_38 (by decide) (fun h37 => ?_) (fun h37 => ?_)
      · refine lv_iload_n (pc := 43) E.1 E.2 dX8_isRefused_43 rfl (lv_at hl 3 rfl) ?_
        refine z_i2l (pc := 44) E ⟨by omega, by omega⟩ dX8_isRefused_44 ?_
        refine lv_aload_n (pc := 45) E.1 E.2 dX8_isRefused_45 rfl (lv_at hl 0 rfl) ?_
        refine lv_iload_n (pc := 46) E.1 E.2 dX8_isRefused_46 rfl (lv_at hl 1 rfl) ?_
        refine z_iconst (pc := 47) E dX8_isRefused_47 ?_
        refine z_iconst (pc := 48) E dX8_isRefused_48 ?_
        refine z_rVl (pc := 49) (As := [.int (iI a), .int (iI 0), .int (iI 1)]) (rest := [.long (iL x)]) E hml hown hts (mX8_limitOf lL G o μ σ φ κ β ω a 0 1 hI (by omega) (Or.inl rfl) (Or.inr rfl)) (cwV 3 hts gX8_isRefused_X8_limitOf rfl rfl rfl vdX8_limitOf ⟨Nat.le_of_ble_eq_true rfl, Nat.le_of_ble_eq_true rfl⟩) (oB.recv hK hM.1 rfl) hM hK rfl hl.1 rfl dX8_isRefused_49 hcs (Nat.le_of_ble_eq_true rfl) ?_
        rw [show ((lmS σ (if (1 : Int) = 0 then 5 else 21) a 0 : Int)) = lmS σ 21 a 0 from rfl]
        refine lv_aload_n (pc := 52) E.1 E.2 dX8_isRefused_52 rfl (lv_at hl 0 rfl) ?_
        refine lv_iload_n (pc := 53) E.1 E.2 dX8_isRefused_53 rfl (lv_at hl 1 rfl) ?_
        refine z_iconst (pc := 54) E dX8_isRefused_54 ?_
        refine z_rVl (pc := 55) (As := [.int (iI a), .int (iI 0)]) (rest := [.long (iL (lmS σ 21 a 0)), .long (iL x)]) E hml hown hts (mX8_usedOf lL G o μ σ φ κ β ω a 0 (by omega) (by omega)) (cwV 2 hts gX8_isRefused_X8_usedOf rfl rfl rfl vdX8_usedOf ⟨Nat.le_of_ble_eq_true rfl, Nat.le_of_ble_eq_true rfl⟩) (oB.recv hK hM.1 rfl) hM hK rfl hl.1 rfl dX8_isRefused_55 hcs (Nat.le_of_ble_eq_true rfl) ?_
        refine z_lsub (pc := 58) E dX8_isRefused_58 ?_
        refine z_lcmp_le (pc := 59) (tgt := 67) E ⟨by omega, by omega⟩ ⟨by omega, by omega⟩ dX8_isRefused_59 dX8_isRefused_60 (by decide) (fun h59 => ?_) (fun h59 => ?_)
        · refine z_iconst (pc := 67) E dX8_isRefused_67 ?_
          exact z_retRz E hr rfl (congrArg iI (by simp only [rfS] at *; split <;> omega)) hlocks dX8_isRefused_68
        · refine z_iconst (pc := 63) E dX8_isRefused_63 ?_
          refine lv_goto (pc := 64) (tgt := 68) E.1 E.2 dX8_isRefused_64 (by decide) ?_
          exact z_retRz E hr rfl (congrArg iI (by simp only [rfS] at *; split <;> omega)) hlocks dX8_isRefused_68
      · refine z_iconst (pc := 41) E dX8_isRefused_41 ?_
        exact z_retRz E hr rfl (congrArg iI (by simp only [rfS] at *; split <;> omega)) hlocks dX8_isRefused_42
set_option maxHeartbeats 1000000 in
set_option maxRecDepth 100000 in
theorem mX8_addsFolder (lL : Launch) (G : GG) (q : Nat) (g : Int → Int) (p : Int) (nm : Int) (hf : 0 ≤ g 2 ∧ g 2 < 40) (hp : -2147483648 ≤ p ∧ p < 2147483648) : Met lL yX8_addsFolder wsX8_addsFolder ({ frames := 0, cells := 0, slots := 0, locals := 0 } : Room) (va_Pc [.ref q, .int (iI p), .long (iL nm)] (fun U => aL G q 357 g U.heap ∧ KK G U)) (va_Qv (fun _ : Unit => True) (fun _ tZ => aL G q 357 (adF g p nm) tZ.heap) (fun a => a = q)) 0 0 (fun a => a = q) := by
  refine z_met (P := (fun H : Heap => aL G q 357 g H)) (by decide) rfl (Nat.le_of_ble_eq_true rfl) (fun pp ee ss mm below meth cC E hr hml hown hts hlocks hM hK ls hl => ?_)
  have hl : lv_has ls 5 [(0, .ref q), (1, .int (iI p)), (2, .long (iL nm))] := hl
  have hcs : 0 ≤ (({ frames := 0, cells := 0, slots := 0, locals := 0 } : Room)).cells ∧ 0 ≤ (({ frames := 0, cells := 0, slots := 0, locals := 0 } : Room)).slots := ⟨Nat.zero_le _, Nat.zero_le _⟩
  have hS : va_S (fun a => a = q) ss.heap ss.heap [] := va_S.rf
  refine lv_aload_n (pc := 0) E.1 E.2 dX8_addsFolder_0 rfl (lv_at hl 0 rfl) ?_
  refine z_iconst (pc := 1) E dX8_addsFolder_1 ?_
  refine z_laload (pc := 2) E hK hM ⟨by omega, by omega⟩ (by decide) dX8_addsFolder_2 ?_
  refine z_l2i (pc := 3) E dX8_addsFolder_3 ?_
  refine lv_istore (pc := 4) (lv' := [(4, .int (iI (g 2))), (0, .ref q), (1, .int (iI p)), (2, .long (iL nm))]) E.1 E.2 dX8_addsFolder_4 hl (by decide) rfl (fun ls hl => ?_)
  refine lv_aload_n (pc := 6) E.1 E.2 dX8_addsFolder_6 rfl (lv_at hl 1 rfl) ?_
  refine z_bipush (pc := 7) E (by decide) dX8_addsFolder_7 ?_
  refine lv_iload (pc := 9) E.1 E.2 dX8_addsFolder_9 (lv_at hl 0 rfl) ?_
  refine z_iadd (pc := 11) E dX8_addsFolder_11 ?_
  refine lv_iload_n (pc := 12) E.1 E.2 dX8_addsFolder_12 rfl (lv_at hl 2 rfl) ?_
  refine z_i2l (pc := 13) E ⟨by omega, by omega⟩ dX8_addsFolder_13 ?_
  refine z_lastore (pc := 14) E hK hM hS rfl ⟨by omega, by omega⟩ (by decide) dX8_addsFolder_14 (fun H locs hnew hoth hS => ?_)
  have hM := hnew
  refine lv_aload_n (pc := 15) E.1 E.2 dX8_addsFolder_15 rfl (lv_at hl 1 rfl) ?_
  refine z_bipush (pc := 16) E (by decide) dX8_addsFolder_16 ?_
  refine lv_iload (pc := 18) E.1 E.2 dX8_addsFolder_18 (lv_at hl 0 rfl) ?_
  refine z_iadd (pc := 20) E dX8_addsFolder_20 ?_
  refine lv_ldc2 (pc := 21) (v := iL (-1)) E.1 E.2 hown (show (Jvm.Cond.constantLong RX8 37 (iL (-1))).before _ ss = true from (hts _ (List.mem_of_getElem? (i := 1) rfl))) dX8_addsFolder_21 ?_
  refine z_lastore (pc := 24) E hK hM hS rfl ⟨by omega, by omega⟩ (by decide) dX8_addsFolder_24 (fun H locs hnew hoth hS => ?_)
  have hM := hnew
  refine lv_aload_n (pc := 25) E.1 E.2 dX8_addsFolder_25 rfl (lv_at hl 1 rfl) ?_
  refine z_sipush (pc := 26) E (by decide) dX8_addsFolder_26 ?_
  refine lv_iload (pc := 29) E.1 E.2 dX8_addsFolder_29 (lv_at hl 0 rfl) ?_
  refine z_iadd (pc := 31) E dX8_addsFolder_31 ?_
  refine lv_lload_n (pc := 32) E.1 E.2 dX8_addsFolder_32 rfl (lv_at hl 3 rfl) ?_
  refine z_lastore (pc := 33) E hK hM hS rfl ⟨by omega, by omega⟩ (by decide) dX8_addsFolder_33 (fun H locs hnew hoth hS => ?_)
  have hM := hnew
  refine lv_aload_n (pc := 34) E.1 E.2 dX8_addsFolder_34 rfl (lv_at hl 1 rfl) ?_
  refine z_iconst (pc := 35) E dX8_addsFolder_35 ?_
  refine lv_dup2_11 (pc := 36) E.1 E.2 dX8_addsFolder_36 rfl rfl ?_
  refine z_laload (pc := 37) E hK hM ⟨by omega, by omega⟩ (by decide) dX8_addsFolder_37 ?_
  rw [show ((zu (zu (zu g (69 + (g 2)) p) (109 + (g 2)) (-1)) (149 + (g 2)) nm) 2) = g 2 from (by rw [zu_n _ _ (by omega), zu_n _ _ (by omega), zu_n _ _ (by omega)])]
  refine z_lconst (pc := 38) (v := 1) E (by decide) dX8_addsFolder_38 ?_
  refine z_ladd (pc := 39) E dX8_addsFolder_39 ?_
  refine z_lastore (pc := 40) E hK hM hS rfl ⟨by omega, by omega⟩ (by decide) dX8_addsFolder_40 (fun H locs hnew hoth hS => ?_)
  have hM := hnew
  exact z_retWv E hr hM hS hlocks dX8_addsFolder_41
set_option maxHeartbeats 1000000 in
set_option maxRecDepth 100000 in
theorem mX8_addsFile (lL : Launch) (G : GG) (q : Nat) (g : Int → Int) (p : Int) (b : Int) (hf : 0 ≤ g 3 ∧ g 3 < 60) (hp : -2147483648 ≤ p ∧ p < 2147483648) (hb : -2147483648 ≤ b ∧ b < 2147483648) : Met lL yX8_addsFile wsX8_addsFile ({ frames := 0, cells := 0, slots := 0, locals := 0 } : Room) (va_Pc [.ref q, .int (iI p), .int (iI b)] (fun U => aL G q 357 g U.heap ∧ KK G U)) (va_Qv (fun _ : Unit => True) (fun _ tZ => aL G q 357 (afF g p b) tZ.heap) (fun a => a = q)) 0 0 (fun a => a = q) := by
  refine z_met (P := (fun H : Heap => aL G q 357 g H)) (by decide) rfl (Nat.le_of_ble_eq_true rfl) (fun pp ee ss mm below meth cC E hr hml hown hts hlocks hM hK ls hl => ?_)
  have hl : lv_has ls 3 [(0, .ref q), (1, .int (iI p)), (2, .int (iI b))] := hl
  have hcs : 0 ≤ (({ frames := 0, cells := 0, slots := 0, locals := 0 } : Room)).cells ∧ 0 ≤ (({ frames := 0, cells := 0, slots := 0, locals := 0 } : Room)).slots := ⟨Nat.zero_le _, Nat.zero_le _⟩
  have hS : va_S (fun a => a = q) ss.heap ss.heap [] := va_S.rf
  refine lv_aload_n (pc := 0) E.1 E.2 dX8_addsFile_0 rfl (lv_at hl 0 rfl) ?_
  refine z_sipush (pc := 1) E (by decide) dX8_addsFile_1 ?_
  refine lv_aload_n (pc := 4) E.1 E.2 dX8_addsFile_4 rfl (lv_at hl 0 rfl) ?_
  refine z_iconst (pc := 5) E dX8_addsFile_5 ?_
  refine z_laload (pc := 6) E hK hM ⟨by omega, by omega⟩ (by decide) dX8_addsFile_6 ?_
  refine z_l2i (pc := 7) E dX8_addsFile_7 ?_
  refine z_iadd (pc := 8) E dX8_addsFile_8 ?_
  refine lv_iload_n (pc := 9) E.1 E.2 dX8_addsFile_9 rfl (lv_at hl 1 rfl) ?_
  refine z_i2l (pc := 10) E ⟨by omega, by omega⟩ dX8_addsFile_10 ?_
  refine z_lastore (pc := 11) E hK hM hS rfl ⟨by omega, by omega⟩ (by decide) dX8_addsFile_11 (fun H locs hnew hoth hS => ?_)
  have hM := hnew
  refine lv_aload_n (pc := 12) E.1 E.2 dX8_addsFile_12 rfl (lv_at hl 0 rfl) ?_
  refine z_sipush (pc := 13) E (by decide) dX8_addsFile_13 ?_
  refine lv_aload_n (pc := 16) E.1 E.2 dX8_addsFile_16 rfl (lv_at hl 0 rfl) ?_
  refine z_iconst (pc := 17) E dX8_addsFile_17 ?_
  refine z_laload (pc := 18) E hK hM ⟨by omega, by omega⟩ (by decide) dX8_addsFile_18 ?_
  rw [show ((zu g (189 + (g 3)) p) 3) = g 3 from (zu_n _ _ (by omega))]
  refine z_l2i (pc := 19) E dX8_addsFile_19 ?_
  refine z_iadd (pc := 20) E dX8_addsFile_20 ?_
  refine lv_iload_n (pc := 21) E.1 E.2 dX8_addsFile_21 rfl (lv_at hl 2 rfl) ?_
  refine z_i2l (pc := 22) E ⟨by omega, by omega⟩ dX8_addsFile_22 ?_
  refine z_lastore (pc := 23) E hK hM hS rfl ⟨by omega, by omega⟩ (by decide) dX8_addsFile_23 (fun H locs hnew hoth hS => ?_)
  have hM := hnew
  refine lv_aload_n (pc := 24) E.1 E.2 dX8_addsFile_24 rfl (lv_at hl 0 rfl) ?_
  refine z_iconst (pc := 25) E dX8_addsFile_25 ?_
  refine lv_dup2_11 (pc := 26) E.1 E.2 dX8_addsFile_26 rfl rfl ?_
  refine z_laload (pc := 27) E hK hM ⟨by omega, by omega⟩ (by decide) dX8_addsFile_27 ?_
  rw [show ((zu (zu g (189 + (g 3)) p) (249 + (g 3)) b) 3) = g 3 from (by rw [zu_n _ _ (by omega), zu_n _ _ (by omega)])]
  refine z_lconst (pc := 28) (v := 1) E (by decide) dX8_addsFile_28 ?_
  refine z_ladd (pc := 29) E dX8_addsFile_29 ?_
  refine z_lastore (pc := 30) E hK hM hS rfl ⟨by omega, by omega⟩ (by decide) dX8_addsFile_30 (fun H locs hnew hoth hS => ?_)
  have hM := hnew
  exact z_retWv E hr hM hS hlocks dX8_addsFile_31
set_option maxHeartbeats 1000000 in
set_option maxRecDepth 100000 in
theorem mX8_closesUp (lL : Launch) (G : GG) (o : Nat → Nat) (μ σ φ κ β ω : Int → Int) (fr : Int) (k : Int) (n : Int) (hfr : 0 ≤ fr ∧ fr ≤ 300) (hk : 0 ≤ k ∧ k ≤ n) (hn : 0 ≤ n ∧ fr + n < 357) : Met lL yX8_closesUp wsX8_closesUp ({ frames := 0, cells := 0, slots := 0, locals := 0 } : Room) (va_Pc [.ref (o 0), .int (iI fr), .int (iI k), .int (iI n)] (fun U => W8 G o (mV o μ) σ φ κ β ω U.heap ∧ KK G U)) (va_Qv (fun _ : Unit => True) (fun _ tZ => W8 G o (mV o μ) (clA σ fr k n) φ κ β ω tZ.heap) (Ax o 6)) 0 0 (Ax o 6) := by
  refine z_met (P := (fun H : Heap => W8 G o (mV o μ) σ φ κ β ω H)) (by decide) rfl (Nat.le_of_ble_eq_true rfl) (fun pp ee ss mm below meth cC E hr hml hown hts hlocks hM hK ls hl => ?_)
  have hl : lv_has ls 5 [(0, .ref (o 0)), (1, .int (iI fr)), (2, .int (iI k)), (3, .int (iI n))] := hl
  have hcs : 0 ≤ (({ frames := 0, cells := 0, slots := 0, locals := 0 } : Room)).cells ∧ 0 ≤ (({ frames := 0, cells := 0, slots := 0, locals := 0 } : Room)).slots := ⟨Nat.zero_le _, Nat.zero_le _⟩
  have hS : va_S (Ax o 6) ss.heap ss.heap [] := va_S.rf
  have hin8 : ∀ w ∈ wsX80, w ∈ wsX8_closesUp := fun w h => List.mem_cons_of_mem _ (List.mem_append_right _ (h))
  refine lv_iload_n (pc := 0) E.1 E.2 dX8_closesUp_0 rfl (lv_at hl 2 rfl) ?_
  refine lv_istore (pc := 1) (lv' := [(4, .int (iI k)), (0, .ref (o 0)), (1, .int (iI fr)), (2, .int (iI k)), (3, .int (iI n))]) E.1 E.2 dX8_closesUp_1 hl (by decide) rfl (fun ls hl => ?_)
  suffices L3 : ∀ (nf : Nat), ∀ (i : Int), (k ≤ i ∧ i ≤ n) → ((n - i).toNat) < nf → ∀  (H : Heap) (locs : List Loc), W8 G o [.ref (o 1), .ref (o 2), .ref (o 3), .int (iI (μ 3)), .int (iI (μ 4)), .ref (o 4), .int (iI (μ 6)), .int (iI (μ 7)), .int (iI (μ 8)), .int (iI (μ 9)), .int (iI (μ 10)), .int (iI (μ 11)), .int (iI (μ 12)), .int (iI (μ 13)), .int (iI (μ 14)), .long (iL (μ 15)), .ref (o 5), .int (iI (μ 17))] (clA σ fr k i) φ κ β ω H → va_S (Ax o 6) ss.heap H locs → ∀ ls : Array Slot, lv_has ls 5 [(4, .int (iI i)), (0, .ref (o 0)), (1, .int (iI fr)), (2, .int (iI k)), (3, .int (iI n))] → W pp lL ee ({ frames := 0, cells := 0, slots := 0, locals := 0 } : Room) ss mm [.ref (o 0), .int (iI fr), .int (iI k), .int (iI n)].toArray below meth cC H locs 0 0 (MQ below (va_Qv (fun _ : Unit => True) (fun _ tZ => W8 G o (mV o μ) (clA σ fr k n) φ κ β ω tZ.heap) (Ax o 6)) [.ref (o 0), .int (iI fr), .int (iI k), .int (iI n)].toArray ss 0 0 (Ax o 6)) (F0 mm 3 ls []) from L3 _ k (by omega) (Nat.lt_succ_self _)  _ _ (by rw [clA_0]; exact hM) hS ls (lv_sub hl [0, 1, 2, 3, 4] rfl)
  intro nfL3
  induction nfL3 with
  | zero => intro i hi hmzL3; exact absurd hmzL3 (Nat.not_lt_zero _)
  | succ nfL3 ihL3 =>
    intro i hi hmzL3  H locs hM hS ls hl
    refine lv_iload (pc := 3) E.1 E.2 dX8_closesUp_3 (lv_at hl 0 rfl) ?_
    refine lv_iload_n (pc := 5) E.1 E.2 dX8_closesUp_5 rfl (lv_at hl 4 rfl) ?_
    refine z_icmp_ge (pc := 6) (tgt := 35) E ⟨by omega, by omega⟩ ⟨by omega, by omega⟩ dX8_closesUp_6 (by decide) (fun h6 => ?_) (fun h6 => ?_)
    · exact z_retWv E hr (by rw [show n = i by omega]; exact hM) hS hlocks dX8_closesUp_35
    · refine lv_aload_n (pc := 9) E.1 E.2 dX8_closesUp_9 rfl (lv_at hl 1 rfl) ?_
      refine g8_0 (pc := 10) E hts hin8 hown hK hM.1 (hts _ (List.mem_of_getElem? (i := 1) rfl)) dX8_closesUp_10 ?_
      refine lv_iload_n (pc := 13) E.1 E.2 dX8_closesUp_13 rfl (lv_at hl 2 rfl) ?_
      refine lv_iload (pc := 14) E.1 E.2 dX8_closesUp_14 (lv_at hl 0 rfl) ?_
      refine z_iadd (pc := 16) E dX8_closesUp_16 ?_
      refine lv_aload_n (pc := 17) E.1 E.2 dX8_closesUp_17 rfl (lv_at hl 1 rfl) ?_
      refine g8_0 (pc := 18) E hts hin8 hown hK hM.1 (hts _ (List.mem_of_getElem? (i := 1) rfl)) dX8_closesUp_18 ?_
      refine lv_iload_n (pc := 21) E.1 E.2 dX8_closesUp_21 rfl (lv_at hl 2 rfl) ?_
      refine lv_iload (pc := 22) E.1 E.2 dX8_closesUp_22 (lv_at hl 0 rfl) ?_
      refine z_iadd (pc := 24) E dX8_closesUp_24 ?_
      refine z_iconst (pc := 25) E dX8_closesUp_25 ?_
      refine z_iadd (pc := 26) E dX8_closesUp_26 ?_
      refine z_laload (pc := 27) E hK hM.2.1 ⟨by omega, by omega⟩ (by decide) dX8_closesUp_27 ?_
      refine z_lastore (pc := 28) E hK hM.2.1 hS (Ax.at 1 (by decide)) ⟨by omega, by omega⟩ (by decide) dX8_closesUp_28 (fun H locs hnew hoth hS => ?_)
      have hM := W8.a1 hM hnew (fun a _ h => hoth a h)
      refine lv_iinc (pc := 29) (v := iI (i + 1)) (lv' := [(4, .int (iI (i + 1))), (0, .ref (o 0)), (1, .int (iI fr)), (2, .int (iI k)), (3, .int (iI n))]) E.1 E.2 dX8_closesUp_29 hl (k := 0) rfl (iI_add _ _) (by decide) rfl (fun ls hl => ?_)
      refine lv_goto (pc := 32) (tgt := 3) E.1 E.2 dX8_closesUp_32 (by decide) ?_
      exact ihL3 (i + 1) (by omega) (by omega)  _ _ (by rw [← clA_s σ fr hi.1]; exact hM) hS ls (lv_sub hl [0, 1, 2, 3, 4] rfl)
set_option maxHeartbeats 1000000 in
set_option maxRecDepth 100000 in
theorem mX8_begins (lL : Launch) (G : GG) (o : Nat → Nat) (μ σ φ κ β ω : Int → Int) : Met lL yX8_begins wsX8_begins ({ frames := 0, cells := 0, slots := 0, locals := 0 } : Room) (va_Pc [.ref (o 0)] (fun U => W8 G o (mV o μ) σ φ κ β ω U.heap ∧ KK G U)) (va_Qv (fun _ : Unit => True) (fun _ tZ => W8 G o (mV o μ) σ (bgF φ) κ β ω tZ.heap) (Ax o 6)) 0 0 (Ax o 6) := by
  refine z_met (P := (fun H : Heap => W8 G o (mV o μ) σ φ κ β ω H)) (by decide) rfl (Nat.le_of_ble_eq_true rfl) (fun pp ee ss mm below meth cC E hr hml hown hts hlocks hM hK ls hl => ?_)
  have hl : lv_has ls 2 [(0, .ref (o 0))] := hl
  have hcs : 0 ≤ (({ frames := 0, cells := 0, slots := 0, locals := 0 } : Room)).cells ∧ 0 ≤ (({ frames := 0, cells := 0, slots := 0, locals := 0 } : Room)).slots := ⟨Nat.zero_le _, Nat.zero_le _⟩
  have hS : va_S (Ax o 6) ss.heap ss.heap [] := va_S.rf
  have hin8 : ∀ w ∈ wsX80, w ∈ wsX8_begins := fun w h => List.mem_cons_of_mem _ (List.mem_append_right _ (h))
  refine z_iconst (pc := 0) E dX8_begins_0 ?_
  refine lv_istore_n (pc := 1) (lv' := [(1, .int (iI 0)), (0, .ref (o 0))]) E.1 E.2 dX8_begins_1 rfl hl (by decide) rfl (fun ls hl => ?_)
  suffices L2 : ∀ (nf : Nat), ∀ (i : Int), (0 ≤ i ∧ i ≤ 357) → ((357 - i).toNat) < nf → ∀  (H : Heap) (locs : List Loc), W8 G o [.ref (o 1), .ref (o 2), .ref (o 3), .int (iI (μ 3)), .int (iI (μ 4)), .ref (o 4), .int (iI (μ 6)), .int (iI (μ 7)), .int (iI (μ 8)), .int (iI (μ 9)), .int (iI (μ 10)), .int (iI (μ 11)), .int (iI (μ 12)), .int (iI (μ 13)), .int (iI (μ 14)), .long (iL (μ 15)), .ref (o 5), .int (iI (μ 17))] σ (bgA φ i) κ β ω H → va_S (Ax o 6) ss.heap H locs → ∀ ls : Array Slot, lv_has ls 2 [(1, .int (iI i)), (0, .ref (o 0))] → W pp lL ee ({ frames := 0, cells := 0, slots := 0, locals := 0 } : Room) ss mm [.ref (o 0)].toArray below meth cC H locs 0 0 (MQ below (va_Qv (fun _ : Unit => True) (fun _ tZ => W8 G o (mV o μ) σ (bgF φ) κ β ω tZ.heap) (Ax o 6)) [.ref (o 0)].toArray ss 0 0 (Ax o 6)) (F0 mm 2 ls []) from L2 _ 0 (by omega) (Nat.lt_succ_self _)  _ _ (by rw [bgA_0]; exact hM) hS ls (lv_sub hl [0, 1] rfl)
  intro nfL2
  induction nfL2 with
  | zero => intro i hi hmzL2; exact absurd hmzL2 (Nat.not_lt_zero _)
  | succ nfL2 ihL2 =>
    intro i hi hmzL2  H locs hM hS ls hl
    refine lv_iload_n (pc := 2) E.1 E.2 dX8_begins_2 rfl (lv_at hl 0 rfl) ?_
    refine z_sipush (pc := 3) E (by decide) dX8_begins_3 ?_
    refine z_icmp_ge (pc := 6) (tgt := 41) E ⟨by omega, by omega⟩ (by decide) dX8_begins_6 (by decide) (fun h6 => ?_) (fun h6 => ?_)
    · have ei : i = 357 := by omega
      subst ei
      refine lv_aload_n (pc := 41) E.1 E.2 dX8_begins_41 rfl (lv_at hl 1 rfl) ?_
      refine g8_1 (pc := 42) E hts hin8 hown hK hM.1 (hts _ (List.mem_of_getElem? (i := 1) rfl)) dX8_begins_42 ?_
      refine z_iconst (pc := 45) E dX8_begins_45 ?_
      refine lv_ldc2 (pc := 46) (v := iL (10)) E.1 E.2 hown (show (Jvm.Cond.constantLong RX8 39 (iL (10))).before _ ss = true from (hts _ (List.mem_of_getElem? (i := 3) rfl))) dX8_begins_46 ?_
      refine z_lastore (pc := 49) E hK hM.2.2.1 hS (Ax.at 2 (by decide)) ⟨by omega, by omega⟩ (by decide) dX8_begins_49 (fun H locs hnew hoth hS => ?_)
      have hM := W8.a2 hM hnew (fun a _ h => hoth a h)
      refine lv_aload_n (pc := 50) E.1 E.2 dX8_begins_50 rfl (lv_at hl 1 rfl) ?_
      refine g8_1 (pc := 51) E hts hin8 hown hK hM.1 (hts _ (List.mem_of_getElem? (i := 1) rfl)) dX8_begins_51 ?_
      refine z_iconst (pc := 54) E dX8_begins_54 ?_
      refine z_lconst (pc := 55) (v := 1) E (by decide) dX8_begins_55 ?_
      refine z_lastore (pc := 56) E hK hM.2.2.1 hS (Ax.at 2 (by decide)) ⟨by omega, by omega⟩ (by decide) dX8_begins_56 (fun H locs hnew hoth hS => ?_)
      have hM := W8.a2 hM hnew (fun a _ h => hoth a h)
      refine lv_aload_n (pc := 57) E.1 E.2 dX8_begins_57 rfl (lv_at hl 1 rfl) ?_
      refine g8_1 (pc := 58) E hts hin8 hown hK hM.1 (hts _ (List.mem_of_getElem? (i := 1) rfl)) dX8_begins_58 ?_
      refine z_sipush (pc := 61) E (by decide) dX8_begins_61 ?_
      refine lv_ldc2 (pc := 64) (v := iL (605684)) E.1 E.2 hown (show (Jvm.Cond.constantLong RX8 41 (iL (605684))).before _ ss = true from (hts _ (List.mem_of_getElem? (i := 4) rfl))) dX8_begins_64 ?_
      refine z_lastore (pc := 67) E hK hM.2.2.1 hS (Ax.at 2 (by decide)) ⟨by omega, by omega⟩ (by decide) dX8_begins_67 (fun H locs hnew hoth hS => ?_)
      have hM := W8.a2 hM hnew (fun a _ h => hoth a h)
      exact z_retWv E hr hM hS hlocks dX8_begins_68
    · refine lv_aload_n (pc := 9) E.1 E.2 dX8_begins_9 rfl (lv_at hl 1 rfl) ?_
      refine g8_1 (pc := 10) E hts hin8 hown hK hM.1 (hts _ (List.mem_of_getElem? (i := 1) rfl)) dX8_begins_10 ?_
      refine lv_iload_n (pc := 13) E.1 E.2 dX8_begins_13 rfl (lv_at hl 0 rfl) ?_
      refine lv_iload_n (pc := 14) E.1 E.2 dX8_begins_14 rfl (lv_at hl 0 rfl) ?_
      refine z_bipush (pc := 15) E (by decide) dX8_begins_15 ?_
      refine z_icmp_lt (pc := 17) (tgt := 33) E ⟨by omega, by omega⟩ (by decide) dX8_begins_17 (by decide) (fun h17 => ?_) (fun h17 => ?_)
      · refine z_lconst (pc := 33) (v := 0) E (by decide) dX8_begins_33 ?_
        refine z_lastore (pc := 34) E hK hM.2.2.1 hS (Ax.at 2 (by decide)) ⟨by omega, by omega⟩ (by decide) dX8_begins_34 (fun H locs hnew hoth hS => ?_)
        have hM := W8.a2 hM hnew (fun a _ h => hoth a h)
        refine lv_iinc (pc := 35) (v := iI (i + 1)) (lv' := [(1, .int (iI (i + 1))), (0, .ref (o 0))]) E.1 E.2 dX8_begins_35 hl (k := 0) rfl (iI_add _ _) (by decide) rfl (fun ls hl => ?_)
        refine lv_goto (pc := 38) (tgt := 2) E.1 E.2 dX8_begins_38 (by decide) ?_
        exact ihL2 (i + 1) (by omega) (by omega)  _ _ (by rw [← bgA_s φ hi.1 (v := _) (by first | (rw [if_pos (by omega)]) | (rw [if_neg (by omega)]))]; exact hM) hS ls (lv_sub hl [0, 1] rfl)
      · refine lv_iload_n (pc := 20) E.1 E.2 dX8_begins_20 rfl (lv_at hl 0 rfl) ?_
        refine z_sipush (pc := 21) E (by decide) dX8_begins_21 ?_
        refine z_icmp_ge (pc := 24) (tgt := 33) E ⟨by omega, by omega⟩ (by decide) dX8_begins_24 (by decide) (fun h24 => ?_) (fun h24 => ?_)
        · refine z_lconst (pc := 33) (v := 0) E (by decide) dX8_begins_33 ?_
          refine z_lastore (pc := 34) E hK hM.2.2.1 hS (Ax.at 2 (by decide)) ⟨by omega, by omega⟩ (by decide) dX8_begins_34 (fun H locs hnew hoth hS => ?_)
          have hM := W8.a2 hM hnew (fun a _ h => hoth a h)
          refine lv_iinc (pc := 35) (v := iI (i + 1)) (lv' := [(1, .int (iI (i + 1))), (0, .ref (o 0))]) E.1 E.2 dX8_begins_35 hl (k := 0) rfl (iI_add _ _) (by decide) rfl (fun ls hl => ?_)
          refine lv_goto (pc := 38) (tgt := 2) E.1 E.2 dX8_begins_38 (by decide) ?_
          exact ihL2 (i + 1) (by omega) (by omega)  _ _ (by rw [← bgA_s φ hi.1 (v := _) (by first | (rw [if_pos (by omega)]) | (rw [if_neg (by omega)]))]; exact hM) hS ls (lv_sub hl [0, 1] rfl)
        · refine lv_ldc2 (pc := 27) (v := iL (-1)) E.1 E.2 hown (show (Jvm.Cond.constantLong RX8 37 (iL (-1))).before _ ss = true from (hts _ (List.mem_of_getElem? (i := 2) rfl))) dX8_begins_27 ?_
          refine lv_goto (pc := 30) (tgt := 34) E.1 E.2 dX8_begins_30 (by decide) ?_
          refine z_lastore (pc := 34) E hK hM.2.2.1 hS (Ax.at 2 (by decide)) ⟨by omega, by omega⟩ (by decide) dX8_begins_34 (fun H locs hnew hoth hS => ?_)
          have hM := W8.a2 hM hnew (fun a _ h => hoth a h)
          refine lv_iinc (pc := 35) (v := iI (i + 1)) (lv' := [(1, .int (iI (i + 1))), (0, .ref (o 0))]) E.1 E.2 dX8_begins_35 hl (k := 0) rfl (iI_add _ _) (by decide) rfl (fun ls hl => ?_)
          refine lv_goto (pc := 38) (tgt := 2) E.1 E.2 dX8_begins_38 (by decide) ?_
          exact ihL2 (i + 1) (by omega) (by omega)  _ _ (by rw [← bgA_s φ hi.1 (v := _) (by first | (rw [if_pos (by omega)]) | (rw [if_neg (by omega)]))]; exact hM) hS ls (lv_sub hl [0, 1] rfl)
set_option maxHeartbeats 1000000 in
set_option maxRecDepth 100000 in
theorem mX8_counts (lL : Launch) (G : GG) (o : Nat → Nat) (μ σ φ κ β ω : Int → Int) (p : Int) (b : Int) (n : Int) (hB : ∀ k, -4611686018427387904 ≤ σ k ∧ σ k < 4611686018427387904) (hp : -1 ≤ p ∧ p ≤ 7) (hb : -4611686018427387904 ≤ b ∧ b < 4611686018427387904) (hn : -4611686018427387904 ≤ n ∧ n < 4611686018427387904) : Met lL yX8_counts wsX8_counts ({ frames := 2, cells := 0, slots := 0, locals := 43 } : Room) (va_Pc [.ref (o 0), .int (iI p), .long (iL b), .long (iL n)] (fun U => W8 G o (mV o μ) σ φ κ β ω U.heap ∧ KK G U)) (va_Qv (fun _ : Unit => True) (fun _ tZ => W8 G o (mV o μ) (coA σ p b n) φ κ β ω tZ.heap) (Ax o 6)) 0 0 (Ax o 6) := by
  refine z_met (P := (fun H : Heap => W8 G o (mV o μ) σ φ κ β ω H)) (by decide) rfl (Nat.le_of_ble_eq_true rfl) (fun pp ee ss mm below meth cC E hr hml hown hts hlocks hM hK ls hl => ?_)
  have hl : lv_has ls 6 [(0, .ref (o 0)), (1, .int (iI p)), (2, .long (iL b)), (4, .long (iL n))] := hl
  have hcs : 0 ≤ (({ frames := 2, cells := 0, slots := 0, locals := 43 } : Room)).cells ∧ 0 ≤ (({ frames := 2, cells := 0, slots := 0, locals := 43 } : Room)).slots := ⟨Nat.zero_le _, Nat.zero_le _⟩
  have hS : va_S (Ax o 6) ss.heap ss.heap [] := va_S.rf
  have hin8 : ∀ w ∈ wsX80, w ∈ wsX8_counts := fun w h => List.mem_cons_of_mem _ (List.mem_append_right _ (h))
  refine lv_iload_n (pc := 0) E.1 E.2 dX8_counts_0 rfl (lv_at hl 1 rfl) ?_
  refine z_iconst (pc := 1) E dX8_counts_1 ?_
  refine z_icmp_ne (pc := 2) (tgt := 6) E ⟨by omega, by omega⟩ (by decide) dX8_counts_2 (by decide) (fun h2 => ?_) (fun h2 => ?_)
  · refine lv_aload_n (pc := 6) E.1 E.2 dX8_counts_6 rfl (lv_at hl 0 rfl) ?_
    refine g8_0 (pc := 7) E hts hin8 hown hK hM.1 (hts _ (List.mem_of_getElem? (i := 1) rfl)) dX8_counts_7 ?_
    refine z_bipush (pc := 10) E (by decide) dX8_counts_10 ?_
    refine lv_iload_n (pc := 12) E.1 E.2 dX8_counts_12 rfl (lv_at hl 1 rfl) ?_
    refine z_iconst (pc := 13) E dX8_counts_13 ?_
    refine z_rSi (pc := 14) (P := fun _ => True) (As := [.int (iI p), .int (iI 0)]) (rest := [.int (iI 37), .ref (o 1)]) E hml hown hts (mX8_place lL G p 0) (va_cwS 2 hts gX8_counts_X8_place rfl rfl rfl vdX8_place.2 ⟨Nat.le_of_ble_eq_true rfl, Nat.le_of_ble_eq_true rfl⟩) trivial hK rfl hl.1 rfl dX8_counts_14 hcs (Nat.le_of_ble_eq_true rfl) ?_
    refine z_iadd (pc := 17) E dX8_counts_17 ?_
    refine z_lconst (pc := 18) (v := 0) E (by decide) dX8_counts_18 ?_
    refine lv_aload_n (pc := 19) E.1 E.2 dX8_counts_19 rfl (lv_at hl 0 rfl) ?_
    refine lv_iload_n (pc := 20) E.1 E.2 dX8_counts_20 rfl (lv_at hl 1 rfl) ?_
    refine z_iconst (pc := 21) E dX8_counts_21 ?_
    refine z_rVl (pc := 22) (As := [.int (iI p), .int (iI 0)]) (rest := [.long (iL 0), .int (iI (37 + (2 * p + 0))), .ref (o 1)]) E hml hown hts (mX8_usedOf lL G o μ σ φ κ β ω p 0 (by omega) (Or.inl rfl)) (cwV 2 hts gX8_counts_X8_usedOf rfl rfl rfl vdX8_usedOf ⟨Nat.le_of_ble_eq_true rfl, Nat.le_of_ble_eq_true rfl⟩) (oB.recv hK hM.1 rfl) hM hK rfl hl.1 rfl dX8_counts_22 hcs (Nat.le_of_ble_eq_true rfl) ?_
    have hu0 := hB (37 + (2 * p + 0))
    refine lv_lload_n (pc := 25) E.1 E.2 dX8_counts_25 rfl (lv_at hl 2 rfl) ?_
    refine z_ladd (pc := 26) E dX8_counts_26 ?_
    refine z_rSl (pc := 27) (P := fun _ => True) (As := [.long (iL 0), .long (iL ((σ (37 + (2 * p + 0))) + b))]) (rest := [.int (iI (37 + (2 * p + 0))), .ref (o 1)]) E hml hown hts (mX8_greater lL G 0 ((σ (37 + (2 * p + 0))) + b) ⟨by omega, by omega⟩ ⟨by omega, by omega⟩) (va_cwS 2 hts gX8_counts_X8_greater rfl rfl rfl vdX8_greater.2 ⟨Nat.le_of_ble_eq_true rfl, Nat.le_of_ble_eq_true rfl⟩) trivial hK rfl hl.1 rfl dX8_counts_27 hcs (Nat.le_of_ble_eq_true rfl) ?_
    refine z_lastore (pc := 30) E hK hM.2.1 hS (Ax.at 1 (by decide)) ⟨by omega, by omega⟩ (by decide) dX8_counts_30 (fun H locs hnew hoth hS => ?_)
    have hM := W8.a1 hM hnew (fun a _ h => hoth a h)
    refine lv_aload_n (pc := 31) E.1 E.2 dX8_counts_31 rfl (lv_at hl 0 rfl) ?_
    refine g8_0 (pc := 32) E hts hin8 hown hK hM.1 (hts _ (List.mem_of_getElem? (i := 1) rfl)) dX8_counts_32 ?_
    refine z_bipush (pc := 35) E (by decide) dX8_counts_35 ?_
    refine lv_iload_n (pc := 37) E.1 E.2 dX8_counts_37 rfl (lv_at hl 1 rfl) ?_
    refine z_iconst (pc := 38) E dX8_counts_38 ?_
    refine z_rSi (pc := 39) (P := fun _ => True) (As := [.int (iI p), .int (iI 1)]) (rest := [.int (iI 37), .ref (o 1)]) E hml hown hts (mX8_place lL G p 1) (va_cwS 2 hts gX8_counts_X8_place rfl rfl rfl vdX8_place.2 ⟨Nat.le_of_ble_eq_true rfl, Nat.le_of_ble_eq_true rfl⟩) trivial hK rfl hl.1 rfl dX8_counts_39 hcs (Nat.le_of_ble_eq_true rfl) ?_
    refine z_iadd (pc := 42) E dX8_counts_42 ?_
    refine z_lconst (pc := 43) (v := 0) E (by decide) dX8_counts_43 ?_
    refine lv_aload_n (pc := 44) E.1 E.2 dX8_counts_44 rfl (lv_at hl 0 rfl) ?_
    refine lv_iload_n (pc := 45) E.1 E.2 dX8_counts_45 rfl (lv_at hl 1 rfl) ?_
    refine z_iconst (pc := 46) E dX8_counts_46 ?_
    refine z_rVl (pc := 47) (As := [.int (iI p), .int (iI 1)]) (rest := [.long (iL 0), .int (iI (37 + (2 * p + 1))), .ref (o 1)]) E hml hown hts (mX8_usedOf lL G o μ (zu σ (37 + (2 * p + 0)) (max 0 ((σ (37 + (2 * p + 0))) + b))) φ κ β ω p 1 (by omega) (Or.inr rfl)) (cwV 2 hts gX8_counts_X8_usedOf rfl rfl rfl vdX8_usedOf ⟨Nat.le_of_ble_eq_true rfl, Nat.le_of_ble_eq_true rfl⟩) (oB.recv hK hM.1 rfl) hM hK rfl hl.1 rfl dX8_counts_47 hcs (Nat.le_of_ble_eq_true rfl) ?_
    have hu1 := hB (37 + (2 * p + 1))
    rw [show ((zu σ (37 + (2 * p + 0)) (max 0 ((σ (37 + (2 * p + 0))) + b))) (37 + (2 * p + 1))) = (σ (37 + (2 * p + 1))) from (zu_n _ _ (by omega))]
    refine lv_lload (pc := 50) E.1 E.2 dX8_counts_50 (lv_at hl 3 rfl) ?_
    refine z_ladd (pc := 52) E dX8_counts_52 ?_
    refine z_rSl (pc := 53) (P := fun _ => True) (As := [.long (iL 0), .long (iL ((σ (37 + (2 * p + 1))) + n))]) (rest := [.int (iI (37 + (2 * p + 1))), .ref (o 1)]) E hml hown hts (mX8_greater lL G 0 ((σ (37 + (2 * p + 1))) + n) ⟨by omega, by omega⟩ ⟨by omega, by omega⟩) (va_cwS 2 hts gX8_counts_X8_greater rfl rfl rfl vdX8_greater.2 ⟨Nat.le_of_ble_eq_true rfl, Nat.le_of_ble_eq_true rfl⟩) trivial hK rfl hl.1 rfl dX8_counts_53 hcs (Nat.le_of_ble_eq_true rfl) ?_
    refine z_lastore (pc := 56) E hK hM.2.1 hS (Ax.at 1 (by decide)) ⟨by omega, by omega⟩ (by decide) dX8_counts_56 (fun H locs hnew hoth hS => ?_)
    have hM := W8.a1 hM hnew (fun a _ h => hoth a h)
    exact z_retWv E hr (by rw [show coA σ p b n = zu (zu σ (37 + (2 * p + 0)) (max 0 (σ (37 + (2 * p + 0)) + b))) (37 + (2 * p + 1)) (max 0 (σ (37 + (2 * p + 1)) + n)) by unfold coA; rw [if_neg h2]]; exact hM) hS hlocks dX8_counts_57
  · exact z_retWv E hr (by rw [show coA σ p b n = σ by unfold coA; rw [if_pos h2]]; exact hM) hS hlocks dX8_counts_5
set_option maxHeartbeats 1000000 in
set_option maxRecDepth 100000 in
theorem mX8_dropsGift (lL : Launch) (G : GG) (o : Nat → Nat) (μ σ φ κ β ω : Int → Int) (g : Int) (hI : In σ) (hg : 0 ≤ g ∧ g < σ 4) : Met lL yX8_dropsGift wsX8_dropsGift ({ frames := 0, cells := 0, slots := 0, locals := 0 } : Room) (va_Pc [.ref (o 0), .int (iI g)] (fun U => W8 G o (mV o μ) σ φ κ β ω U.heap ∧ KK G U)) (va_Qv (fun _ : Unit => True) (fun _ tZ => W8 G o (mV o μ) (dgF σ g) φ κ β ω tZ.heap) (Ax o 6)) 0 0 (Ax o 6) := by
  refine z_met (P := (fun H : Heap => W8 G o (mV o μ) σ φ κ β ω H)) (by decide) rfl (Nat.le_of_ble_eq_true rfl) (fun pp ee ss mm below meth cC E hr hml hown hts hlocks hM hK ls hl => ?_)
  have hl : lv_has ls 3 [(0, .ref (o 0)), (1, .int (iI g))] := hl
  have hcs : 0 ≤ (({ frames := 0, cells := 0, slots := 0, locals := 0 } : Room)).cells ∧ 0 ≤ (({ frames := 0, cells := 0, slots := 0, locals := 0 } : Room)).slots := ⟨Nat.zero_le _, Nat.zero_le _⟩
  have hS : va_S (Ax o 6) ss.heap ss.heap [] := va_S.rf
  have hin8 : ∀ w ∈ wsX80, w ∈ wsX8_dropsGift := fun w h => List.mem_cons_of_mem _ (List.mem_append_right _ (h))
  have hF := hI.F
  have hMm := hI.M
  have hGn := hI.Gn
  refine lv_aload_n (pc := 0) E.1 E.2 dX8_dropsGift_0 rfl (lv_at hl 0 rfl) ?_
  refine g8_0 (pc := 1) E hts hin8 hown hK hM.1 (hts _ (List.mem_of_getElem? (i := 1) rfl)) dX8_dropsGift_1 ?_
  refine z_iconst (pc := 4) E dX8_dropsGift_4 ?_
  refine lv_dup2_11 (pc := 5) E.1 E.2 dX8_dropsGift_5 rfl rfl ?_
  refine z_laload (pc := 6) E hK hM.2.1 ⟨by omega, by omega⟩ (by decide) dX8_dropsGift_6 ?_
  have hb6 := hI.bd 4
  refine z_lconst (pc := 7) (v := 1) E (by decide) dX8_dropsGift_7 ?_
  refine z_lsub (pc := 8) E dX8_dropsGift_8 ?_
  refine z_lastore (pc := 9) E hK hM.2.1 hS (Ax.at 1 (by decide)) ⟨by omega, by omega⟩ (by decide) dX8_dropsGift_9 (fun H locs hnew hoth hS => ?_)
  have hM := W8.a1 hM hnew (fun a _ h => hoth a h)
  refine z_sipush (pc := 10) E (by decide) dX8_dropsGift_10 ?_
  refine z_iconst (pc := 13) E dX8_dropsGift_13 ?_
  refine lv_iload_n (pc := 14) E.1 E.2 dX8_dropsGift_14 rfl (lv_at hl 1 rfl) ?_
  refine z_imul (pc := 15) E dX8_dropsGift_15 ?_
  refine z_iadd (pc := 16) E dX8_dropsGift_16 ?_
  refine lv_istore_n (pc := 17) (lv' := [(2, .int (iI (309 + (4 * g)))), (0, .ref (o 0)), (1, .int (iI g))]) E.1 E.2 dX8_dropsGift_17 rfl hl (by decide) rfl (fun ls hl => ?_)
  suffices L18 : ∀ (nf : Nat), ∀ (i : Int), (309 + 4 * g ≤ i ∧ i ≤ 309 + 4 * (σ 4 - 1)) → ((309 + 4 * (σ 4 - 1) - i).toNat) < nf → ∀  (H : Heap) (locs : List Loc), W8 G o [.ref (o 1), .ref (o 2), .ref (o 3), .int (iI (μ 3)), .int (iI (μ 4)), .ref (o 4), .int (iI (μ 6)), .int (iI (μ 7)), .int (iI (μ 8)), .int (iI (μ 9)), .int (iI (μ 10)), .int (iI (μ 11)), .int (iI (μ 12)), .int (iI (μ 13)), .int (iI (μ 14)), .long (iL (μ 15)), .ref (o 5), .int (iI (μ 17))] (dgA σ g i) φ κ β ω H → va_S (Ax o 6) ss.heap H locs → ∀ ls : Array Slot, lv_has ls 3 [(2, .int (iI i)), (0, .ref (o 0)), (1, .int (iI g))] → W pp lL ee ({ frames := 0, cells := 0, slots := 0, locals := 0 } : Room) ss mm [.ref (o 0), .int (iI g)].toArray below meth cC H locs 0 0 (MQ below (va_Qv (fun _ : Unit => True) (fun _ tZ => W8 G o (mV o μ) (dgF σ g) φ κ β ω tZ.heap) (Ax o 6)) [.ref (o 0), .int (iI g)].toArray ss 0 0 (Ax o 6)) (F0 mm 18 ls []) from L18 _ (309 + (4 * g)) (by omega) (Nat.lt_succ_self _)  _ _ (by rw [← dgA_0]; exact hM) hS ls (lv_sub hl [0, 1, 2] rfl)
  intro nfL18
  induction nfL18 with
  | zero => intro i hi hmzL18; exact absurd hmzL18 (Nat.not_lt_zero _)
  | succ nfL18 ihL18 =>
    intro i hi hmzL18  H locs hM hS ls hl
    refine lv_iload_n (pc := 18) E.1 E.2 dX8_dropsGift_18 rfl (lv_at hl 0 rfl) ?_
    refine z_i2l (pc := 19) E ⟨by omega, by omega⟩ dX8_dropsGift_19 ?_
    refine lv_ldc2 (pc := 20) (v := iL (309)) E.1 E.2 hown (show (Jvm.Cond.constantLong RX8 339 (iL (309))).before _ ss = true from (hts _ (List.mem_of_getElem? (i := 2) rfl))) dX8_dropsGift_20 ?_
    refine lv_ldc2 (pc := 23) (v := iL (4)) E.1 E.2 hown (show (Jvm.Cond.constantLong RX8 341 (iL (4))).before _ ss = true from (hts _ (List.mem_of_getElem? (i := 3) rfl))) dX8_dropsGift_23 ?_
    refine lv_aload_n (pc := 26) E.1 E.2 dX8_dropsGift_26 rfl (lv_at hl 1 rfl) ?_
    refine g8_0 (pc := 27) E hts hin8 hown hK hM.1 (hts _ (List.mem_of_getElem? (i := 1) rfl)) dX8_dropsGift_27 ?_
    refine z_iconst (pc := 30) E dX8_dropsGift_30 ?_
    refine z_laload (pc := 31) E hK hM.2.1 ⟨by omega, by omega⟩ (by decide) dX8_dropsGift_31 ?_
    rw [show ((dgA σ g i) 4) = (σ 4 - 1) from rfl]
    refine z_lmul (pc := 32) E dX8_dropsGift_32 ?_
    refine z_ladd (pc := 33) E dX8_dropsGift_33 ?_
    refine z_lcmp_ge (pc := 34) (tgt := 58) E ⟨by omega, by omega⟩ ⟨by omega, by omega⟩ dX8_dropsGift_34 dX8_dropsGift_35 (by decide) (fun h34 => ?_) (fun h34 => ?_)
    · have ei : i = 309 + 4 * (σ 4 - 1) := by omega
      subst ei
      exact z_retWv E hr hM hS hlocks dX8_dropsGift_58
    · refine lv_aload_n (pc := 38) E.1 E.2 dX8_dropsGift_38 rfl (lv_at hl 1 rfl) ?_
      refine g8_0 (pc := 39) E hts hin8 hown hK hM.1 (hts _ (List.mem_of_getElem? (i := 1) rfl)) dX8_dropsGift_39 ?_
      refine lv_iload_n (pc := 42) E.1 E.2 dX8_dropsGift_42 rfl (lv_at hl 0 rfl) ?_
      refine lv_aload_n (pc := 43) E.1 E.2 dX8_dropsGift_43 rfl (lv_at hl 1 rfl) ?_
      refine g8_0 (pc := 44) E hts hin8 hown hK hM.1 (hts _ (List.mem_of_getElem? (i := 1) rfl)) dX8_dropsGift_44 ?_
      refine lv_iload_n (pc := 47) E.1 E.2 dX8_dropsGift_47 rfl (lv_at hl 0 rfl) ?_
      refine z_iconst (pc := 48) E dX8_dropsGift_48 ?_
      refine z_iadd (pc := 49) E dX8_dropsGift_49 ?_
      refine z_laload (pc := 50) E hK hM.2.1 ⟨by omega, by omega⟩ (by decide) dX8_dropsGift_50 ?_
      refine z_lastore (pc := 51) E hK hM.2.1 hS (Ax.at 1 (by decide)) ⟨by omega, by omega⟩ (by decide) dX8_dropsGift_51 (fun H locs hnew hoth hS => ?_)
      have hM := W8.a1 hM hnew (fun a _ h => hoth a h)
      refine lv_iinc (pc := 52) (v := iI (i + 1)) (lv' := [(2, .int (iI (i + 1))), (0, .ref (o 0)), (1, .int (iI g))]) E.1 E.2 dX8_dropsGift_52 hl (k := 0) rfl (iI_add _ _) (by decide) rfl (fun ls hl => ?_)
      refine lv_goto (pc := 55) (tgt := 18) E.1 E.2 dX8_dropsGift_55 (by decide) ?_
      exact ihL18 (i + 1) (by omega) (by omega)  _ _ (by rw [← dgA_s σ hg.1 hi.1]; exact hM) hS ls (lv_sub hl [0, 1, 2] rfl)
