theorem vdX3_has : yX3_has.cls = RX3 ∧ yX3_has.cls ≠ "java/lang/invoke/MethodHandle" ∧ yX3_has.cls ≠ "java/lang/invoke/VarHandle" ∧ (parseMethodDescriptor yX3_has.desc).map (fun d => d.parameters.length) = some 1 := by decide +kernel
theorem vdX3_isFull : yX3_isFull.cls = RX3 ∧ yX3_isFull.cls ≠ "java/lang/invoke/MethodHandle" ∧ yX3_isFull.cls ≠ "java/lang/invoke/VarHandle" ∧ (parseMethodDescriptor yX3_isFull.desc).map (fun d => d.parameters.length) = some 0 := by decide +kernel
theorem vdX3_parentOf : yX3_parentOf.cls = RX3 ∧ yX3_parentOf.cls ≠ "java/lang/invoke/MethodHandle" ∧ yX3_parentOf.cls ≠ "java/lang/invoke/VarHandle" ∧ (parseMethodDescriptor yX3_parentOf.desc).map (fun d => d.parameters.length) = some 1 := by decide +kernel
theorem vdX3_tagOf : yX3_tagOf.cls = RX3 ∧ yX3_tagOf.cls ≠ "java/lang/invoke/MethodHandle" ∧ yX3_tagOf.cls ≠ "java/lang/invoke/VarHandle" ∧ (parseMethodDescriptor yX3_tagOf.desc).map (fun d => d.parameters.length) = some 1 := by decide +kernel
theorem vdX3_nameOf : yX3_nameOf.cls = RX3 ∧ yX3_nameOf.cls ≠ "java/lang/invoke/MethodHandle" ∧ yX3_nameOf.cls ≠ "java/lang/invoke/VarHandle" ∧ (parseMethodDescriptor yX3_nameOf.desc).map (fun d => d.parameters.length) = some 1 := by decide +kernel
theorem vdX3_numberOf : yX3_numberOf.cls = RX3 ∧ yX3_numberOf.cls ≠ "java/lang/invoke/MethodHandle" ∧ yX3_numberOf.cls ≠ "java/lang/invoke/VarHandle" ∧ (parseMethodDescriptor yX3_numberOf.desc).map (fun d => d.parameters.length) = some 1 := by decide +kernel
theorem vdX3_taggedTotal : yX3_taggedTotal.cls = RX3 ∧ yX3_taggedTotal.cls ≠ "java/lang/invoke/MethodHandle" ∧ yX3_taggedTotal.cls ≠ "java/lang/invoke/VarHandle" ∧ (parseMethodDescriptor yX3_taggedTotal.desc).map (fun d => d.parameters.length) = some 0 := by decide +kernel
theorem vdX3_childrenOf : yX3_childrenOf.cls = RX3 ∧ yX3_childrenOf.cls ≠ "java/lang/invoke/MethodHandle" ∧ yX3_childrenOf.cls ≠ "java/lang/invoke/VarHandle" ∧ (parseMethodDescriptor yX3_childrenOf.desc).map (fun d => d.parameters.length) = some 1 := by decide +kernel
theorem vdX3_depthOf : yX3_depthOf.cls = RX3 ∧ yX3_depthOf.cls ≠ "java/lang/invoke/MethodHandle" ∧ yX3_depthOf.cls ≠ "java/lang/invoke/VarHandle" ∧ (parseMethodDescriptor yX3_depthOf.desc).map (fun d => d.parameters.length) = some 1 := by decide +kernel
theorem vdX3_projectOf : yX3_projectOf.cls = RX3 ∧ yX3_projectOf.cls ≠ "java/lang/invoke/MethodHandle" ∧ yX3_projectOf.cls ≠ "java/lang/invoke/VarHandle" ∧ (parseMethodDescriptor yX3_projectOf.desc).map (fun d => d.parameters.length) = some 1 := by decide +kernel
theorem vdX3_isInSubtree : yX3_isInSubtree.cls = RX3 ∧ yX3_isInSubtree.cls ≠ "java/lang/invoke/MethodHandle" ∧ yX3_isInSubtree.cls ≠ "java/lang/invoke/VarHandle" ∧ (parseMethodDescriptor yX3_isInSubtree.desc).map (fun d => d.parameters.length) = some 2 := by decide +kernel
theorem vdX2_has : yX2_has.cls = RX2 ∧ yX2_has.cls ≠ "java/lang/invoke/MethodHandle" ∧ yX2_has.cls ≠ "java/lang/invoke/VarHandle" ∧ (parseMethodDescriptor yX2_has.desc).map (fun d => d.parameters.length) = some 1 := by decide +kernel
theorem vdX2_isFull : yX2_isFull.cls = RX2 ∧ yX2_isFull.cls ≠ "java/lang/invoke/MethodHandle" ∧ yX2_isFull.cls ≠ "java/lang/invoke/VarHandle" ∧ (parseMethodDescriptor yX2_isFull.desc).map (fun d => d.parameters.length) = some 0 := by decide +kernel
theorem vdX2_placeOf : yX2_placeOf.cls = RX2 ∧ yX2_placeOf.cls ≠ "java/lang/invoke/MethodHandle" ∧ yX2_placeOf.cls ≠ "java/lang/invoke/VarHandle" ∧ (parseMethodDescriptor yX2_placeOf.desc).map (fun d => d.parameters.length) = some 1 := by decide +kernel
theorem vdX2_sizeOf : yX2_sizeOf.cls = RX2 ∧ yX2_sizeOf.cls ≠ "java/lang/invoke/MethodHandle" ∧ yX2_sizeOf.cls ≠ "java/lang/invoke/VarHandle" ∧ (parseMethodDescriptor yX2_sizeOf.desc).map (fun d => d.parameters.length) = some 1 := by decide +kernel
theorem vdX0_amountOf : yX0_amountOf.cls = RX0 ∧ yX0_amountOf.cls ≠ "java/lang/invoke/MethodHandle" ∧ yX0_amountOf.cls ≠ "java/lang/invoke/VarHandle" ∧ (parseMethodDescriptor yX0_amountOf.desc).map (fun d => d.parameters.length) = some 1 := by decide +kernel
theorem vdX0_clockOf : yX0_clockOf.cls = RX0 ∧ yX0_clockOf.cls ≠ "java/lang/invoke/MethodHandle" ∧ yX0_clockOf.cls ≠ "java/lang/invoke/VarHandle" ∧ (parseMethodDescriptor yX0_clockOf.desc).map (fun d => d.parameters.length) = some 1 := by decide +kernel
set_option maxHeartbeats 1000000 in
set_option maxRecDepth 100000 in
theorem mX3_has (lL : Launch) (G : GG) (o : Nat → Nat) (σ : Int → Int) (f : Int) (hI : In σ) (hf : -2147483648 ≤ f ∧ f < 2147483648) : Met lL yX3_has wsX3_has ({ frames := 0, cells := 0, slots := 0, locals := 0 } : Room) (va_Pc [.ref (o 0), .int (iI f)] (fun U => FO G o σ U.heap ∧ KK G U)) (vp_Si (fun r => r = (iI (if 0 ≤ f ∧ f < σ 2 then 1 else 0)))) 0 0 (fun _ => False) := by
  refine z_met (P := (fun H : Heap => FO G o σ H)) (by decide) rfl (Nat.le_of_ble_eq_true rfl) (fun pp ee ss mm below meth cC E hr hml hown hts hlocks hFO hK ls hl => ?_)
  have hl : lv_has ls 2 [(0, .ref (o 0)), (1, .int (iI f))] := hl
  have hcs : 0 ≤ (({ frames := 0, cells := 0, slots := 0, locals := 0 } : Room)).cells ∧ 0 ≤ (({ frames := 0, cells := 0, slots := 0, locals := 0 } : Room)).slots := ⟨Nat.zero_le _, Nat.zero_le _⟩
  have hin3 : ∀ w ∈ wsX30, w ∈ wsX3_has := fun w h => List.mem_cons_of_mem _ (List.mem_append_right _ (h))
  obtain ⟨pa, na, ta, hM, hs⟩ := id hFO
  have hF := hI.F
  have hMm := hI.M
  have hGn := hI.Gn
  refine lv_iload_n (pc := 0) E.1 E.2 dX3_has_0 rfl (lv_at hl 1 rfl) ?_
  refine z_if_lt (pc := 1) (tgt := 16) E ⟨by omega, by omega⟩ dX3_has_1 (by decide) (fun h1 => ?_) (fun h1 => ?_)
  · refine z_iconst (pc := 16) E dX3_has_16 ?_
    exact z_retRz E hr rfl (congrArg iI (by first | exact (if_pos (by omega)).symm | exact (if_neg (by omega)).symm)) hlocks dX3_has_17
  · refine lv_iload_n (pc := 4) E.1 E.2 dX3_has_4 rfl (lv_at hl 1 rfl) ?_
    refine lv_aload_n (pc := 5) E.1 E.2 dX3_has_5 rfl (lv_at hl 0 rfl) ?_
    refine g3_3 (pc := 6) E hts hin3 hown hK hM.1 (hts _ (List.mem_of_getElem? (i := 1) rfl)) dX3_has_6 ?_
    refine z_icmp_ge (pc := 9) (tgt := 16) E ⟨by omega, by omega⟩ ⟨by omega, by omega⟩ dX3_has_9 (by decide) (fun h9 => ?_) (fun h9 => ?_)
    · refine z_iconst (pc := 16) E dX3_has_16 ?_
      exact z_retRz E hr rfl (congrArg iI (by first | exact (if_pos (by omega)).symm | exact (if_neg (by omega)).symm)) hlocks dX3_has_17
    · refine z_iconst (pc := 12) E dX3_has_12 ?_
      refine lv_goto (pc := 13) (tgt := 17) E.1 E.2 dX3_has_13 (by decide) ?_
      exact z_retRz E hr rfl (congrArg iI (by first | exact (if_pos (by omega)).symm | exact (if_neg (by omega)).symm)) hlocks dX3_has_17
set_option maxHeartbeats 1000000 in
set_option maxRecDepth 100000 in
theorem mX3_isFull (lL : Launch) (G : GG) (o : Nat → Nat) (σ : Int → Int) (hI : In σ) : Met lL yX3_isFull wsX3_isFull ({ frames := 0, cells := 0, slots := 0, locals := 0 } : Room) (va_Pc [.ref (o 0)] (fun U => FO G o σ U.heap ∧ KK G U)) (vp_Si (fun r => r = (iI (if 40 ≤ σ 2 then 1 else 0)))) 0 0 (fun _ => False) := by
  refine z_met (P := (fun H : Heap => FO G o σ H)) (by decide) rfl (Nat.le_of_ble_eq_true rfl) (fun pp ee ss mm below meth cC E hr hml hown hts hlocks hFO hK ls hl => ?_)
  have hl : lv_has ls 1 [(0, .ref (o 0))] := hl
  have hcs : 0 ≤ (({ frames := 0, cells := 0, slots := 0, locals := 0 } : Room)).cells ∧ 0 ≤ (({ frames := 0, cells := 0, slots := 0, locals := 0 } : Room)).slots := ⟨Nat.zero_le _, Nat.zero_le _⟩
  have hin3 : ∀ w ∈ wsX30, w ∈ wsX3_isFull := fun w h => List.mem_cons_of_mem _ (List.mem_append_right _ (h))
  obtain ⟨pa, na, ta, hM, hs⟩ := id hFO
  have hF := hI.F
  have hMm := hI.M
  have hGn := hI.Gn
  refine lv_aload_n (pc := 0) E.1 E.2 dX3_isFull_0 rfl (lv_at hl 0 rfl) ?_
  refine g3_3 (pc := 1) E hts hin3 hown hK hM.1 (hts _ (List.mem_of_getElem? (i := 1) rfl)) dX3_isFull_1 ?_
  refine z_bipush (pc := 4) E (by decide) dX3_isFull_4 ?_
  refine z_icmp_lt (pc := 6) (tgt := 13) E ⟨by omega, by omega⟩ (by decide) dX3_isFull_6 (by decide) (fun h6 => ?_) (fun h6 => ?_)
  · refine z_iconst (pc := 13) E dX3_isFull_13 ?_
    exact z_retRz E hr rfl (congrArg iI (by first | exact (if_pos (by omega)).symm | exact (if_neg (by omega)).symm)) hlocks dX3_isFull_14
  · refine z_iconst (pc := 9) E dX3_isFull_9 ?_
    refine lv_goto (pc := 10) (tgt := 14) E.1 E.2 dX3_isFull_10 (by decide) ?_
    exact z_retRz E hr rfl (congrArg iI (by first | exact (if_pos (by omega)).symm | exact (if_neg (by omega)).symm)) hlocks dX3_isFull_14
set_option maxHeartbeats 1000000 in
set_option maxRecDepth 100000 in
theorem mX3_parentOf (lL : Launch) (G : GG) (o : Nat → Nat) (σ : Int → Int) (f : Int) (hI : In σ) (hf : -2147483648 ≤ f ∧ f < 2147483648) : Met lL yX3_parentOf wsX3_parentOf ({ frames := 1, cells := 0, slots := 0, locals := 21 } : Room) (va_Pc [.ref (o 0), .int (iI f)] (fun U => FO G o σ U.heap ∧ KK G U)) (vp_Si (fun r => r = (iI (if 0 ≤ f ∧ f < σ 2 then σ (69 + f) else -1)))) 0 0 (fun _ => False) := by
  refine z_met (P := (fun H : Heap => FO G o σ H)) (by decide) rfl (Nat.le_of_ble_eq_true rfl) (fun pp ee ss mm below meth cC E hr hml hown hts hlocks hFO hK ls hl => ?_)
  have hl : lv_has ls 2 [(0, .ref (o 0)), (1, .int (iI f))] := hl
  have hcs : 0 ≤ (({ frames := 1, cells := 0, slots := 0, locals := 21 } : Room)).cells ∧ 0 ≤ (({ frames := 1, cells := 0, slots := 0, locals := 21 } : Room)).slots := ⟨Nat.zero_le _, Nat.zero_le _⟩
  have hin3 : ∀ w ∈ wsX30, w ∈ wsX3_parentOf := fun w h => List.mem_cons_of_mem _ (List.mem_append_right _ (h))
  obtain ⟨pa, na, ta, hM, hs⟩ := id hFO
  have hF := hI.F
  have hMm := hI.M
  have hGn := hI.Gn
  refine lv_aload_n (pc := 0) E.1 E.2 dX3_parentOf_0 rfl (lv_at hl 0 rfl) ?_
  refine lv_iload_n (pc := 1) E.1 E.2 dX3_parentOf_1 rfl (lv_at hl 1 rfl) ?_
  refine z_rVi (pc := 2) (As := [.int (iI f)]) (rest := []) E hml hown hts (mX3_has lL G o σ f hI (by omega)) (cwV 1 hts gX3_parentOf_X3_has rfl rfl rfl vdX3_has ⟨Nat.le_of_ble_eq_true rfl, Nat.le_of_ble_eq_true rfl⟩) (oB.recv hK hM.1 rfl) hFO hK rfl hl.1 rfl dX3_parentOf_2 hcs (Nat.le_of_ble_eq_true rfl) ?_
  refine z_ifb_eq (pc := 5) (tgt := 17) E dX3_parentOf_5 (by decide) (fun h5 => ?_) (fun h5 => ?_)
  · refine z_iconst (pc := 17) E dX3_parentOf_17 ?_
    exact z_retRi E hr (congrArg iI (by first | exact (if_pos h5).symm | exact (if_neg h5).symm)) hlocks dX3_parentOf_18
  · refine lv_aload_n (pc := 8) E.1 E.2 dX3_parentOf_8 rfl (lv_at hl 0 rfl) ?_
    refine g3_0 (pc := 9) E hts hin3 hown hK hM.1 (hts _ (List.mem_of_getElem? (i := 1) rfl)) dX3_parentOf_9 ?_
    refine lv_iload_n (pc := 12) E.1 E.2 dX3_parentOf_12 rfl (lv_at hl 1 rfl) ?_
    refine z_ialoadE (pc := 13) E hK hM.2.1 ⟨by omega, by omega⟩ (by decide) (hs _ (by omega) (by omega)).1 dX3_parentOf_13 ?_
    refine lv_goto (pc := 14) (tgt := 18) E.1 E.2 dX3_parentOf_14 (by decide) ?_
    exact z_retRi E hr (congrArg iI (by first | exact (if_pos h5).symm | exact (if_neg h5).symm)) hlocks dX3_parentOf_18
set_option maxHeartbeats 1000000 in
set_option maxRecDepth 100000 in
theorem mX3_tagOf (lL : Launch) (G : GG) (o : Nat → Nat) (σ : Int → Int) (f : Int) (hI : In σ) (hf : -2147483648 ≤ f ∧ f < 2147483648) : Met lL yX3_tagOf wsX3_tagOf ({ frames := 1, cells := 0, slots := 0, locals := 21 } : Room) (va_Pc [.ref (o 0), .int (iI f)] (fun U => FO G o σ U.heap ∧ KK G U)) (vp_Si (fun r => r = (iI (if 0 ≤ f ∧ f < σ 2 then σ (109 + f) else -1)))) 0 0 (fun _ => False) := by
  refine z_met (P := (fun H : Heap => FO G o σ H)) (by decide) rfl (Nat.le_of_ble_eq_true rfl) (fun pp ee ss mm below meth cC E hr hml hown hts hlocks hFO hK ls hl => ?_)
  have hl : lv_has ls 2 [(0, .ref (o 0)), (1, .int (iI f))] := hl
  have hcs : 0 ≤ (({ frames := 1, cells := 0, slots := 0, locals := 21 } : Room)).cells ∧ 0 ≤ (({ frames := 1, cells := 0, slots := 0, locals := 21 } : Room)).slots := ⟨Nat.zero_le _, Nat.zero_le _⟩
  have hin3 : ∀ w ∈ wsX30, w ∈ wsX3_tagOf := fun w h => List.mem_cons_of_mem _ (List.mem_append_right _ (h))
  obtain ⟨pa, na, ta, hM, hs⟩ := id hFO
  have hF := hI.F
  have hMm := hI.M
  have hGn := hI.Gn
  refine lv_aload_n (pc := 0) E.1 E.2 dX3_tagOf_0 rfl (lv_at hl 0 rfl) ?_
  refine lv_iload_n (pc := 1) E.1 E.2 dX3_tagOf_1 rfl (lv_at hl 1 rfl) ?_
  refine z_rVi (pc := 2) (As := [.int (iI f)]) (rest := []) E hml hown hts (mX3_has lL G o σ f hI (by omega)) (cwV 1 hts gX3_tagOf_X3_has rfl rfl rfl vdX3_has ⟨Nat.le_of_ble_eq_true rfl, Nat.le_of_ble_eq_true rfl⟩) (oB.recv hK hM.1 rfl) hFO hK rfl hl.1 rfl dX3_tagOf_2 hcs (Nat.le_of_ble_eq_true rfl) ?_
  refine z_ifb_eq (pc := 5) (tgt := 17) E dX3_tagOf_5 (by decide) (fun h5 => ?_) (fun h5 => ?_)
  · refine z_iconst (pc := 17) E dX3_tagOf_17 ?_
    exact z_retRi E hr (congrArg iI (by first | exact (if_pos h5).symm | exact (if_neg h5).symm)) hlocks dX3_tagOf_18
  · refine lv_aload_n (pc := 8) E.1 E.2 dX3_tagOf_8 rfl (lv_at hl 0 rfl) ?_
    refine g3_2 (pc := 9) E hts hin3 hown hK hM.1 (hts _ (List.mem_of_getElem? (i := 1) rfl)) dX3_tagOf_9 ?_
    refine lv_iload_n (pc := 12) E.1 E.2 dX3_tagOf_12 rfl (lv_at hl 1 rfl) ?_
    refine z_ialoadE (pc := 13) E hK hM.2.2.2.1 ⟨by omega, by omega⟩ (by decide) (hs _ (by omega) (by omega)).2.2 dX3_tagOf_13 ?_
    refine lv_goto (pc := 14) (tgt := 18) E.1 E.2 dX3_tagOf_14 (by decide) ?_
    exact z_retRi E hr (congrArg iI (by first | exact (if_pos h5).symm | exact (if_neg h5).symm)) hlocks dX3_tagOf_18
set_option maxHeartbeats 1000000 in
set_option maxRecDepth 100000 in
theorem mX3_nameOf (lL : Launch) (G : GG) (o : Nat → Nat) (σ : Int → Int) (f : Int) (hI : In σ) (hf : -2147483648 ≤ f ∧ f < 2147483648) : Met lL yX3_nameOf wsX3_nameOf ({ frames := 1, cells := 0, slots := 0, locals := 21 } : Room) (va_Pc [.ref (o 0), .int (iI f)] (fun U => FO G o σ U.heap ∧ KK G U)) (vp_Sl (fun r => r = (iL (if 0 ≤ f ∧ f < σ 2 then σ (149 + f) else 0)))) 0 0 (fun _ => False) := by
  refine z_met (P := (fun H : Heap => FO G o σ H)) (by decide) rfl (Nat.le_of_ble_eq_true rfl) (fun pp ee ss mm below meth cC E hr hml hown hts hlocks hFO hK ls hl => ?_)
  have hl : lv_has ls 2 [(0, .ref (o 0)), (1, .int (iI f))] := hl
  have hcs : 0 ≤ (({ frames := 1, cells := 0, slots := 0, locals := 21 } : Room)).cells ∧ 0 ≤ (({ frames := 1, cells := 0, slots := 0, locals := 21 } : Room)).slots := ⟨Nat.zero_le _, Nat.zero_le _⟩
  have hin3 : ∀ w ∈ wsX30, w ∈ wsX3_nameOf := fun w h => List.mem_cons_of_mem _ (List.mem_append_right _ (h))
  obtain ⟨pa, na, ta, hM, hs⟩ := id hFO
  have hF := hI.F
  have hMm := hI.M
  have hGn := hI.Gn
  refine lv_aload_n (pc := 0) E.1 E.2 dX3_nameOf_0 rfl (lv_at hl 0 rfl) ?_
  refine lv_iload_n (pc := 1) E.1 E.2 dX3_nameOf_1 rfl (lv_at hl 1 rfl) ?_
  refine z_rVi (pc := 2) (As := [.int (iI f)]) (rest := []) E hml hown hts (mX3_has lL G o σ f hI (by omega)) (cwV 1 hts gX3_nameOf_X3_has rfl rfl rfl vdX3_has ⟨Nat.le_of_ble_eq_true rfl, Nat.le_of_ble_eq_true rfl⟩) (oB.recv hK hM.1 rfl) hFO hK rfl hl.1 rfl dX3_nameOf_2 hcs (Nat.le_of_ble_eq_true rfl) ?_
  refine z_ifb_eq (pc := 5) (tgt := 17) E dX3_nameOf_5 (by decide) (fun h5 => ?_) (fun h5 => ?_)
  · refine z_lconst (pc := 17) (v := 0) E (by decide) dX3_nameOf_17 ?_
    exact z_retRl E hr (congrArg iL (by first | exact (if_pos h5).symm | exact (if_neg h5).symm)) hlocks dX3_nameOf_18
  · refine lv_aload_n (pc := 8) E.1 E.2 dX3_nameOf_8 rfl (lv_at hl 0 rfl) ?_
    refine g3_1 (pc := 9) E hts hin3 hown hK hM.1 (hts _ (List.mem_of_getElem? (i := 1) rfl)) dX3_nameOf_9 ?_
    refine lv_iload_n (pc := 12) E.1 E.2 dX3_nameOf_12 rfl (lv_at hl 1 rfl) ?_
    refine z_laloadE (pc := 13) E hK hM.2.2.1 ⟨by omega, by omega⟩ (by decide) (hs _ (by omega) (by omega)).2.1 dX3_nameOf_13 ?_
    refine lv_goto (pc := 14) (tgt := 18) E.1 E.2 dX3_nameOf_14 (by decide) ?_
    exact z_retRl E hr (congrArg iL (by first | exact (if_pos h5).symm | exact (if_neg h5).symm)) hlocks dX3_nameOf_18
set_option maxHeartbeats 1000000 in
set_option maxRecDepth 100000 in
theorem mX3_numberOf (lL : Launch) (G : GG) (o : Nat → Nat) (σ : Int → Int) (x : Int) (hI : In σ) (hx : -9223372036854775808 ≤ x ∧ x < 9223372036854775808) : Met lL yX3_numberOf wsX3_numberOf ({ frames := 0, cells := 0, slots := 0, locals := 0 } : Room) (va_Pc [.ref (o 0), .long (iL x)] (fun U => FO G o σ U.heap ∧ KK G U)) (vp_Si (fun r => r = (iI (fnS σ x 0)))) 0 0 (fun _ => False) := by
  refine z_met (P := (fun H : Heap => FO G o σ H)) (by decide) rfl (Nat.le_of_ble_eq_true rfl) (fun pp ee ss mm below meth cC E hr hml hown hts hlocks hFO hK ls hl => ?_)
  have hl : lv_has ls 4 [(0, .ref (o 0)), (1, .long (iL x))] := hl
  have hcs : 0 ≤ (({ frames := 0, cells := 0, slots := 0, locals := 0 } : Room)).cells ∧ 0 ≤ (({ frames := 0, cells := 0, slots := 0, locals := 0 } : Room)).slots := ⟨Nat.zero_le _, Nat.zero_le _⟩
  have hin3 : ∀ w ∈ wsX30, w ∈ wsX3_numberOf := fun w h => List.mem_cons_of_mem _ (List.mem_append_right _ (h))
  obtain ⟨pa, na, ta, hM, hs⟩ := id hFO
  have hF := hI.F
  have hMm := hI.M
  have hGn := hI.Gn
  refine z_iconst (pc := 0) E dX3_numberOf_0 ?_
  refine lv_istore_n (pc := 1) (lv' := [(3, .int (iI 0)), (0, .ref (o 0)), (1, .long (iL x))]) E.1 E.2 dX3_numberOf_1 rfl hl (by decide) rfl (fun ls hl => ?_)
  suffices L2 : ∀ (nf : Nat), ∀ (k : Int), (0 ≤ k ∧ k ≤ σ 2) → (fnS σ x k = fnS σ x 0) → ((σ 2 - k).toNat) < nf → ∀ ls : Array Slot, lv_has ls 4 [(3, .int (iI k)), (0, .ref (o 0)), (1, .long (iL x))] → W pp lL ee ({ frames := 0, cells := 0, slots := 0, locals := 0 } : Room) ss mm [.ref (o 0), .long (iL x)].toArray below meth cC ss.heap [] 0 0 (MQ below (vp_Si (fun r => r = (iI (fnS σ x 0)))) [.ref (o 0), .long (iL x)].toArray ss 0 0 (fun _ => False)) (F0 mm 2 ls []) from L2 _ 0 (by omega) rfl (Nat.lt_succ_self _) ls (lv_sub hl [0, 1, 2] rfl)
  intro nfL2
  induction nfL2 with
  | zero => intro k hk he hmzL2; exact absurd hmzL2 (Nat.not_lt_zero _)
  | succ nfL2 ihL2 =>
    intro k hk he hmzL2 ls hl
    refine lv_iload_n (pc := 2) E.1 E.2 dX3_numberOf_2 rfl (lv_at hl 0 rfl) ?_
    refine lv_aload_n (pc := 3) E.1 E.2 dX3_numberOf_3 rfl (lv_at hl 1 rfl) ?_
    refine g3_3 (pc := 4) E hts hin3 hown hK hM.1 (hts _ (List.mem_of_getElem? (i := 1) rfl)) dX3_numberOf_4 ?_
    refine z_icmp_ge (pc := 7) (tgt := 29) E ⟨by omega, by omega⟩ ⟨by omega, by omega⟩ dX3_numberOf_7 (by decide) (fun h7 => ?_) (fun h7 => ?_)
    · refine z_iconst (pc := 29) E dX3_numberOf_29 ?_
      exact z_retRi E hr (congrArg iI (by first | (rw [← he, fnS_s (by omega), if_pos h17]) | (rw [← he, fnS_n (by omega)]))) hlocks dX3_numberOf_30
    · refine lv_aload_n (pc := 10) E.1 E.2 dX3_numberOf_10 rfl (lv_at hl 1 rfl) ?_
      refine g3_1 (pc := 11) E hts hin3 hown hK hM.1 (hts _ (List.mem_of_getElem? (i := 2) rfl)) dX3_numberOf_11 ?_
      refine lv_iload_n (pc := 14) E.1 E.2 dX3_numberOf_14 rfl (lv_at hl 0 rfl) ?_
      refine z_laloadE (pc := 15) E hK hM.2.2.1 ⟨by omega, by omega⟩ (by decide) (hs _ (by omega) (by omega)).2.1 dX3_numberOf_15 ?_
      have hbx := hI.bd (149 + k)
      refine lv_lload_n (pc := 16) E.1 E.2 dX3_numberOf_16 rfl (lv_at hl 2 rfl) ?_
      refine z_lcmp_ne (pc := 17) (tgt := 23) E ⟨by omega, by omega⟩ ⟨by omega, by omega⟩ dX3_numberOf_17 dX3_numberOf_18 (by decide) (fun h17 => ?_) (fun h17 => ?_)
      · refine lv_iinc (pc := 23) (v := iI (k + 1)) (lv' := [(3, .int (iI (k + 1))), (0, .ref (o 0)), (1, .long (iL x))]) E.1 E.2 dX3_numberOf_23 hl (k := 0) rfl (iI_add _ _) (by decide) rfl (fun ls hl => ?_)
        refine lv_goto (pc := 26) (tgt := 2) E.1 E.2 dX3_numberOf_26 (by decide) ?_
        exact ihL2 (k + 1) (by omega) (by rw [← he, fnS_s (k := k) (by omega), if_neg h17]) (by omega) ls (lv_sub hl [0, 1, 2] rfl)
      · refine lv_iload_n (pc := 21) E.1 E.2 dX3_numberOf_21 rfl (lv_at hl 0 rfl) ?_
        exact z_retRi E hr (congrArg iI (by first | (rw [← he, fnS_s (by omega), if_pos h17]) | (rw [← he, fnS_n (by omega)]))) hlocks dX3_numberOf_22
set_option maxHeartbeats 1000000 in
set_option maxRecDepth 100000 in
theorem mX3_taggedTotal (lL : Launch) (G : GG) (o : Nat → Nat) (σ : Int → Int) (hI : In σ) : Met lL yX3_taggedTotal wsX3_taggedTotal ({ frames := 0, cells := 0, slots := 0, locals := 0 } : Room) (va_Pc [.ref (o 0)] (fun U => FO G o σ U.heap ∧ KK G U)) (vp_Si (fun r => r = (iI (tgS σ)))) 0 0 (fun _ => False) := by
  refine z_met (P := (fun H : Heap => FO G o σ H)) (by decide) rfl (Nat.le_of_ble_eq_true rfl) (fun pp ee ss mm below meth cC E hr hml hown hts hlocks hFO hK ls hl => ?_)
  have hl : lv_has ls 3 [(0, .ref (o 0))] := hl
  have hcs : 0 ≤ (({ frames := 0, cells := 0, slots := 0, locals := 0 } : Room)).cells ∧ 0 ≤ (({ frames := 0, cells := 0, slots := 0, locals := 0 } : Room)).slots := ⟨Nat.zero_le _, Nat.zero_le _⟩
  have hin3 : ∀ w ∈ wsX30, w ∈ wsX3_taggedTotal := fun w h => List.mem_cons_of_mem _ (List.mem_append_right _ (h))
  obtain ⟨pa, na, ta, hM, hs⟩ := id hFO
  have hF := hI.F
  have hMm := hI.M
  have hGn := hI.Gn
  refine z_iconst (pc := 0) E dX3_taggedTotal_0 ?_
  refine lv_istore_n (pc := 1) (lv' := [(1, .int (iI 0)), (0, .ref (o 0))]) E.1 E.2 dX3_taggedTotal_1 rfl hl (by decide) rfl (fun ls hl => ?_)
  refine z_iconst (pc := 2) E dX3_taggedTotal_2 ?_
  refine lv_istore_n (pc := 3) (lv' := [(2, .int (iI 0)), (1, .int (iI 0)), (0, .ref (o 0))]) E.1 E.2 dX3_taggedTotal_3 rfl hl (by decide) rfl (fun ls hl => ?_)
  suffices L4 : ∀ (nf : Nat), ∀ (a k : Int), (0 ≤ k ∧ k ≤ σ 2) → (a = cn (tgP σ ) k.toNat) → ((σ 2 - k).toNat) < nf → ∀ ls : Array Slot, lv_has ls 3 [(2, .int (iI k)), (1, .int (iI a)), (0, .ref (o 0))] → W pp lL ee ({ frames := 0, cells := 0, slots := 0, locals := 0 } : Room) ss mm [.ref (o 0)].toArray below meth cC ss.heap [] 0 0 (MQ below (vp_Si (fun r => r = (iI (tgS σ)))) [.ref (o 0)].toArray ss 0 0 (fun _ => False)) (F0 mm 4 ls []) from L4 _ 0 0 (by omega) rfl (Nat.lt_succ_self _) ls (lv_sub hl [0, 1, 2] rfl)
  intro nfL4
  induction nfL4 with
  | zero => intro a k hk hn hmzL4; exact absurd hmzL4 (Nat.not_lt_zero _)
  | succ nfL4 ihL4 =>
    intro a k hk hn hmzL4 ls hl
    refine lv_iload_n (pc := 4) E.1 E.2 dX3_taggedTotal_4 rfl (lv_at hl 0 rfl) ?_
    refine lv_aload_n (pc := 5) E.1 E.2 dX3_taggedTotal_5 rfl (lv_at hl 2 rfl) ?_
    refine g3_3 (pc := 6) E hts hin3 hown hK hM.1 (hts _ (List.mem_of_getElem? (i := 1) rfl)) dX3_taggedTotal_6 ?_
    refine z_icmp_ge (pc := 9) (tgt := 31) E ⟨by omega, by omega⟩ ⟨by omega, by omega⟩ dX3_taggedTotal_9 (by decide) (fun h9 => ?_) (fun h9 => ?_)
    · refine lv_iload_n (pc := 31) E.1 E.2 dX3_taggedTotal_31 rfl (lv_at hl 1 rfl) ?_
      exact z_retRi E hr (congrArg iI (by (rw [hn]; unfold tgS; congr 2; omega))) hlocks dX3_taggedTotal_32
    · refine lv_aload_n (pc := 12) E.1 E.2 dX3_taggedTotal_12 rfl (lv_at hl 2 rfl) ?_
      refine g3_2 (pc := 13) E hts hin3 hown hK hM.1 (hts _ (List.mem_of_getElem? (i := 2) rfl)) dX3_taggedTotal_13 ?_
      refine lv_iload_n (pc := 16) E.1 E.2 dX3_taggedTotal_16 rfl (lv_at hl 0 rfl) ?_
      refine z_ialoadE (pc := 17) E hK hM.2.2.2.1 ⟨by omega, by omega⟩ (by decide) (hs _ (by omega) (by omega)).2.2 dX3_taggedTotal_17 ?_
      have htk := hI.tag (f := k) hk.1 (by omega)
      refine z_iconst (pc := 18) E dX3_taggedTotal_18 ?_
      refine z_icmp_eq (pc := 19) (tgt := 25) E ⟨by omega, by omega⟩ (by decide) dX3_taggedTotal_19 (by decide) (fun h19 => ?_) (fun h19 => ?_)
      · refine lv_iinc (pc := 25) (v := iI (k + 1)) (lv' := [(2, .int (iI (k + 1))), (1, .int (iI a)), (0, .ref (o 0))]) E.1 E.2 dX3_taggedTotal_25 hl (k := 0) rfl (iI_add _ _) (by decide) rfl (fun ls hl => ?_)
        refine lv_goto (pc := 28) (tgt := 4) E.1 E.2 dX3_taggedTotal_28 (by decide) ?_
        exact ihL4 a (k + 1) (by omega) (by rw [cn_s _ hk.1, ← hn]; unfold tgP; first | (rw [if_pos h19]; omega) | (rw [if_neg h19])) (by omega) ls (lv_sub hl [0, 1, 2] rfl)
      · refine lv_iinc (pc := 22) (v := iI (a + 1)) (lv' := [(1, .int (iI (a + 1))), (2, .int (iI k)), (0, .ref (o 0))]) E.1 E.2 dX3_taggedTotal_22 hl (k := 1) rfl (iI_add _ _) (by decide) rfl (fun ls hl => ?_)
        refine lv_iinc (pc := 25) (v := iI (k + 1)) (lv' := [(2, .int (iI (k + 1))), (1, .int (iI (a + 1))), (0, .ref (o 0))]) E.1 E.2 dX3_taggedTotal_25 hl (k := 1) rfl (iI_add _ _) (by decide) rfl (fun ls hl => ?_)
        refine lv_goto (pc := 28) (tgt := 4) E.1 E.2 dX3_taggedTotal_28 (by decide) ?_
        exact ihL4 (a + 1) (k + 1) (by omega) (by rw [cn_s _ hk.1, ← hn]; unfold tgP; first | (rw [if_pos h19]; omega) | (rw [if_neg h19])) (by omega) ls (lv_sub hl [0, 1, 2] rfl)
set_option maxHeartbeats 1000000 in
set_option maxRecDepth 100000 in
theorem mX3_childrenOf (lL : Launch) (G : GG) (o : Nat → Nat) (σ : Int → Int) (f : Int) (hI : In σ) (hf : -2147483648 ≤ f ∧ f < 2147483648) : Met lL yX3_childrenOf wsX3_childrenOf ({ frames := 0, cells := 0, slots := 0, locals := 0 } : Room) (va_Pc [.ref (o 0), .int (iI f)] (fun U => FO G o σ U.heap ∧ KK G U)) (vp_Si (fun r => r = (iI (biS σ f)))) 0 0 (fun _ => False) := by
  refine z_met (P := (fun H : Heap => FO G o σ H)) (by decide) rfl (Nat.le_of_ble_eq_true rfl) (fun pp ee ss mm below meth cC E hr hml hown hts hlocks hFO hK ls hl => ?_)
  have hl : lv_has ls 4 [(0, .ref (o 0)), (1, .int (iI f))] := hl
  have hcs : 0 ≤ (({ frames := 0, cells := 0, slots := 0, locals := 0 } : Room)).cells ∧ 0 ≤ (({ frames := 0, cells := 0, slots := 0, locals := 0 } : Room)).slots := ⟨Nat.zero_le _, Nat.zero_le _⟩
  have hin3 : ∀ w ∈ wsX30, w ∈ wsX3_childrenOf := fun w h => List.mem_cons_of_mem _ (List.mem_append_right _ (h))
  obtain ⟨pa, na, ta, hM, hs⟩ := id hFO
  have hF := hI.F
  have hMm := hI.M
  have hGn := hI.Gn
  refine z_iconst (pc := 0) E dX3_childrenOf_0 ?_
  refine lv_istore_n (pc := 1) (lv' := [(2, .int (iI 0)), (0, .ref (o 0)), (1, .int (iI f))]) E.1 E.2 dX3_childrenOf_1 rfl hl (by decide) rfl (fun ls hl => ?_)
  refine z_iconst (pc := 2) E dX3_childrenOf_2 ?_
  refine lv_istore_n (pc := 3) (lv' := [(3, .int (iI 0)), (2, .int (iI 0)), (0, .ref (o 0)), (1, .int (iI f))]) E.1 E.2 dX3_childrenOf_3 rfl hl (by decide) rfl (fun ls hl => ?_)
  suffices L4 : ∀ (nf : Nat), ∀ (a k : Int), (0 ≤ k ∧ k ≤ σ 2) → (a = cn (biP σ f) k.toNat) → ((σ 2 - k).toNat) < nf → ∀ ls : Array Slot, lv_has ls 4 [(3, .int (iI k)), (2, .int (iI a)), (0, .ref (o 0)), (1, .int (iI f))] → W pp lL ee ({ frames := 0, cells := 0, slots := 0, locals := 0 } : Room) ss mm [.ref (o 0), .int (iI f)].toArray below meth cC ss.heap [] 0 0 (MQ below (vp_Si (fun r => r = (iI (biS σ f)))) [.ref (o 0), .int (iI f)].toArray ss 0 0 (fun _ => False)) (F0 mm 4 ls []) from L4 _ 0 0 (by omega) rfl (Nat.lt_succ_self _) ls (lv_sub hl [0, 1, 2, 3] rfl)
  intro nfL4
  induction nfL4 with
  | zero => intro a k hk hn hmzL4; exact absurd hmzL4 (Nat.not_lt_zero _)
  | succ nfL4 ihL4 =>
    intro a k hk hn hmzL4 ls hl
    refine lv_iload_n (pc := 4) E.1 E.2 dX3_childrenOf_4 rfl (lv_at hl 0 rfl) ?_
    refine lv_aload_n (pc := 5) E.1 E.2 dX3_childrenOf_5 rfl (lv_at hl 2 rfl) ?_
    refine g3_3 (pc := 6) E hts hin3 hown hK hM.1 (hts _ (List.mem_of_getElem? (i := 1) rfl)) dX3_childrenOf_6 ?_
    refine z_icmp_ge (pc := 9) (tgt := 31) E ⟨by omega, by omega⟩ ⟨by omega, by omega⟩ dX3_childrenOf_9 (by decide) (fun h9 => ?_) (fun h9 => ?_)
    · refine lv_iload_n (pc := 31) E.1 E.2 dX3_childrenOf_31 rfl (lv_at hl 1 rfl) ?_
      exact z_retRi E hr (congrArg iI (by (rw [hn]; unfold biS; congr 2; omega))) hlocks dX3_childrenOf_32
    · refine lv_aload_n (pc := 12) E.1 E.2 dX3_childrenOf_12 rfl (lv_at hl 2 rfl) ?_
      refine g3_0 (pc := 13) E hts hin3 hown hK hM.1 (hts _ (List.mem_of_getElem? (i := 2) rfl)) dX3_childrenOf_13 ?_
      refine lv_iload_n (pc := 16) E.1 E.2 dX3_childrenOf_16 rfl (lv_at hl 0 rfl) ?_
      refine z_ialoadE (pc := 17) E hK hM.2.1 ⟨by omega, by omega⟩ (by decide) (hs _ (by omega) (by omega)).1 dX3_childrenOf_17 ?_
      have hpk := hI.par (f := k) hk.1 (by omega)
      refine lv_iload_n (pc := 18) E.1 E.2 dX3_childrenOf_18 rfl (lv_at hl 3 rfl) ?_
      refine z_icmp_ne (pc := 19) (tgt := 25) E ⟨by omega, by omega⟩ ⟨by omega, by omega⟩ dX3_childrenOf_19 (by decide) (fun h19 => ?_) (fun h19 => ?_)
      · refine lv_iinc (pc := 25) (v := iI (k + 1)) (lv' := [(3, .int (iI (k + 1))), (2, .int (iI a)), (0, .ref (o 0)), (1, .int (iI f))]) E.1 E.2 dX3_childrenOf_25 hl (k := 0) rfl (iI_add _ _) (by decide) rfl (fun ls hl => ?_)
        refine lv_goto (pc := 28) (tgt := 4) E.1 E.2 dX3_childrenOf_28 (by decide) ?_
        exact ihL4 a (k + 1) (by omega) (by rw [cn_s _ hk.1, ← hn]; unfold biP; first | (rw [if_neg h19]; omega) | (rw [if_pos h19])) (by omega) ls (lv_sub hl [0, 1, 2, 3] rfl)
      · refine lv_iinc (pc := 22) (v := iI (a + 1)) (lv' := [(2, .int (iI (a + 1))), (3, .int (iI k)), (0, .ref (o 0)), (1, .int (iI f))]) E.1 E.2 dX3_childrenOf_22 hl (k := 1) rfl (iI_add _ _) (by decide) rfl (fun ls hl => ?_)
        refine lv_iinc (pc := 25) (v := iI (k + 1)) (lv' := [(3, .int (iI (k + 1))), (2, .int (iI (a + 1))), (0, .ref (o 0)), (1, .int (iI f))]) E.1 E.2 dX3_childrenOf_25 hl (k := 1) rfl (iI_add _ _) (by decide) rfl (fun ls hl => ?_)
        refine lv_goto (pc := 28) (tgt := 4) E.1 E.2 dX3_childrenOf_28 (by decide) ?_
        exact ihL4 (a + 1) (k + 1) (by omega) (by rw [cn_s _ hk.1, ← hn]; unfold biP; first | (rw [if_neg h19]; omega) | (rw [if_pos h19])) (by omega) ls (lv_sub hl [0, 1, 2, 3] rfl)
set_option maxHeartbeats 1000000 in
set_option maxRecDepth 100000 in
theorem mX3_depthOf (lL : Launch) (G : GG) (o : Nat → Nat) (σ : Int → Int) (f : Int) (hI : In σ) (hf : 0 ≤ f ∧ f < σ 2) : Met lL yX3_depthOf wsX3_depthOf ({ frames := 2, cells := 0, slots := 0, locals := 42 } : Room) (va_Pc [.ref (o 0), .int (iI f)] (fun U => FO G o σ U.heap ∧ KK G U)) (vp_Si (fun r => r = (iI (dpF σ (σ (69 + f)))))) 0 0 (fun _ => False) := by
  refine z_met (P := (fun H : Heap => FO G o σ H)) (by decide) rfl (Nat.le_of_ble_eq_true rfl) (fun pp ee ss mm below meth cC E hr hml hown hts hlocks hFO hK ls hl => ?_)
  have hl : lv_has ls 4 [(0, .ref (o 0)), (1, .int (iI f))] := hl
  have hcs : 0 ≤ (({ frames := 2, cells := 0, slots := 0, locals := 42 } : Room)).cells ∧ 0 ≤ (({ frames := 2, cells := 0, slots := 0, locals := 42 } : Room)).slots := ⟨Nat.zero_le _, Nat.zero_le _⟩
  obtain ⟨pa, na, ta, hM, hs⟩ := id hFO
  have hF := hI.F
  have hMm := hI.M
  have hGn := hI.Gn
  refine z_iconst (pc := 0) E dX3_depthOf_0 ?_
  refine lv_istore_n (pc := 1) (lv' := [(2, .int (iI 0)), (0, .ref (o 0)), (1, .int (iI f))]) E.1 E.2 dX3_depthOf_1 rfl hl (by decide) rfl (fun ls hl => ?_)
  refine lv_aload_n (pc := 2) E.1 E.2 dX3_depthOf_2 rfl (lv_at hl 1 rfl) ?_
  refine lv_iload_n (pc := 3) E.1 E.2 dX3_depthOf_3 rfl (lv_at hl 2 rfl) ?_
  refine z_rVi (pc := 4) (As := [.int (iI f)]) (rest := []) E hml hown hts (mX3_parentOf lL G o σ f hI (by omega)) (cwV 1 hts gX3_depthOf_X3_parentOf rfl rfl rfl vdX3_parentOf ⟨Nat.le_of_ble_eq_true rfl, Nat.le_of_ble_eq_true rfl⟩) (oB.recv hK hM.1 rfl) hFO hK rfl hl.1 rfl dX3_depthOf_4 hcs (Nat.le_of_ble_eq_true rfl) ?_
  rw [show (if 0 ≤ f ∧ f < σ 2 then σ (69 + f) else -1) = (σ (69 + f)) from (if_pos hf)]
  refine lv_istore_n (pc := 7) (lv' := [(3, .int (iI (σ (69 + f)))), (2, .int (iI 0)), (0, .ref (o 0)), (1, .int (iI f))]) E.1 E.2 dX3_depthOf_7 rfl hl (by decide) rfl (fun ls hl => ?_)
  suffices L8 : ∀ (nf : Nat), ∀ (k g : Int), (fo σ g) → (k + dpF σ g = dpF σ (σ (69 + f))) → (0 ≤ k ∧ k ≤ 40) → ((dpF σ g).toNat) < nf → ∀ ls : Array Slot, lv_has ls 4 [(3, .int (iI g)), (2, .int (iI k)), (0, .ref (o 0)), (1, .int (iI f))] → W pp lL ee ({ frames := 2, cells := 0, slots := 0, locals := 42 } : Room) ss mm [.ref (o 0), .int (iI f)].toArray below meth cC ss.heap [] 0 0 (MQ below (vp_Si (fun r => r = (iI (dpF σ (σ (69 + f)))))) [.ref (o 0), .int (iI f)].toArray ss 0 0 (fun _ => False)) (F0 mm 8 ls []) from L8 _ 0 (σ (69 + f)) (hI.fp hf.1 hf.2) (by omega) (by omega) (Nat.lt_succ_self _) ls (lv_sub hl [0, 1, 2, 3] rfl)
  intro nfL8
  induction nfL8 with
  | zero => intro k g hg he hk hmzL8; exact absurd hmzL8 (Nat.not_lt_zero _)
  | succ nfL8 ihL8 =>
    intro k g hg he hk hmzL8 ls hl
    have hgr : -1 ≤ g ∧ g < σ 2 := by rcases hg with q | q <;> omega
    refine lv_iload_n (pc := 8) E.1 E.2 dX3_depthOf_8 rfl (lv_at hl 0 rfl) ?_
    refine z_iconst (pc := 9) E dX3_depthOf_9 ?_
    refine z_icmp_eq (pc := 10) (tgt := 31) E ⟨by omega, by omega⟩ (by decide) dX3_depthOf_10 (by decide) (fun h10 => ?_) (fun h10 => ?_)
    · refine lv_iload_n (pc := 31) E.1 E.2 dX3_depthOf_31 rfl (lv_at hl 1 rfl) ?_
      exact z_retRi E hr (congrArg iI (by (rw [← he, h10, dpF_n]; omega))) hlocks dX3_depthOf_32
    · have hg2 : 0 ≤ g ∧ g < σ 2 := by rcases hg with q | q; exact absurd q h10; exact q
      refine lv_iload_n (pc := 13) E.1 E.2 dX3_depthOf_13 rfl (lv_at hl 1 rfl) ?_
      refine z_bipush (pc := 14) E (by decide) dX3_depthOf_14 ?_
      refine z_icmp_ge (pc := 16) (tgt := 31) E ⟨by omega, by omega⟩ (by decide) dX3_depthOf_16 (by decide) (fun h16 => ?_) (fun h16 => ?_)
      · have d1 := dpF_s hI.cs hf.1 hf.2
        have d2 := dpF_40 hI.cs hf.1 hf.2
        have d3 := dpF_pos hI.cs hg2.1 hg2.2
        exact absurd h16 (by omega)
      · refine lv_iinc (pc := 19) (v := iI (k + 1)) (lv' := [(2, .int (iI (k + 1))), (3, .int (iI g)), (0, .ref (o 0)), (1, .int (iI f))]) E.1 E.2 dX3_depthOf_19 hl (k := 1) rfl (iI_add _ _) (by decide) rfl (fun ls hl => ?_)
        refine lv_aload_n (pc := 22) E.1 E.2 dX3_depthOf_22 rfl (lv_at hl 2 rfl) ?_
        refine lv_iload_n (pc := 23) E.1 E.2 dX3_depthOf_23 rfl (lv_at hl 1 rfl) ?_
        refine z_rVi (pc := 24) (As := [.int (iI g)]) (rest := []) E hml hown hts (mX3_parentOf lL G o σ g hI (by omega)) (cwV 1 hts gX3_depthOf_X3_parentOf rfl rfl rfl vdX3_parentOf ⟨Nat.le_of_ble_eq_true rfl, Nat.le_of_ble_eq_true rfl⟩) (oB.recv hK hM.1 rfl) hFO hK rfl hl.1 rfl dX3_depthOf_24 hcs (Nat.le_of_ble_eq_true rfl) ?_
        rw [show (if 0 ≤ g ∧ g < σ 2 then σ (69 + g) else -1) = (σ (69 + g)) from (if_pos hg2)]
        refine lv_istore_n (pc := 27) (lv' := [(3, .int (iI (σ (69 + g)))), (2, .int (iI (k + 1))), (0, .ref (o 0)), (1, .int (iI f))]) E.1 E.2 dX3_depthOf_27 rfl hl (by decide) rfl (fun ls hl => ?_)
        refine lv_goto (pc := 28) (tgt := 8) E.1 E.2 dX3_depthOf_28 (by decide) ?_
        exact ihL8 (k + 1) (σ (69 + g)) (hI.fp hg2.1 hg2.2) (by have h1 := dpF_s hI.cs hg2.1 hg2.2; omega) (by omega) (by have h1 := dpF_s hI.cs hg2.1 hg2.2; have h2 := dpF_bd σ (σ (69 + g)); omega) ls (lv_sub hl [0, 1, 2, 3] rfl)
set_option maxHeartbeats 1000000 in
set_option maxRecDepth 100000 in
theorem mX3_projectOf (lL : Launch) (G : GG) (o : Nat → Nat) (σ : Int → Int) (f : Int) (hI : In σ) (hf : fo σ f) : Met lL yX3_projectOf wsX3_projectOf ({ frames := 2, cells := 0, slots := 0, locals := 42 } : Room) (va_Pc [.ref (o 0), .int (iI f)] (fun U => FO G o σ U.heap ∧ KK G U)) (vp_Si (fun r => r = (iI (pjF σ f)))) 0 0 (fun _ => False) := by
  refine z_met (P := (fun H : Heap => FO G o σ H)) (by decide) rfl (Nat.le_of_ble_eq_true rfl) (fun pp ee ss mm below meth cC E hr hml hown hts hlocks hFO hK ls hl => ?_)
  have hl : lv_has ls 4 [(0, .ref (o 0)), (1, .int (iI f))] := hl
  have hcs : 0 ≤ (({ frames := 2, cells := 0, slots := 0, locals := 42 } : Room)).cells ∧ 0 ≤ (({ frames := 2, cells := 0, slots := 0, locals := 42 } : Room)).slots := ⟨Nat.zero_le _, Nat.zero_le _⟩
  obtain ⟨pa, na, ta, hM, hs⟩ := id hFO
  have hF := hI.F
  have hMm := hI.M
  have hGn := hI.Gn
  refine lv_iload_n (pc := 0) E.1 E.2 dX3_projectOf_0 rfl (lv_at hl 1 rfl) ?_
  refine lv_istore_n (pc := 1) (lv' := [(2, .int (iI f)), (0, .ref (o 0)), (1, .int (iI f))]) E.1 E.2 dX3_projectOf_1 rfl hl (by decide) rfl (fun ls hl => ?_)
  refine z_iconst (pc := 2) E dX3_projectOf_2 ?_
  refine lv_istore_n (pc := 3) (lv' := [(3, .int (iI 0)), (2, .int (iI f)), (0, .ref (o 0)), (1, .int (iI f))]) E.1 E.2 dX3_projectOf_3 rfl hl (by decide) rfl (fun ls hl => ?_)
  suffices L4 : ∀ (nf : Nat), ∀ (g k : Int), (fo σ g) → (pjF σ g = pjF σ f) → (0 ≤ k ∧ k + dpF σ g ≤ 40) → ((dpF σ g).toNat) < nf → ∀ ls : Array Slot, lv_has ls 4 [(3, .int (iI k)), (2, .int (iI g)), (0, .ref (o 0)), (1, .int (iI f))] → W pp lL ee ({ frames := 2, cells := 0, slots := 0, locals := 42 } : Room) ss mm [.ref (o 0), .int (iI f)].toArray below meth cC ss.heap [] 0 0 (MQ below (vp_Si (fun r => r = (iI (pjF σ f)))) [.ref (o 0), .int (iI f)].toArray ss 0 0 (fun _ => False)) (F0 mm 4 ls []) from L4 _ f 0 hf rfl (by rcases hf with q | q; rw [q, dpF_n]; omega; have := dpF_40 hI.cs q.1 q.2; omega) (Nat.lt_succ_self _) ls (lv_sub hl [0, 1, 2, 3] rfl)
  intro nfL4
  induction nfL4 with
  | zero => intro g k hg he hk hmzL4; exact absurd hmzL4 (Nat.not_lt_zero _)
  | succ nfL4 ihL4 =>
    intro g k hg he hk hmzL4 ls hl
    have hgr : -1 ≤ g ∧ g < σ 2 := by rcases hg with q | q <;> omega
    have hdg := dpF_bd σ g
    refine lv_iload_n (pc := 4) E.1 E.2 dX3_projectOf_4 rfl (lv_at hl 0 rfl) ?_
    refine z_bipush (pc := 5) E (by decide) dX3_projectOf_5 ?_
    refine z_icmp_ge (pc := 7) (tgt := 42) E ⟨by omega, by omega⟩ (by decide) dX3_projectOf_7 (by decide) (fun h7 => ?_) (fun h7 => ?_)
    · have eg : g = -1 := by rcases hg with q | q; exact q; have := dpF_pos hI.cs q.1 q.2; omega
      refine z_iconst (pc := 42) E dX3_projectOf_42 ?_
      exact z_retRi E hr (congrArg iI (by first | (rw [← he, eg, pjF_n]) | (rw [← he, h12, pjF_n]) | (rw [← he, pjF_s hI.cs hg2.1 hg2.2, if_neg h21]))) hlocks dX3_projectOf_43
    · refine lv_iload_n (pc := 10) E.1 E.2 dX3_projectOf_10 rfl (lv_at hl 1 rfl) ?_
      refine z_iconst (pc := 11) E dX3_projectOf_11 ?_
      refine z_icmp_eq (pc := 12) (tgt := 42) E ⟨by omega, by omega⟩ (by decide) dX3_projectOf_12 (by decide) (fun h12 => ?_) (fun h12 => ?_)
      · refine z_iconst (pc := 42) E dX3_projectOf_42 ?_
        exact z_retRi E hr (congrArg iI (by first | (rw [← he, eg, pjF_n]) | (rw [← he, h12, pjF_n]) | (rw [← he, pjF_s hI.cs hg2.1 hg2.2, if_neg h21]))) hlocks dX3_projectOf_43
      · have hg2 : 0 ≤ g ∧ g < σ 2 := by rcases hg with q | q; exact absurd q h12; exact q
        refine lv_aload_n (pc := 15) E.1 E.2 dX3_projectOf_15 rfl (lv_at hl 2 rfl) ?_
        refine lv_iload_n (pc := 16) E.1 E.2 dX3_projectOf_16 rfl (lv_at hl 1 rfl) ?_
        refine z_rVi (pc := 17) (As := [.int (iI g)]) (rest := []) E hml hown hts (mX3_tagOf lL G o σ g hI (by omega)) (cwV 1 hts gX3_projectOf_X3_tagOf rfl rfl rfl vdX3_tagOf ⟨Nat.le_of_ble_eq_true rfl, Nat.le_of_ble_eq_true rfl⟩) (oB.recv hK hM.1 rfl) hFO hK rfl hl.1 rfl dX3_projectOf_17 hcs (Nat.le_of_ble_eq_true rfl) ?_
        have htg := hI.tag hg2.1 hg2.2
        rw [show (if 0 ≤ g ∧ g < σ 2 then σ (109 + g) else -1) = (σ (109 + g)) from (if_pos hg2)]
        refine z_iconst (pc := 20) E dX3_projectOf_20 ?_
        refine z_icmp_eq (pc := 21) (tgt := 30) E ⟨by omega, by omega⟩ (by decide) dX3_projectOf_21 (by decide) (fun h21 => ?_) (fun h21 => ?_)
        · refine lv_aload_n (pc := 30) E.1 E.2 dX3_projectOf_30 rfl (lv_at hl 2 rfl) ?_
          refine lv_iload_n (pc := 31) E.1 E.2 dX3_projectOf_31 rfl (lv_at hl 1 rfl) ?_
          refine z_rVi (pc := 32) (As := [.int (iI g)]) (rest := []) E hml hown hts (mX3_parentOf lL G o σ g hI (by omega)) (cwV 1 hts gX3_projectOf_X3_parentOf rfl rfl rfl vdX3_parentOf ⟨Nat.le_of_ble_eq_true rfl, Nat.le_of_ble_eq_true rfl⟩) (oB.recv hK hM.1 rfl) hFO hK rfl hl.1 rfl dX3_projectOf_32 hcs (Nat.le_of_ble_eq_true rfl) ?_
          rw [show (if 0 ≤ g ∧ g < σ 2 then σ (69 + g) else -1) = (σ (69 + g)) from (if_pos hg2)]
          refine lv_istore_n (pc := 35) (lv' := [(2, .int (iI (σ (69 + g)))), (3, .int (iI k)), (0, .ref (o 0)), (1, .int (iI f))]) E.1 E.2 dX3_projectOf_35 rfl hl (by decide) rfl (fun ls hl => ?_)
          refine lv_iinc (pc := 36) (v := iI (k + 1)) (lv' := [(3, .int (iI (k + 1))), (2, .int (iI (σ (69 + g)))), (0, .ref (o 0)), (1, .int (iI f))]) E.1 E.2 dX3_projectOf_36 hl (k := 1) rfl (iI_add _ _) (by decide) rfl (fun ls hl => ?_)
          refine lv_goto (pc := 39) (tgt := 4) E.1 E.2 dX3_projectOf_39 (by decide) ?_
          exact ihL4 (σ (69 + g)) (k + 1) (hI.fp hg2.1 hg2.2) (by rw [← he, pjF_s hI.cs hg2.1 hg2.2, if_pos h21]) (by have h1 := dpF_s hI.cs hg2.1 hg2.2; omega) (by have h1 := dpF_s hI.cs hg2.1 hg2.2; have h2 := dpF_bd σ (σ (69 + g)); omega) ls (lv_sub hl [0, 1, 2, 3] rfl)
        · refine lv_aload_n (pc := 24) E.1 E.2 dX3_projectOf_24 rfl (lv_at hl 2 rfl) ?_
          refine lv_iload_n (pc := 25) E.1 E.2 dX3_projectOf_25 rfl (lv_at hl 1 rfl) ?_
          refine z_rVi (pc := 26) (As := [.int (iI g)]) (rest := []) E hml hown hts (mX3_tagOf lL G o σ g hI (by omega)) (cwV 1 hts gX3_projectOf_X3_tagOf rfl rfl rfl vdX3_tagOf ⟨Nat.le_of_ble_eq_true rfl, Nat.le_of_ble_eq_true rfl⟩) (oB.recv hK hM.1 rfl) hFO hK rfl hl.1 rfl dX3_projectOf_26 hcs (Nat.le_of_ble_eq_true rfl) ?_
          rw [show (if 0 ≤ g ∧ g < σ 2 then σ (109 + g) else -1) = (σ (109 + g)) from (if_pos hg2)]
          exact z_retRi E hr (congrArg iI (by first | (rw [← he, eg, pjF_n]) | (rw [← he, h12, pjF_n]) | (rw [← he, pjF_s hI.cs hg2.1 hg2.2, if_neg h21]))) hlocks dX3_projectOf_29
set_option maxHeartbeats 1000000 in
set_option maxRecDepth 100000 in
theorem mX3_isInSubtree (lL : Launch) (G : GG) (o : Nat → Nat) (σ : Int → Int) (f : Int) (a : Int) (hI : In σ) (hf : fo σ f) (ha : 0 ≤ a ∧ a < σ 2) : Met lL yX3_isInSubtree wsX3_isInSubtree ({ frames := 2, cells := 0, slots := 0, locals := 42 } : Room) (va_Pc [.ref (o 0), .int (iI f), .int (iI a)] (fun U => FO G o σ U.heap ∧ KK G U)) (vp_Si (fun r => r = (iI (if blF σ f a = true then 1 else 0)))) 0 0 (fun _ => False) := by
  refine z_met (P := (fun H : Heap => FO G o σ H)) (by decide) rfl (Nat.le_of_ble_eq_true rfl) (fun pp ee ss mm below meth cC E hr hml hown hts hlocks hFO hK ls hl => ?_)
  have hl : lv_has ls 5 [(0, .ref (o 0)), (1, .int (iI f)), (2, .int (iI a))] := hl
  have hcs : 0 ≤ (({ frames := 2, cells := 0, slots := 0, locals := 42 } : Room)).cells ∧ 0 ≤ (({ frames := 2, cells := 0, slots := 0, locals := 42 } : Room)).slots := ⟨Nat.zero_le _, Nat.zero_le _⟩
  obtain ⟨pa, na, ta, hM, hs⟩ := id hFO
  have hF := hI.F
  have hMm := hI.M
  have hGn := hI.Gn
  refine lv_iload_n (pc := 0) E.1 E.2 dX3_isInSubtree_0 rfl (lv_at hl 1 rfl) ?_
  refine lv_istore_n (pc := 1) (lv' := [(3, .int (iI f)), (0, .ref (o 0)), (1, .int (iI f)), (2, .int (iI a))]) E.1 E.2 dX3_isInSubtree_1 rfl hl (by decide) rfl (fun ls hl => ?_)
  refine z_iconst (pc := 2) E dX3_isInSubtree_2 ?_
  refine lv_istore (pc := 3) (lv' := [(4, .int (iI 0)), (3, .int (iI f)), (0, .ref (o 0)), (1, .int (iI f)), (2, .int (iI a))]) E.1 E.2 dX3_isInSubtree_3 hl (by decide) rfl (fun ls hl => ?_)
  suffices L5 : ∀ (nf : Nat), ∀ (g k : Int), (fo σ g) → (blF σ g a = blF σ f a) → (0 ≤ k ∧ k + dpF σ g ≤ 40) → ((dpF σ g).toNat) < nf → ∀ ls : Array Slot, lv_has ls 5 [(4, .int (iI k)), (3, .int (iI g)), (0, .ref (o 0)), (1, .int (iI f)), (2, .int (iI a))] → W pp lL ee ({ frames := 2, cells := 0, slots := 0, locals := 42 } : Room) ss mm [.ref (o 0), .int (iI f), .int (iI a)].toArray below meth cC ss.heap [] 0 0 (MQ below (vp_Si (fun r => r = (iI (if blF σ f a = true then 1 else 0)))) [.ref (o 0), .int (iI f), .int (iI a)].toArray ss 0 0 (fun _ => False)) (F0 mm 5 ls []) from L5 _ f 0 hf rfl (by rcases hf with q | q; rw [q, dpF_n]; omega; have := dpF_40 hI.cs q.1 q.2; omega) (Nat.lt_succ_self _) ls (lv_sub hl [0, 1, 2, 3, 4] rfl)
  intro nfL5
  induction nfL5 with
  | zero => intro g k hg he hk hmzL5; exact absurd hmzL5 (Nat.not_lt_zero _)
  | succ nfL5 ihL5 =>
    intro g k hg he hk hmzL5 ls hl
    have hgr : -1 ≤ g ∧ g < σ 2 := by rcases hg with q | q <;> omega
    have hdg := dpF_bd σ g
    refine lv_iload (pc := 5) E.1 E.2 dX3_isInSubtree_5 (lv_at hl 0 rfl) ?_
    refine z_bipush (pc := 7) E (by decide) dX3_isInSubtree_7 ?_
    refine z_icmp_ge (pc := 9) (tgt := 36) E ⟨by omega, by omega⟩ (by decide) dX3_isInSubtree_9 (by decide) (fun h9 => ?_) (fun h9 => ?_)
    · have eg : g = -1 := by rcases hg with q | q; exact q; have := dpF_pos hI.cs q.1 q.2; omega
      refine z_iconst (pc := 36) E dX3_isInSubtree_36 ?_
      exact z_retRz E hr rfl (congrArg iI (by first | (rw [← he, eg, blF_n]; rfl) | (rw [← he, h14, blF_n]; rfl) | (rw [← he, blF_s hI.cs hg2.1 hg2.2, if_pos h19]; rfl))) hlocks dX3_isInSubtree_37
    · refine lv_iload_n (pc := 12) E.1 E.2 dX3_isInSubtree_12 rfl (lv_at hl 1 rfl) ?_
      refine z_iconst (pc := 13) E dX3_isInSubtree_13 ?_
      refine z_icmp_eq (pc := 14) (tgt := 36) E ⟨by omega, by omega⟩ (by decide) dX3_isInSubtree_14 (by decide) (fun h14 => ?_) (fun h14 => ?_)
      · refine z_iconst (pc := 36) E dX3_isInSubtree_36 ?_
        exact z_retRz E hr rfl (congrArg iI (by first | (rw [← he, eg, blF_n]; rfl) | (rw [← he, h14, blF_n]; rfl) | (rw [← he, blF_s hI.cs hg2.1 hg2.2, if_pos h19]; rfl))) hlocks dX3_isInSubtree_37
      · have hg2 : 0 ≤ g ∧ g < σ 2 := by rcases hg with q | q; exact absurd q h14; exact q
        refine lv_iload_n (pc := 17) E.1 E.2 dX3_isInSubtree_17 rfl (lv_at hl 1 rfl) ?_
        refine lv_iload_n (pc := 18) E.1 E.2 dX3_isInSubtree_18 rfl (lv_at hl 4 rfl) ?_
        refine z_icmp_ne (pc := 19) (tgt := 24) E ⟨by omega, by omega⟩ ⟨by omega, by omega⟩ dX3_isInSubtree_19 (by decide) (fun h19 => ?_) (fun h19 => ?_)
        · refine lv_aload_n (pc := 24) E.1 E.2 dX3_isInSubtree_24 rfl (lv_at hl 2 rfl) ?_
          refine lv_iload_n (pc := 25) E.1 E.2 dX3_isInSubtree_25 rfl (lv_at hl 1 rfl) ?_
          refine z_rVi (pc := 26) (As := [.int (iI g)]) (rest := []) E hml hown hts (mX3_parentOf lL G o σ g hI (by omega)) (cwV 1 hts gX3_isInSubtree_X3_parentOf rfl rfl rfl vdX3_parentOf ⟨Nat.le_of_ble_eq_true rfl, Nat.le_of_ble_eq_true rfl⟩) (oB.recv hK hM.1 rfl) hFO hK rfl hl.1 rfl dX3_isInSubtree_26 hcs (Nat.le_of_ble_eq_true rfl) ?_
          rw [show (if 0 ≤ g ∧ g < σ 2 then σ (69 + g) else -1) = (σ (69 + g)) from (if_pos hg2)]
          refine lv_istore_n (pc := 29) (lv' := [(3, .int (iI (σ (69 + g)))), (4, .int (iI k)), (0, .ref (o 0)), (1, .int (iI f)), (2, .int (iI a))]) E.1 E.2 dX3_isInSubtree_29 rfl hl (by decide) rfl (fun ls hl => ?_)
          refine lv_iinc (pc := 30) (v := iI (k + 1)) (lv' := [(4, .int (iI (k + 1))), (3, .int (iI (σ (69 + g)))), (0, .ref (o 0)), (1, .int (iI f)), (2, .int (iI a))]) E.1 E.2 dX3_isInSubtree_30 hl (k := 1) rfl (iI_add _ _) (by decide) rfl (fun ls hl => ?_)
          refine lv_goto (pc := 33) (tgt := 5) E.1 E.2 dX3_isInSubtree_33 (by decide) ?_
          exact ihL5 (σ (69 + g)) (k + 1) (hI.fp hg2.1 hg2.2) (by rw [← he, blF_s hI.cs hg2.1 hg2.2, if_neg h19]) (by have h1 := dpF_s hI.cs hg2.1 hg2.2; omega) (by have h1 := dpF_s hI.cs hg2.1 hg2.2; have h2 := dpF_bd σ (σ (69 + g)); omega) ls (lv_sub hl [0, 1, 2, 3, 4] rfl)
        · refine z_iconst (pc := 22) E dX3_isInSubtree_22 ?_
          exact z_retRz E hr rfl (congrArg iI (by first | (rw [← he, eg, blF_n]; rfl) | (rw [← he, h14, blF_n]; rfl) | (rw [← he, blF_s hI.cs hg2.1 hg2.2, if_pos h19]; rfl))) hlocks dX3_isInSubtree_23
set_option maxHeartbeats 1000000 in
set_option maxRecDepth 100000 in
theorem mX2_has (lL : Launch) (G : GG) (o : Nat → Nat) (σ : Int → Int) (f : Int) (hI : In σ) (hf : -2147483648 ≤ f ∧ f < 2147483648) : Met lL yX2_has wsX2_has ({ frames := 0, cells := 0, slots := 0, locals := 0 } : Room) (va_Pc [.ref (o 0), .int (iI f)] (fun U => FI G o σ U.heap ∧ KK G U)) (vp_Si (fun r => r = (iI (if 0 ≤ f ∧ f < σ 3 then 1 else 0)))) 0 0 (fun _ => False) := by
  refine z_met (P := (fun H : Heap => FI G o σ H)) (by decide) rfl (Nat.le_of_ble_eq_true rfl) (fun pp ee ss mm below meth cC E hr hml hown hts hlocks hFO hK ls hl => ?_)
  have hl : lv_has ls 2 [(0, .ref (o 0)), (1, .int (iI f))] := hl
  have hcs : 0 ≤ (({ frames := 0, cells := 0, slots := 0, locals := 0 } : Room)).cells ∧ 0 ≤ (({ frames := 0, cells := 0, slots := 0, locals := 0 } : Room)).slots := ⟨Nat.zero_le _, Nat.zero_le _⟩
  have hin2 : ∀ w ∈ wsX20, w ∈ wsX2_has := fun w h => List.mem_cons_of_mem _ (List.mem_append_right _ (h))
  obtain ⟨pl, sz, hM, hs⟩ := id hFO
  have hF := hI.F
  have hMm := hI.M
  have hGn := hI.Gn
  refine lv_iload_n (pc := 0) E.1 E.2 dX2_has_0 rfl (lv_at hl 1 rfl) ?_
  refine z_if_lt (pc := 1) (tgt := 16) E ⟨by omega, by omega⟩ dX2_has_1 (by decide) (fun h1 => ?_) (fun h1 => ?_)
  · refine z_iconst (pc := 16) E dX2_has_16 ?_
    exact z_retRz E hr rfl (congrArg iI (by first | exact (if_pos (by omega)).symm | exact (if_neg (by omega)).symm)) hlocks dX2_has_17
  · refine lv_iload_n (pc := 4) E.1 E.2 dX2_has_4 rfl (lv_at hl 1 rfl) ?_
    refine lv_aload_n (pc := 5) E.1 E.2 dX2_has_5 rfl (lv_at hl 0 rfl) ?_
    refine g2_2 (pc := 6) E hts hin2 hown hK hM.1 (hts _ (List.mem_of_getElem? (i := 1) rfl)) dX2_has_6 ?_
    refine z_icmp_ge (pc := 9) (tgt := 16) E ⟨by omega, by omega⟩ ⟨by omega, by omega⟩ dX2_has_9 (by decide) (fun h9 => ?_) (fun h9 => ?_)
    · refine z_iconst (pc := 16) E dX2_has_16 ?_
      exact z_retRz E hr rfl (congrArg iI (by first | exact (if_pos (by omega)).symm | exact (if_neg (by omega)).symm)) hlocks dX2_has_17
    · refine z_iconst (pc := 12) E dX2_has_12 ?_
      refine lv_goto (pc := 13) (tgt := 17) E.1 E.2 dX2_has_13 (by decide) ?_
      exact z_retRz E hr rfl (congrArg iI (by first | exact (if_pos (by omega)).symm | exact (if_neg (by omega)).symm)) hlocks dX2_has_17
set_option maxHeartbeats 1000000 in
set_option maxRecDepth 100000 in
theorem mX2_isFull (lL : Launch) (G : GG) (o : Nat → Nat) (σ : Int → Int) (hI : In σ) : Met lL yX2_isFull wsX2_isFull ({ frames := 0, cells := 0, slots := 0, locals := 0 } : Room) (va_Pc [.ref (o 0)] (fun U => FI G o σ U.heap ∧ KK G U)) (vp_Si (fun r => r = (iI (if 60 ≤ σ 3 then 1 else 0)))) 0 0 (fun _ => False) := by
  refine z_met (P := (fun H : Heap => FI G o σ H)) (by decide) rfl (Nat.le_of_ble_eq_true rfl) (fun pp ee ss mm below meth cC E hr hml hown hts hlocks hFO hK ls hl => ?_)
  have hl : lv_has ls 1 [(0, .ref (o 0))] := hl
  have hcs : 0 ≤ (({ frames := 0, cells := 0, slots := 0, locals := 0 } : Room)).cells ∧ 0 ≤ (({ frames := 0, cells := 0, slots := 0, locals := 0 } : Room)).slots := ⟨Nat.zero_le _, Nat.zero_le _⟩
  have hin2 : ∀ w ∈ wsX20, w ∈ wsX2_isFull := fun w h => List.mem_cons_of_mem _ (List.mem_append_right _ (h))
  obtain ⟨pl, sz, hM, hs⟩ := id hFO
  have hF := hI.F
  have hMm := hI.M
  have hGn := hI.Gn
  refine lv_aload_n (pc := 0) E.1 E.2 dX2_isFull_0 rfl (lv_at hl 0 rfl) ?_
  refine g2_2 (pc := 1) E hts hin2 hown hK hM.1 (hts _ (List.mem_of_getElem? (i := 1) rfl)) dX2_isFull_1 ?_
  refine z_bipush (pc := 4) E (by decide) dX2_isFull_4 ?_
  refine z_icmp_lt (pc := 6) (tgt := 13) E ⟨by omega, by omega⟩ (by decide) dX2_isFull_6 (by decide) (fun h6 => ?_) (fun h6 => ?_)
  · refine z_iconst (pc := 13) E dX2_isFull_13 ?_
    exact z_retRz E hr rfl (congrArg iI (by first | exact (if_pos (by omega)).symm | exact (if_neg (by omega)).symm)) hlocks dX2_isFull_14
  · refine z_iconst (pc := 9) E dX2_isFull_9 ?_
    refine lv_goto (pc := 10) (tgt := 14) E.1 E.2 dX2_isFull_10 (by decide) ?_
    exact z_retRz E hr rfl (congrArg iI (by first | exact (if_pos (by omega)).symm | exact (if_neg (by omega)).symm)) hlocks dX2_isFull_14
set_option maxHeartbeats 1000000 in
set_option maxRecDepth 100000 in
theorem mX2_placeOf (lL : Launch) (G : GG) (o : Nat → Nat) (σ : Int → Int) (f : Int) (hI : In σ) (hf : -2147483648 ≤ f ∧ f < 2147483648) : Met lL yX2_placeOf wsX2_placeOf ({ frames := 1, cells := 0, slots := 0, locals := 21 } : Room) (va_Pc [.ref (o 0), .int (iI f)] (fun U => FI G o σ U.heap ∧ KK G U)) (vp_Si (fun r => r = (iI (if 0 ≤ f ∧ f < σ 3 then σ (189 + f) else -1)))) 0 0 (fun _ => False) := by
  refine z_met (P := (fun H : Heap => FI G o σ H)) (by decide) rfl (Nat.le_of_ble_eq_true rfl) (fun pp ee ss mm below meth cC E hr hml hown hts hlocks hFO hK ls hl => ?_)
  have hl : lv_has ls 2 [(0, .ref (o 0)), (1, .int (iI f))] := hl
  have hcs : 0 ≤ (({ frames := 1, cells := 0, slots := 0, locals := 21 } : Room)).cells ∧ 0 ≤ (({ frames := 1, cells := 0, slots := 0, locals := 21 } : Room)).slots := ⟨Nat.zero_le _, Nat.zero_le _⟩
  have hin2 : ∀ w ∈ wsX20, w ∈ wsX2_placeOf := fun w h => List.mem_cons_of_mem _ (List.mem_append_right _ (h))
  obtain ⟨pl, sz, hM, hs⟩ := id hFO
  have hF := hI.F
  have hMm := hI.M
  have hGn := hI.Gn
  refine lv_aload_n (pc := 0) E.1 E.2 dX2_placeOf_0 rfl (lv_at hl 0 rfl) ?_
  refine lv_iload_n (pc := 1) E.1 E.2 dX2_placeOf_1 rfl (lv_at hl 1 rfl) ?_
  refine z_rVi (pc := 2) (As := [.int (iI f)]) (rest := []) E hml hown hts (mX2_has lL G o σ f hI (by omega)) (cwV 1 hts gX2_placeOf_X2_has rfl rfl rfl vdX2_has ⟨Nat.le_of_ble_eq_true rfl, Nat.le_of_ble_eq_true rfl⟩) (oB.recv hK hM.1 rfl) hFO hK rfl hl.1 rfl dX2_placeOf_2 hcs (Nat.le_of_ble_eq_true rfl) ?_
  refine z_ifb_eq (pc := 5) (tgt := 17) E dX2_placeOf_5 (by decide) (fun h5 => ?_) (fun h5 => ?_)
  · refine z_iconst (pc := 17) E dX2_placeOf_17 ?_
    exact z_retRi E hr (congrArg iI (by first | exact (if_pos h5).symm | exact (if_neg h5).symm)) hlocks dX2_placeOf_18
  · refine lv_aload_n (pc := 8) E.1 E.2 dX2_placeOf_8 rfl (lv_at hl 0 rfl) ?_
    refine g2_0 (pc := 9) E hts hin2 hown hK hM.1 (hts _ (List.mem_of_getElem? (i := 1) rfl)) dX2_placeOf_9 ?_
    refine lv_iload_n (pc := 12) E.1 E.2 dX2_placeOf_12 rfl (lv_at hl 1 rfl) ?_
    refine z_ialoadE (pc := 13) E hK hM.2.1 ⟨by omega, by omega⟩ (by decide) (hs _ (by omega) (by omega)).1 dX2_placeOf_13 ?_
    refine lv_goto (pc := 14) (tgt := 18) E.1 E.2 dX2_placeOf_14 (by decide) ?_
    exact z_retRi E hr (congrArg iI (by first | exact (if_pos h5).symm | exact (if_neg h5).symm)) hlocks dX2_placeOf_18
set_option maxHeartbeats 1000000 in
set_option maxRecDepth 100000 in
theorem mX2_sizeOf (lL : Launch) (G : GG) (o : Nat → Nat) (σ : Int → Int) (f : Int) (hI : In σ) (hf : -2147483648 ≤ f ∧ f < 2147483648) : Met lL yX2_sizeOf wsX2_sizeOf ({ frames := 1, cells := 0, slots := 0, locals := 21 } : Room) (va_Pc [.ref (o 0), .int (iI f)] (fun U => FI G o σ U.heap ∧ KK G U)) (vp_Si (fun r => r = (iI (if 0 ≤ f ∧ f < σ 3 then σ (249 + f) else 0)))) 0 0 (fun _ => False) := by
  refine z_met (P := (fun H : Heap => FI G o σ H)) (by decide) rfl (Nat.le_of_ble_eq_true rfl) (fun pp ee ss mm below meth cC E hr hml hown hts hlocks hFO hK ls hl => ?_)
  have hl : lv_has ls 2 [(0, .ref (o 0)), (1, .int (iI f))] := hl
  have hcs : 0 ≤ (({ frames := 1, cells := 0, slots := 0, locals := 21 } : Room)).cells ∧ 0 ≤ (({ frames := 1, cells := 0, slots := 0, locals := 21 } : Room)).slots := ⟨Nat.zero_le _, Nat.zero_le _⟩
  have hin2 : ∀ w ∈ wsX20, w ∈ wsX2_sizeOf := fun w h => List.mem_cons_of_mem _ (List.mem_append_right _ (h))
  obtain ⟨pl, sz, hM, hs⟩ := id hFO
  have hF := hI.F
  have hMm := hI.M
  have hGn := hI.Gn
  refine lv_aload_n (pc := 0) E.1 E.2 dX2_sizeOf_0 rfl (lv_at hl 0 rfl) ?_
  refine lv_iload_n (pc := 1) E.1 E.2 dX2_sizeOf_1 rfl (lv_at hl 1 rfl) ?_
  refine z_rVi (pc := 2) (As := [.int (iI f)]) (rest := []) E hml hown hts (mX2_has lL G o σ f hI (by omega)) (cwV 1 hts gX2_sizeOf_X2_has rfl rfl rfl vdX2_has ⟨Nat.le_of_ble_eq_true rfl, Nat.le_of_ble_eq_true rfl⟩) (oB.recv hK hM.1 rfl) hFO hK rfl hl.1 rfl dX2_sizeOf_2 hcs (Nat.le_of_ble_eq_true rfl) ?_
  refine z_ifb_eq (pc := 5) (tgt := 17) E dX2_sizeOf_5 (by decide) (fun h5 => ?_) (fun h5 => ?_)
  · refine z_iconst (pc := 17) E dX2_sizeOf_17 ?_
    exact z_retRi E hr (congrArg iI (by first | exact (if_pos h5).symm | exact (if_neg h5).symm)) hlocks dX2_sizeOf_18
  · refine lv_aload_n (pc := 8) E.1 E.2 dX2_sizeOf_8 rfl (lv_at hl 0 rfl) ?_
    refine g2_1 (pc := 9) E hts hin2 hown hK hM.1 (hts _ (List.mem_of_getElem? (i := 1) rfl)) dX2_sizeOf_9 ?_
    refine lv_iload_n (pc := 12) E.1 E.2 dX2_sizeOf_12 rfl (lv_at hl 1 rfl) ?_
    refine z_ialoadE (pc := 13) E hK hM.2.2.1 ⟨by omega, by omega⟩ (by decide) (hs _ (by omega) (by omega)).2 dX2_sizeOf_13 ?_
    refine lv_goto (pc := 14) (tgt := 18) E.1 E.2 dX2_sizeOf_14 (by decide) ?_
    exact z_retRi E hr (congrArg iI (by first | exact (if_pos h5).symm | exact (if_neg h5).symm)) hlocks dX2_sizeOf_18
set_option maxHeartbeats 1000000 in
set_option maxRecDepth 100000 in
theorem mX0_amountOf (lL : Launch) (G : GG) (o : Nat → Nat) (σ : Int → Int) (a : Int) (ha : -2147483648 ≤ a ∧ a < 2147483648) : Met lL yX0_amountOf wsX0_amountOf ({ frames := 0, cells := 0, slots := 0, locals := 0 } : Room) (va_Pc [.ref (o 0), .int (iI a)] (fun U => AC G o σ U.heap ∧ KK G U)) (vp_Si (fun r => r = (iI (if 0 ≤ a ∧ a < 16 then σ (37 + a) else 0)))) 0 0 (fun _ => False) := by
  refine z_met (P := (fun H : Heap => AC G o σ H)) (by decide) rfl (Nat.le_of_ble_eq_true rfl) (fun pp ee ss mm below meth cC E hr hml hown hts hlocks hFO hK ls hl => ?_)
  have hl : lv_has ls 2 [(0, .ref (o 0)), (1, .int (iI a))] := hl
  have hcs : 0 ≤ (({ frames := 0, cells := 0, slots := 0, locals := 0 } : Room)).cells ∧ 0 ≤ (({ frames := 0, cells := 0, slots := 0, locals := 0 } : Room)).slots := ⟨Nat.zero_le _, Nat.zero_le _⟩
  have hin0 : ∀ w ∈ wsX00, w ∈ wsX0_amountOf := fun w h => List.mem_cons_of_mem _ (List.mem_append_right _ (h))
  obtain ⟨am, so, ha, cl, hM, hs⟩ := id hFO
  refine lv_iload_n (pc := 0) E.1 E.2 dX0_amountOf_0 rfl (lv_at hl 1 rfl) ?_
  refine z_if_lt (pc := 1) (tgt := 19) E ⟨by omega, by omega⟩ dX0_amountOf_1 (by decide) (fun h1 => ?_) (fun h1 => ?_)
  · refine z_iconst (pc := 19) E dX0_amountOf_19 ?_
    exact z_retRi E hr (congrArg iI (by first | exact (if_pos (by omega)).symm | exact (if_neg (by omega)).symm)) hlocks dX0_amountOf_20
  · refine lv_iload_n (pc := 4) E.1 E.2 dX0_amountOf_4 rfl (lv_at hl 1 rfl) ?_
    refine z_bipush (pc := 5) E (by decide) dX0_amountOf_5 ?_
    refine z_icmp_ge (pc := 7) (tgt := 19) E ⟨by omega, by omega⟩ (by decide) dX0_amountOf_7 (by decide) (fun h7 => ?_) (fun h7 => ?_)
    · refine z_iconst (pc := 19) E dX0_amountOf_19 ?_
      exact z_retRi E hr (congrArg iI (by first | exact (if_pos (by omega)).symm | exact (if_neg (by omega)).symm)) hlocks dX0_amountOf_20
    · refine lv_aload_n (pc := 10) E.1 E.2 dX0_amountOf_10 rfl (lv_at hl 0 rfl) ?_
      refine g0_0 (pc := 11) E hts hin0 hown hK hM.1 (hts _ (List.mem_of_getElem? (i := 1) rfl)) dX0_amountOf_11 ?_
      refine lv_iload_n (pc := 14) E.1 E.2 dX0_amountOf_14 rfl (lv_at hl 1 rfl) ?_
      refine z_ialoadE (pc := 15) E hK hM.2.1 ⟨by omega, by omega⟩ (by decide) (hs _ (by omega) (by omega)).1 dX0_amountOf_15 ?_
      refine lv_goto (pc := 16) (tgt := 20) E.1 E.2 dX0_amountOf_16 (by decide) ?_
      exact z_retRi E hr (congrArg iI (by first | exact (if_pos (by omega)).symm | exact (if_neg (by omega)).symm)) hlocks dX0_amountOf_20
set_option maxHeartbeats 1000000 in
set_option maxRecDepth 100000 in
theorem mX0_clockOf (lL : Launch) (G : GG) (o : Nat → Nat) (σ : Int → Int) (a : Int) (ha : -2147483648 ≤ a ∧ a < 2147483648) : Met lL yX0_clockOf wsX0_clockOf ({ frames := 0, cells := 0, slots := 0, locals := 0 } : Room) (va_Pc [.ref (o 0), .int (iI a)] (fun U => AC G o σ U.heap ∧ KK G U)) (vp_Si (fun r => r = (iI (if 0 ≤ a ∧ a < 16 then σ (53 + a) else -1)))) 0 0 (fun _ => False) := by
  refine z_met (P := (fun H : Heap => AC G o σ H)) (by decide) rfl (Nat.le_of_ble_eq_true rfl) (fun pp ee ss mm below meth cC E hr hml hown hts hlocks hFO hK ls hl => ?_)
  have hl : lv_has ls 2 [(0, .ref (o 0)), (1, .int (iI a))] := hl
  have hcs : 0 ≤ (({ frames := 0, cells := 0, slots := 0, locals := 0 } : Room)).cells ∧ 0 ≤ (({ frames := 0, cells := 0, slots := 0, locals := 0 } : Room)).slots := ⟨Nat.zero_le _, Nat.zero_le _⟩
  have hin0 : ∀ w ∈ wsX00, w ∈ wsX0_clockOf := fun w h => List.mem_cons_of_mem _ (List.mem_append_right _ (h))
  obtain ⟨am, so, ha, cl, hM, hs⟩ := id hFO
  refine lv_iload_n (pc := 0) E.1 E.2 dX0_clockOf_0 rfl (lv_at hl 1 rfl) ?_
  refine z_if_lt (pc := 1) (tgt := 19) E ⟨by omega, by omega⟩ dX0_clockOf_1 (by decide) (fun h1 => ?_) (fun h1 => ?_)
  · refine z_iconst (pc := 19) E dX0_clockOf_19 ?_
    exact z_retRi E hr (congrArg iI (by first | exact (if_pos (by omega)).symm | exact (if_neg (by omega)).symm)) hlocks dX0_clockOf_20
  · refine lv_iload_n (pc := 4) E.1 E.2 dX0_clockOf_4 rfl (lv_at hl 1 rfl) ?_
    refine z_bipush (pc := 5) E (by decide) dX0_clockOf_5 ?_
    refine z_icmp_ge (pc := 7) (tgt := 19) E ⟨by omega, by omega⟩ (by decide) dX0_clockOf_7 (by decide) (fun h7 => ?_) (fun h7 => ?_)
    · refine z_iconst (pc := 19) E dX0_clockOf_19 ?_
      exact z_retRi E hr (congrArg iI (by first | exact (if_pos (by omega)).symm | exact (if_neg (by omega)).symm)) hlocks dX0_clockOf_20
    · refine lv_aload_n (pc := 10) E.1 E.2 dX0_clockOf_10 rfl (lv_at hl 0 rfl) ?_
      refine g0_3 (pc := 11) E hts hin0 hown hK hM.1 (hts _ (List.mem_of_getElem? (i := 1) rfl)) dX0_clockOf_11 ?_
      refine lv_iload_n (pc := 14) E.1 E.2 dX0_clockOf_14 rfl (lv_at hl 1 rfl) ?_
      refine z_ialoadE (pc := 15) E hK hM.2.2.2.2.1 ⟨by omega, by omega⟩ (by decide) (hs _ (by omega) (by omega)).2.2.2 dX0_clockOf_15 ?_
      refine lv_goto (pc := 16) (tgt := 20) E.1 E.2 dX0_clockOf_16 (by decide) ?_
      exact z_retRi E hr (congrArg iI (by first | exact (if_pos (by omega)).symm | exact (if_neg (by omega)).symm)) hlocks dX0_clockOf_20
