theorem vdX6_effectiveLimit : yX6_effectiveLimit.cls = RX6 ∧ yX6_effectiveLimit.cls ≠ "java/lang/invoke/MethodHandle" ∧ yX6_effectiveLimit.cls ≠ "java/lang/invoke/VarHandle" ∧ (parseMethodDescriptor yX6_effectiveLimit.desc).map (fun d => d.parameters.length) = some 3 := by decide +kernel
theorem vdX6_wouldExceed : yX6_wouldExceed.cls = RX6 ∧ yX6_wouldExceed.cls ≠ "java/lang/invoke/MethodHandle" ∧ yX6_wouldExceed.cls ≠ "java/lang/invoke/VarHandle" ∧ (parseMethodDescriptor yX6_wouldExceed.desc).map (fun d => d.parameters.length) = some 4 := by decide +kernel
theorem vdX6_isGraceOver : yX6_isGraceOver.cls = RX6 ∧ yX6_isGraceOver.cls ≠ "java/lang/invoke/MethodHandle" ∧ yX6_isGraceOver.cls ≠ "java/lang/invoke/VarHandle" ∧ (parseMethodDescriptor yX6_isGraceOver.desc).map (fun d => d.parameters.length) = some 2 := by decide +kernel
theorem vdX6_stateOf : yX6_stateOf.cls = RX6 ∧ yX6_stateOf.cls ≠ "java/lang/invoke/MethodHandle" ∧ yX6_stateOf.cls ≠ "java/lang/invoke/VarHandle" ∧ (parseMethodDescriptor yX6_stateOf.desc).map (fun d => d.parameters.length) = some 2 := by decide +kernel
theorem vdX6_growthReason : yX6_growthReason.cls = RX6 ∧ yX6_growthReason.cls ≠ "java/lang/invoke/MethodHandle" ∧ yX6_growthReason.cls ≠ "java/lang/invoke/VarHandle" ∧ (parseMethodDescriptor yX6_growthReason.desc).map (fun d => d.parameters.length) = some 3 := by decide +kernel
theorem vdX6_heaviestChild : yX6_heaviestChild.cls = RX6 ∧ yX6_heaviestChild.cls ≠ "java/lang/invoke/MethodHandle" ∧ yX6_heaviestChild.cls ≠ "java/lang/invoke/VarHandle" ∧ (parseMethodDescriptor yX6_heaviestChild.desc).map (fun d => d.parameters.length) = some 1 := by decide +kernel
theorem vdX6_greatestFile : yX6_greatestFile.cls = RX6 ∧ yX6_greatestFile.cls ≠ "java/lang/invoke/MethodHandle" ∧ yX6_greatestFile.cls ≠ "java/lang/invoke/VarHandle" ∧ (parseMethodDescriptor yX6_greatestFile.desc).map (fun d => d.parameters.length) = some 1 := by decide +kernel
theorem vdX6_roomOf : yX6_roomOf.cls = RX6 ∧ yX6_roomOf.cls ≠ "java/lang/invoke/MethodHandle" ∧ yX6_roomOf.cls ≠ "java/lang/invoke/VarHandle" ∧ (parseMethodDescriptor yX6_roomOf.desc).map (fun d => d.parameters.length) = some 1 := by decide +kernel
theorem vdX6_openReason : yX6_openReason.cls = RX6 ∧ yX6_openReason.cls ≠ "java/lang/invoke/MethodHandle" ∧ yX6_openReason.cls ≠ "java/lang/invoke/VarHandle" ∧ (parseMethodDescriptor yX6_openReason.desc).map (fun d => d.parameters.length) = some 2 := by decide +kernel
theorem vdX6_canGive : yX6_canGive.cls = RX6 ∧ yX6_canGive.cls ≠ "java/lang/invoke/MethodHandle" ∧ yX6_canGive.cls ≠ "java/lang/invoke/VarHandle" ∧ (parseMethodDescriptor yX6_canGive.desc).map (fun d => d.parameters.length) = some 3 := by decide +kernel
theorem vdX6_earlierEvent : yX6_earlierEvent.cls = RX6 ∧ yX6_earlierEvent.cls ≠ "java/lang/invoke/MethodHandle" ∧ yX6_earlierEvent.cls ≠ "java/lang/invoke/VarHandle" ∧ (parseMethodDescriptor yX6_earlierEvent.desc).map (fun d => d.parameters.length) = some 2 := by decide +kernel
theorem vdX6_firstGraceEnd : yX6_firstGraceEnd.cls = RX6 ∧ yX6_firstGraceEnd.cls ≠ "java/lang/invoke/MethodHandle" ∧ yX6_firstGraceEnd.cls ≠ "java/lang/invoke/VarHandle" ∧ (parseMethodDescriptor yX6_firstGraceEnd.desc).map (fun d => d.parameters.length) = some 0 := by decide +kernel
set_option maxHeartbeats 1000000 in
set_option maxRecDepth 100000 in
theorem mX6_effectiveLimit (lL : Launch) (G : GG) (o : Nat → Nat) (σ : Int → Int) (p : Int) (k : Int) (b : Int) (hI : In σ) (hp : 0 ≤ p ∧ p ≤ 7) (hk : k = 0 ∨ k = 1) (hb : b = 0 ∨ b = 1) : Met lL yX6_effectiveLimit wsX6_effectiveLimit ({ frames := 1, cells := 0, slots := 0, locals := 40 } : Room) (va_Pc [.ref (o 0), .int (iI p), .int (iI k), .int (iI b)] (fun U => ST G o σ U.heap ∧ KK G U)) (vp_Si (fun r => r = (iI (lmS σ (if b = 0 then 5 else 21) p k)))) 0 0 (fun _ => False) := by
  refine z_met (P := (fun H : Heap => ST G o σ H)) (by decide) rfl (Nat.le_of_ble_eq_true rfl) (fun pp ee ss mm below meth cC E hr hml hown hts hlocks hST hK ls hl => ?_)
  have hl : lv_has ls 6 [(0, .ref (o 0)), (1, .int (iI p)), (2, .int (iI k)), (3, .int (iI b))] := hl
  have hcs : 0 ≤ (({ frames := 1, cells := 0, slots := 0, locals := 40 } : Room)).cells ∧ 0 ≤ (({ frames := 1, cells := 0, slots := 0, locals := 40 } : Room)).slots := ⟨Nat.zero_le _, Nat.zero_le _⟩
  have hin6 : ∀ w ∈ wsX60, w ∈ wsX6_effectiveLimit := fun w h => List.mem_cons_of_mem _ (List.mem_append_left _ (List.mem_append_left _ (List.mem_append_right _ (h))))
  have hF := hI.F
  have hMm := hI.M
  have hGn := hI.Gn
  have hTi := hI.ti
  have hGr := hI.gr
  refine lv_aload_n (pc := 0) E.1 E.2 dX6_effectiveLimit_0 rfl (lv_at hl 0 rfl) ?_
  refine g6_2 (pc := 1) E hts hin6 hown hK hST.1 (hts _ (List.mem_of_getElem? (i := 1) rfl)) dX6_effectiveLimit_1 ?_
  refine lv_iload_n (pc := 4) E.1 E.2 dX6_effectiveLimit_4 rfl (lv_at hl 1 rfl) ?_
  refine lv_iload_n (pc := 5) E.1 E.2 dX6_effectiveLimit_5 rfl (lv_at hl 2 rfl) ?_
  refine z_rSNi (pc := 6) (P := fun _ => True) (As := [.int (iI p), .int (iI k)]) (rest := [.ref (o 8)]) E hml hown hts (mX7_accountOf lL G p k) ⟨va_cnB 2 hts gX6_effectiveLimit_X7_accountOf_n98 rfl rfl rfl hK.2.2.2.2.2.2.2.2.1 (hts _ (List.mem_of_getElem? (i := 8) rfl)) vdX7_accountOf.2 ⟨Nat.le_of_ble_eq_true rfl, Nat.le_of_ble_eq_true rfl⟩, (hts _ (List.mem_of_getElem? (i := 7) rfl)), trivial⟩ trivial hK rfl hl.1 rfl dX6_effectiveLimit_6 hcs (Nat.le_of_ble_eq_true rfl) ?_
  refine lv_iload_n (pc := 9) E.1 E.2 dX6_effectiveLimit_9 rfl (lv_at hl 3 rfl) ?_
  refine z_rVi (pc := 10) (As := [.int (iI (2 * p + k)), .int (iI b)]) (rest := []) E hml hown hts (mX0_limitOf lL G (fun k => o (8 + k)) σ (2 * p + k) b hI (by omega) (by omega)) (cwV 2 hts gX6_effectiveLimit_X0_limitOf rfl rfl rfl vdX0_limitOf ⟨Nat.le_of_ble_eq_true rfl, Nat.le_of_ble_eq_true rfl⟩) (oB.recv hK hST.aco rfl) hST.ac hK rfl hl.1 rfl dX6_effectiveLimit_10 hcs (Nat.le_of_ble_eq_true rfl) ?_
  have hac := hI.acc (k := 2 * p + k) (by omega) (by omega)
  have hgs := hI.gib p
  have htt : 0 ≤ σ ((if b = 0 then 5 else 21) + (2 * p + k)) ∧ σ ((if b = 0 then 5 else 21) + (2 * p + k)) ≤ 99999 := by split <;> omega
  refine lv_istore (pc := 13) (lv' := [(4, .int (iI (σ ((if b = 0 then 5 else 21) + (2 * p + k))))), (0, .ref (o 0)), (1, .int (iI p)), (2, .int (iI k)), (3, .int (iI b))]) E.1 E.2 dX6_effectiveLimit_13 hl (by decide) rfl (fun ls hl => ?_)
  refine lv_iload (pc := 15) E.1 E.2 dX6_effectiveLimit_15 (lv_at hl 0 rfl) ?_
  refine z_if_ne (pc := 17) (tgt := 22) E ⟨by omega, by omega⟩ dX6_effectiveLimit_17 (by decide) (fun h17 => ?_) (fun h17 => ?_)
  · refine lv_iload_n (pc := 22) E.1 E.2 dX6_effectiveLimit_22 rfl (lv_at hl 3 rfl) ?_
    refine z_if_ne (pc := 23) (tgt := 37) E ⟨by omega, by omega⟩ dX6_effectiveLimit_23 (by decide) (fun h23 => ?_) (fun h23 => ?_)
    · refine z_iconst (pc := 37) E dX6_effectiveLimit_37 ?_
      refine lv_istore (pc := 38) (lv' := [(5, .int (iI 0)), (4, .int (iI (σ ((if b = 0 then 5 else 21) + (2 * p + k))))), (0, .ref (o 0)), (1, .int (iI p)), (2, .int (iI k)), (3, .int (iI b))]) E.1 E.2 dX6_effectiveLimit_38 hl (by decide) rfl (fun ls hl => ?_)
      refine lv_iload (pc := 40) E.1 E.2 dX6_effectiveLimit_40 (lv_at hl 1 rfl) ?_
      refine lv_iload (pc := 42) E.1 E.2 dX6_effectiveLimit_42 (lv_at hl 0 rfl) ?_
      refine z_iadd (pc := 44) E dX6_effectiveLimit_44 ?_
      refine z_iconst (pc := 45) E dX6_effectiveLimit_45 ?_
      refine z_mmax (pc := 46) (rest := []) E (hml.trans hl.1.symm) hown (hts _ (List.mem_of_getElem? (i := 3) rfl)) (hts _ (List.mem_of_getElem? (i := 4) rfl)) (hts _ (List.mem_of_getElem? (i := 5) rfl)) (hts _ (List.mem_of_getElem? (i := 6) rfl)) (Nat.le_of_ble_eq_true rfl) (Nat.le_of_ble_eq_true rfl) hcs ⟨by omega, by omega⟩ (by decide) dX6_effectiveLimit_46 ?_
      exact z_retRi E hr (congrArg iI (by unfold lmS; first | (rw [if_pos h17]) | (rw [if_neg h17]; rcases hk with hk0 | hk1; (rw [if_neg (show ¬ k = 1 by omega)]; first | exact Int.max_comm _ _ | (exfalso; omega)); (rw [if_pos hk1]; first | omega | (exfalso; omega))))) hlocks dX6_effectiveLimit_49
    · refine lv_aload_n (pc := 26) E.1 E.2 dX6_effectiveLimit_26 rfl (lv_at hl 1 rfl) ?_
      refine g6_3 (pc := 27) E hts hin6 hown hK hST.1 (hts _ (List.mem_of_getElem? (i := 2) rfl)) dX6_effectiveLimit_27 ?_
      refine lv_iload_n (pc := 30) E.1 E.2 dX6_effectiveLimit_30 rfl (lv_at hl 2 rfl) ?_
      refine z_rVi (pc := 31) (As := [.int (iI p)]) (rest := []) E hml hown hts (mX4_balanceOf lL G (fun k => o (13 + k)) σ p hI (by omega)) (cwV 1 hts gX6_effectiveLimit_X4_balanceOf rfl rfl rfl vdX4_balanceOf ⟨Nat.le_of_ble_eq_true rfl, Nat.le_of_ble_eq_true rfl⟩) (oB.recv hK hST.gio rfl) hST.gi hK rfl hl.1 rfl dX6_effectiveLimit_31 hcs (Nat.le_of_ble_eq_true rfl) ?_
      refine lv_goto (pc := 34) (tgt := 38) E.1 E.2 dX6_effectiveLimit_34 (by decide) ?_
      refine lv_istore (pc := 38) (lv' := [(5, .int (iI (giS σ p))), (4, .int (iI (σ ((if b = 0 then 5 else 21) + (2 * p + k))))), (0, .ref (o 0)), (1, .int (iI p)), (2, .int (iI k)), (3, .int (iI b))]) E.1 E.2 dX6_effectiveLimit_38 hl (by decide) rfl (fun ls hl => ?_)
      refine lv_iload (pc := 40) E.1 E.2 dX6_effectiveLimit_40 (lv_at hl 1 rfl) ?_
      refine lv_iload (pc := 42) E.1 E.2 dX6_effectiveLimit_42 (lv_at hl 0 rfl) ?_
      refine z_iadd (pc := 44) E dX6_effectiveLimit_44 ?_
      refine z_iconst (pc := 45) E dX6_effectiveLimit_45 ?_
      refine z_mmax (pc := 46) (rest := []) E (hml.trans hl.1.symm) hown (hts _ (List.mem_of_getElem? (i := 3) rfl)) (hts _ (List.mem_of_getElem? (i := 4) rfl)) (hts _ (List.mem_of_getElem? (i := 5) rfl)) (hts _ (List.mem_of_getElem? (i := 6) rfl)) (Nat.le_of_ble_eq_true rfl) (Nat.le_of_ble_eq_true rfl) hcs ⟨by omega, by omega⟩ (by decide) dX6_effectiveLimit_46 ?_
      exact z_retRi E hr (congrArg iI (by unfold lmS; first | (rw [if_pos h17]) | (rw [if_neg h17]; rcases hk with hk0 | hk1; (rw [if_neg (show ¬ k = 1 by omega)]; first | exact Int.max_comm _ _ | (exfalso; omega)); (rw [if_pos hk1]; first | omega | (exfalso; omega))))) hlocks dX6_effectiveLimit_49
  · refine z_iconst (pc := 20) E dX6_effectiveLimit_20 ?_
    exact z_retRi E hr (congrArg iI (by unfold lmS; first | (rw [if_pos h17]) | (rw [if_neg h17]; rcases hk with hk0 | hk1; (rw [if_neg (show ¬ k = 1 by omega)]; first | exact Int.max_comm _ _ | (exfalso; omega)); (rw [if_pos hk1]; first | omega | (exfalso; omega))))) hlocks dX6_effectiveLimit_21
set_option maxHeartbeats 1000000 in
set_option maxRecDepth 100000 in
theorem mX6_wouldExceed (lL : Launch) (G : GG) (o : Nat → Nat) (σ : Int → Int) (p : Int) (k : Int) (b : Int) (x : Int) (hI : In σ) (hp : 0 ≤ p ∧ p ≤ 7) (hk : k = 0 ∨ k = 1) (hb : b = 0 ∨ b = 1) (hx : -1000000 ≤ x ∧ x ≤ 1000000) : Met lL yX6_wouldExceed wsX6_wouldExceed ({ frames := 2, cells := 0, slots := 0, locals := 65 } : Room) (va_Pc [.ref (o 0), .int (iI p), .int (iI k), .int (iI b), .int (iI x)] (fun U => ST G o σ U.heap ∧ KK G U)) (vp_Si (fun r => r = (iI (if exS σ (if b = 0 then 5 else 21) p k x then 1 else 0)))) 0 0 (fun _ => False) := by
  refine z_met (P := (fun H : Heap => ST G o σ H)) (by decide) rfl (Nat.le_of_ble_eq_true rfl) (fun pp ee ss mm below meth cC E hr hml hown hts hlocks hST hK ls hl => ?_)
  have hl : lv_has ls 6 [(0, .ref (o 0)), (1, .int (iI p)), (2, .int (iI k)), (3, .int (iI b)), (4, .int (iI x))] := hl
  have hcs : 0 ≤ (({ frames := 2, cells := 0, slots := 0, locals := 65 } : Room)).cells ∧ 0 ≤ (({ frames := 2, cells := 0, slots := 0, locals := 65 } : Room)).slots := ⟨Nat.zero_le _, Nat.zero_le _⟩
  have hin6 : ∀ w ∈ wsX60, w ∈ wsX6_wouldExceed := fun w h => List.mem_cons_of_mem _ (List.mem_append_left _ (List.mem_append_left _ (List.mem_append_right _ (h))))
  have hF := hI.F
  have hMm := hI.M
  have hGn := hI.Gn
  have hTi := hI.ti
  have hGr := hI.gr
  refine lv_aload_n (pc := 0) E.1 E.2 dX6_wouldExceed_0 rfl (lv_at hl 0 rfl) ?_
  refine lv_iload_n (pc := 1) E.1 E.2 dX6_wouldExceed_1 rfl (lv_at hl 1 rfl) ?_
  refine lv_iload_n (pc := 2) E.1 E.2 dX6_wouldExceed_2 rfl (lv_at hl 2 rfl) ?_
  refine lv_iload_n (pc := 3) E.1 E.2 dX6_wouldExceed_3 rfl (lv_at hl 3 rfl) ?_
  refine z_rVi (pc := 4) (As := [.int (iI p), .int (iI k), .int (iI b)]) (rest := []) E hml hown hts (mX6_effectiveLimit lL G o σ p k b hI (by omega) (by omega) (by omega)) (cwV 3 hts gX6_wouldExceed_X6_effectiveLimit rfl rfl rfl vdX6_effectiveLimit ⟨Nat.le_of_ble_eq_true rfl, Nat.le_of_ble_eq_true rfl⟩) (oB.recv hK hST.1 rfl) hST hK rfl hl.1 rfl dX6_wouldExceed_4 hcs (Nat.le_of_ble_eq_true rfl) ?_
  have hlm := hI.lmb (t := if b = 0 then 5 else 21) (by split <;> omega) hp hk
  have hac := hI.acc (k := 2 * p + k) (by omega) (by omega)
  refine lv_istore (pc := 7) (lv' := [(5, .int (iI (lmS σ (if b = 0 then 5 else 21) p k))), (0, .ref (o 0)), (1, .int (iI p)), (2, .int (iI k)), (3, .int (iI b)), (4, .int (iI x))]) E.1 E.2 dX6_wouldExceed_7 hl (by decide) rfl (fun ls hl => ?_)
  refine lv_iload (pc := 9) E.1 E.2 dX6_wouldExceed_9 (lv_at hl 0 rfl) ?_
  refine z_iconst (pc := 11) E dX6_wouldExceed_11 ?_
  refine z_icmp_eq (pc := 12) (tgt := 39) E ⟨by omega, by omega⟩ (by decide) dX6_wouldExceed_12 (by decide) (fun h12 => ?_) (fun h12 => ?_)
  · refine z_iconst (pc := 39) E dX6_wouldExceed_39 ?_
    exact z_retRz E hr rfl (congrArg iI (by first | (refine (if_pos ?_).symm; (repeat' apply And.intro) <;> first | assumption | omega) | (refine (if_neg (fun q => ?_)).symm; first | omega | (obtain ⟨q1, q2⟩ := q; first | contradiction | omega) | (obtain ⟨q1, q2, q3⟩ := q; first | contradiction | omega)))) hlocks dX6_wouldExceed_40
  · refine lv_aload_n (pc := 15) E.1 E.2 dX6_wouldExceed_15 rfl (lv_at hl 1 rfl) ?_
    refine g6_2 (pc := 16) E hts hin6 hown hK hST.1 (hts _ (List.mem_of_getElem? (i := 1) rfl)) dX6_wouldExceed_16 ?_
    refine lv_iload_n (pc := 19) E.1 E.2 dX6_wouldExceed_19 rfl (lv_at hl 2 rfl) ?_
    refine lv_iload_n (pc := 20) E.1 E.2 dX6_wouldExceed_20 rfl (lv_at hl 3 rfl) ?_
    refine z_rSNi (pc := 21) (P := fun _ => True) (As := [.int (iI p), .int (iI k)]) (rest := [.ref (o 8)]) E hml hown hts (mX7_accountOf lL G p k) ⟨va_cnB 2 hts gX6_wouldExceed_X7_accountOf_n98 rfl rfl rfl hK.2.2.2.2.2.2.2.2.1 (hts _ (List.mem_of_getElem? (i := 13) rfl)) vdX7_accountOf.2 ⟨Nat.le_of_ble_eq_true rfl, Nat.le_of_ble_eq_true rfl⟩, (hts _ (List.mem_of_getElem? (i := 12) rfl)), trivial⟩ trivial hK rfl hl.1 rfl dX6_wouldExceed_21 hcs (Nat.le_of_ble_eq_true rfl) ?_
    refine z_rVi (pc := 24) (As := [.int (iI (2 * p + k))]) (rest := []) E hml hown hts (mX0_amountOf lL G (fun k => o (8 + k)) σ (2 * p + k)  (by omega)) (cwV 1 hts gX6_wouldExceed_X0_amountOf rfl rfl rfl vdX0_amountOf ⟨Nat.le_of_ble_eq_true rfl, Nat.le_of_ble_eq_true rfl⟩) (oB.recv hK hST.aco rfl) hST.ac hK rfl hl.1 rfl dX6_wouldExceed_24 hcs (Nat.le_of_ble_eq_true rfl) ?_
    rw [show (if 0 ≤ (2 * p + k) ∧ (2 * p + k) < 16 then σ (37 + (2 * p + k)) else 0) = (σ (37 + (2 * p + k))) from (if_pos (by omega))]
    refine lv_iload (pc := 27) E.1 E.2 dX6_wouldExceed_27 (lv_at hl 5 rfl) ?_
    refine z_iadd (pc := 29) E dX6_wouldExceed_29 ?_
    refine lv_iload (pc := 30) E.1 E.2 dX6_wouldExceed_30 (lv_at hl 0 rfl) ?_
    refine z_icmp_le (pc := 32) (tgt := 39) E ⟨by omega, by omega⟩ ⟨by omega, by omega⟩ dX6_wouldExceed_32 (by decide) (fun h32 => ?_) (fun h32 => ?_)
    · refine z_iconst (pc := 39) E dX6_wouldExceed_39 ?_
      exact z_retRz E hr rfl (congrArg iI (by first | (refine (if_pos ?_).symm; (repeat' apply And.intro) <;> first | assumption | omega) | (refine (if_neg (fun q => ?_)).symm; first | omega | (obtain ⟨q1, q2⟩ := q; first | contradiction | omega) | (obtain ⟨q1, q2, q3⟩ := q; first | contradiction | omega)))) hlocks dX6_wouldExceed_40
    · refine z_iconst (pc := 35) E dX6_wouldExceed_35 ?_
      refine lv_goto (pc := 36) (tgt := 40) E.1 E.2 dX6_wouldExceed_36 (by decide) ?_
      exact z_retRz E hr rfl (congrArg iI (by first | (refine (if_pos ?_).symm; (repeat' apply And.intro) <;> first | assumption | omega) | (refine (if_neg (fun q => ?_)).symm; first | omega | (obtain ⟨q1, q2⟩ := q; first | contradiction | omega) | (obtain ⟨q1, q2, q3⟩ := q; first | contradiction | omega)))) hlocks dX6_wouldExceed_40
set_option maxHeartbeats 1000000 in
set_option maxRecDepth 100000 in
theorem mX6_isGraceOver (lL : Launch) (G : GG) (o : Nat → Nat) (σ : Int → Int) (p : Int) (k : Int) (hI : In σ) (hp : 0 ≤ p ∧ p ≤ 7) (hk : k = 0 ∨ k = 1) : Met lL yX6_isGraceOver wsX6_isGraceOver ({ frames := 2, cells := 0, slots := 0, locals := 44 } : Room) (va_Pc [.ref (o 0), .int (iI p), .int (iI k)] (fun U => ST G o σ U.heap ∧ KK G U)) (vp_Si (fun r => r = (iI (if ovS σ p k then 1 else 0)))) 0 0 (fun _ => False) := by
  refine z_met (P := (fun H : Heap => ST G o σ H)) (by decide) rfl (Nat.le_of_ble_eq_true rfl) (fun pp ee ss mm below meth cC E hr hml hown hts hlocks hST hK ls hl => ?_)
  have hl : lv_has ls 4 [(0, .ref (o 0)), (1, .int (iI p)), (2, .int (iI k))] := hl
  have hcs : 0 ≤ (({ frames := 2, cells := 0, slots := 0, locals := 44 } : Room)).cells ∧ 0 ≤ (({ frames := 2, cells := 0, slots := 0, locals := 44 } : Room)).slots := ⟨Nat.zero_le _, Nat.zero_le _⟩
  have hin6 : ∀ w ∈ wsX60, w ∈ wsX6_isGraceOver := fun w h => List.mem_cons_of_mem _ (List.mem_append_left _ (List.mem_append_right _ (h)))
  have hF := hI.F
  have hMm := hI.M
  have hGn := hI.Gn
  have hTi := hI.ti
  have hGr := hI.gr
  refine lv_aload_n (pc := 0) E.1 E.2 dX6_isGraceOver_0 rfl (lv_at hl 0 rfl) ?_
  refine lv_iload_n (pc := 1) E.1 E.2 dX6_isGraceOver_1 rfl (lv_at hl 1 rfl) ?_
  refine lv_iload_n (pc := 2) E.1 E.2 dX6_isGraceOver_2 rfl (lv_at hl 2 rfl) ?_
  refine z_rVi (pc := 3) (As := [.int (iI p), .int (iI k)]) (rest := []) E hml hown hts (mX6_graceEnd lL G o σ p k hI (by omega) (by omega)) (cwV 2 hts gX6_isGraceOver_X6_graceEnd rfl rfl rfl vdX6_graceEnd ⟨Nat.le_of_ble_eq_true rfl, Nat.le_of_ble_eq_true rfl⟩) (oB.recv hK hST.1 rfl) hST hK rfl hl.1 rfl dX6_isGraceOver_3 hcs (Nat.le_of_ble_eq_true rfl) ?_
  have hac := hI.acc (k := 2 * p + k) (by omega) (by omega)
  have hge := geS_b hI hp hk
  refine lv_istore_n (pc := 6) (lv' := [(3, .int (iI (geS σ p k))), (0, .ref (o 0)), (1, .int (iI p)), (2, .int (iI k))]) E.1 E.2 dX6_isGraceOver_6 rfl hl (by decide) rfl (fun ls hl => ?_)
  refine lv_iload_n (pc := 7) E.1 E.2 dX6_isGraceOver_7 rfl (lv_at hl 0 rfl) ?_
  refine z_iconst (pc := 8) E dX6_isGraceOver_8 ?_
  refine z_icmp_eq (pc := 9) (tgt := 24) E ⟨by omega, by omega⟩ (by decide) dX6_isGraceOver_9 (by decide) (fun h9 => ?_) (fun h9 => ?_)
  · refine z_iconst (pc := 24) E dX6_isGraceOver_24 ?_
    exact z_retRz E hr rfl (congrArg iI (by first | exact (if_pos (ovS_g hI hp hk h9 (by omega))).symm | (refine (if_neg (fun q => ?_)).symm; have hz := ovS_h hI hp hk q; omega))) hlocks dX6_isGraceOver_25
  · refine lv_iload_n (pc := 12) E.1 E.2 dX6_isGraceOver_12 rfl (lv_at hl 0 rfl) ?_
    refine lv_aload_n (pc := 13) E.1 E.2 dX6_isGraceOver_13 rfl (lv_at hl 1 rfl) ?_
    refine g6_4 (pc := 14) E hts hin6 hown hK hST.1 (hts _ (List.mem_of_getElem? (i := 1) rfl)) dX6_isGraceOver_14 ?_
    refine z_icmp_gt (pc := 17) (tgt := 24) E ⟨by omega, by omega⟩ ⟨by omega, by omega⟩ dX6_isGraceOver_17 (by decide) (fun h17 => ?_) (fun h17 => ?_)
    · refine z_iconst (pc := 24) E dX6_isGraceOver_24 ?_
      exact z_retRz E hr rfl (congrArg iI (by first | exact (if_pos (ovS_g hI hp hk h9 (by omega))).symm | (refine (if_neg (fun q => ?_)).symm; have hz := ovS_h hI hp hk q; omega))) hlocks dX6_isGraceOver_25
    · refine z_iconst (pc := 20) E dX6_isGraceOver_20 ?_
      refine lv_goto (pc := 21) (tgt := 25) E.1 E.2 dX6_isGraceOver_21 (by decide) ?_
      exact z_retRz E hr rfl (congrArg iI (by first | exact (if_pos (ovS_g hI hp hk h9 (by omega))).symm | (refine (if_neg (fun q => ?_)).symm; have hz := ovS_h hI hp hk q; omega))) hlocks dX6_isGraceOver_25
set_option maxHeartbeats 1000000 in
set_option maxRecDepth 100000 in
theorem mX6_stateOf (lL : Launch) (G : GG) (o : Nat → Nat) (σ : Int → Int) (p : Int) (k : Int) (hI : In σ) (hp : 0 ≤ p ∧ p ≤ 7) (hk : k = 0 ∨ k = 1) : Met lL yX6_stateOf wsX6_stateOf ({ frames := 3, cells := 0, slots := 0, locals := 90 } : Room) (va_Pc [.ref (o 0), .int (iI p), .int (iI k)] (fun U => ST G o σ U.heap ∧ KK G U)) (vp_Si (fun r => r = (iI (stS σ p k)))) 0 0 (fun _ => False) := by
  refine z_met (P := (fun H : Heap => ST G o σ H)) (by decide) rfl (Nat.le_of_ble_eq_true rfl) (fun pp ee ss mm below meth cC E hr hml hown hts hlocks hST hK ls hl => ?_)
  have hl : lv_has ls 3 [(0, .ref (o 0)), (1, .int (iI p)), (2, .int (iI k))] := hl
  have hcs : 0 ≤ (({ frames := 3, cells := 0, slots := 0, locals := 90 } : Room)).cells ∧ 0 ≤ (({ frames := 3, cells := 0, slots := 0, locals := 90 } : Room)).slots := ⟨Nat.zero_le _, Nat.zero_le _⟩
  have hin6 : ∀ w ∈ wsX60, w ∈ wsX6_stateOf := fun w h => List.mem_cons_of_mem _ (List.mem_append_left _ (List.mem_append_left _ (List.mem_append_right _ (h))))
  have hF := hI.F
  have hMm := hI.M
  have hGn := hI.Gn
  have hTi := hI.ti
  have hGr := hI.gr
  refine lv_aload_n (pc := 0) E.1 E.2 dX6_stateOf_0 rfl (lv_at hl 0 rfl) ?_
  refine lv_iload_n (pc := 1) E.1 E.2 dX6_stateOf_1 rfl (lv_at hl 1 rfl) ?_
  refine lv_iload_n (pc := 2) E.1 E.2 dX6_stateOf_2 rfl (lv_at hl 2 rfl) ?_
  refine z_iconst (pc := 3) E dX6_stateOf_3 ?_
  refine z_iconst (pc := 4) E dX6_stateOf_4 ?_
  refine z_rVi (pc := 5) (As := [.int (iI p), .int (iI k), .int (iI 1), .int (iI 0)]) (rest := []) E hml hown hts (mX6_wouldExceed lL G o σ p k 1 0 hI (by omega) (by omega) (Or.inr rfl) (by omega)) (cwV 4 hts gX6_stateOf_X6_wouldExceed rfl rfl rfl vdX6_wouldExceed ⟨Nat.le_of_ble_eq_true rfl, Nat.le_of_ble_eq_true rfl⟩) (oB.recv hK hST.1 rfl) hST hK rfl hl.1 rfl dX6_stateOf_5 hcs (Nat.le_of_ble_eq_true rfl) ?_
  rw [show (((if exS σ (if (1 : Int) = 0 then 5 else 21) p k 0 then 1 else 0) : Int)) = (if exS σ 21 p k 0 then 1 else 0) from rfl]
  refine z_ifb_eq (pc := 8) (tgt := 13) E dX6_stateOf_8 (by decide) (fun h8 => ?_) (fun h8 => ?_)
  · refine lv_aload_n (pc := 13) E.1 E.2 dX6_stateOf_13 rfl (lv_at hl 0 rfl) ?_
    refine lv_iload_n (pc := 14) E.1 E.2 dX6_stateOf_14 rfl (lv_at hl 1 rfl) ?_
    refine lv_iload_n (pc := 15) E.1 E.2 dX6_stateOf_15 rfl (lv_at hl 2 rfl) ?_
    refine z_rVi (pc := 16) (As := [.int (iI p), .int (iI k)]) (rest := []) E hml hown hts (mX6_isGraceOver lL G o σ p k hI (by omega) (by omega)) (cwV 2 hts gX6_stateOf_X6_isGraceOver rfl rfl rfl vdX6_isGraceOver ⟨Nat.le_of_ble_eq_true rfl, Nat.le_of_ble_eq_true rfl⟩) (oB.recv hK hST.1 rfl) hST hK rfl hl.1 rfl dX6_stateOf_16 hcs (Nat.le_of_ble_eq_true rfl) ?_
    refine z_ifb_eq (pc := 19) (tgt := 24) E dX6_stateOf_19 (by decide) (fun h19 => ?_) (fun h19 => ?_)
    · refine lv_aload_n (pc := 24) E.1 E.2 dX6_stateOf_24 rfl (lv_at hl 0 rfl) ?_
      refine g6_2 (pc := 25) E hts hin6 hown hK hST.1 (hts _ (List.mem_of_getElem? (i := 1) rfl)) dX6_stateOf_25 ?_
      refine lv_iload_n (pc := 28) E.1 E.2 dX6_stateOf_28 rfl (lv_at hl 1 rfl) ?_
      refine lv_iload_n (pc := 29) E.1 E.2 dX6_stateOf_29 rfl (lv_at hl 2 rfl) ?_
      refine z_rSNi (pc := 30) (P := fun _ => True) (As := [.int (iI p), .int (iI k)]) (rest := [.ref (o 8)]) E hml hown hts (mX7_accountOf lL G p k) ⟨va_cnB 2 hts gX6_stateOf_X7_accountOf_n98 rfl rfl rfl hK.2.2.2.2.2.2.2.2.1 (hts _ (List.mem_of_getElem? (i := 17) rfl)) vdX7_accountOf.2 ⟨Nat.le_of_ble_eq_true rfl, Nat.le_of_ble_eq_true rfl⟩, (hts _ (List.mem_of_getElem? (i := 16) rfl)), trivial⟩ trivial hK rfl hl.1 rfl dX6_stateOf_30 hcs (Nat.le_of_ble_eq_true rfl) ?_
      have hac := hI.acc (k := 2 * p + k) (by omega) (by omega)
      refine z_rVi (pc := 33) (As := [.int (iI (2 * p + k))]) (rest := []) E hml hown hts (mX0_clockOf lL G (fun k => o (8 + k)) σ (2 * p + k)  (by omega)) (cwV 1 hts gX6_stateOf_X0_clockOf rfl rfl rfl vdX0_clockOf ⟨Nat.le_of_ble_eq_true rfl, Nat.le_of_ble_eq_true rfl⟩) (oB.recv hK hST.aco rfl) hST.ac hK rfl hl.1 rfl dX6_stateOf_33 hcs (Nat.le_of_ble_eq_true rfl) ?_
      rw [show (if 0 ≤ (2 * p + k) ∧ (2 * p + k) < 16 then σ (53 + (2 * p + k)) else -1) = (σ (53 + (2 * p + k))) from (if_pos (by omega))]
      refine z_iconst (pc := 36) E dX6_stateOf_36 ?_
      refine z_icmp_eq (pc := 37) (tgt := 42) E ⟨by omega, by omega⟩ (by decide) dX6_stateOf_37 (by decide) (fun h37 => ?_) (fun h37 => ?_)
      · refine lv_aload_n (pc := 42) E.1 E.2 dX6_stateOf_42 rfl (lv_at hl 0 rfl) ?_
        refine g6_2 (pc := 43) E hts hin6 hown hK hST.1 (hts _ (List.mem_of_getElem? (i := 1) rfl)) dX6_stateOf_43 ?_
        refine lv_iload_n (pc := 46) E.1 E.2 dX6_stateOf_46 rfl (lv_at hl 1 rfl) ?_
        refine lv_iload_n (pc := 47) E.1 E.2 dX6_stateOf_47 rfl (lv_at hl 2 rfl) ?_
        refine z_rSNi (pc := 48) (P := fun _ => True) (As := [.int (iI p), .int (iI k)]) (rest := [.ref (o 8)]) E hml hown hts (mX7_accountOf lL G p k) ⟨va_cnB 2 hts gX6_stateOf_X7_accountOf_n98 rfl rfl rfl hK.2.2.2.2.2.2.2.2.1 (hts _ (List.mem_of_getElem? (i := 17) rfl)) vdX7_accountOf.2 ⟨Nat.le_of_ble_eq_true rfl, Nat.le_of_ble_eq_true rfl⟩, (hts _ (List.mem_of_getElem? (i := 16) rfl)), trivial⟩ trivial hK rfl hl.1 rfl dX6_stateOf_48 hcs (Nat.le_of_ble_eq_true rfl) ?_
        refine z_rVi (pc := 51) (As := [.int (iI (2 * p + k))]) (rest := []) E hml hown hts (mX0_hasLimit lL G (fun k => o (8 + k)) σ (2 * p + k) hI (by omega)) (cwV 1 hts gX6_stateOf_X0_hasLimit rfl rfl rfl vdX0_hasLimit ⟨Nat.le_of_ble_eq_true rfl, Nat.le_of_ble_eq_true rfl⟩) (oB.recv hK hST.aco rfl) hST.ac hK rfl hl.1 rfl dX6_stateOf_51 hcs (Nat.le_of_ble_eq_true rfl) ?_
        refine z_ifb_eq (pc := 54) (tgt := 61) E dX6_stateOf_54 (by decide) (fun h54 => ?_) (fun h54 => ?_)
        · refine z_iconst (pc := 61) E dX6_stateOf_61 ?_
          exact z_retRi E hr (congrArg iI (by first | (rw [stS_4 h8]) | (rw [stS_3 h8 h19]) | (rw [stS_2 h8 h19 h37]) | (rw [stS_1 hI hp hk h8 h37 h54]) | (rw [stS_0 hI hp hk h8 h37 h54]))) hlocks dX6_stateOf_62
        · refine z_iconst (pc := 57) E dX6_stateOf_57 ?_
          refine lv_goto (pc := 58) (tgt := 62) E.1 E.2 dX6_stateOf_58 (by decide) ?_
          exact z_retRi E hr (congrArg iI (by first | (rw [stS_4 h8]) | (rw [stS_3 h8 h19]) | (rw [stS_2 h8 h19 h37]) | (rw [stS_1 hI hp hk h8 h37 h54]) | (rw [stS_0 hI hp hk h8 h37 h54]))) hlocks dX6_stateOf_62
      · refine z_iconst (pc := 40) E dX6_stateOf_40 ?_
        exact z_retRi E hr (congrArg iI (by first | (rw [stS_4 h8]) | (rw [stS_3 h8 h19]) | (rw [stS_2 h8 h19 h37]))) hlocks dX6_stateOf_41
    · refine z_iconst (pc := 22) E dX6_stateOf_22 ?_
      exact z_retRi E hr (congrArg iI (by first | (rw [stS_4 h8]) | (rw [stS_3 h8 h19]))) hlocks dX6_stateOf_23
  · refine z_iconst (pc := 11) E dX6_stateOf_11 ?_
    exact z_retRi E hr (congrArg iI (by first | (rw [stS_4 h8]))) hlocks dX6_stateOf_12
set_option maxHeartbeats 1000000 in
set_option maxRecDepth 100000 in
theorem mX6_growthReason (lL : Launch) (G : GG) (o : Nat → Nat) (σ : Int → Int) (p : Int) (b : Int) (n : Int) (hI : In σ) (hp : -1 ≤ p ∧ p ≤ 7) (hb : -1000000 ≤ b ∧ b ≤ 1000000) (hn : -1000000 ≤ n ∧ n ≤ 1000000) : Met lL yX6_growthReason wsX6_growthReason ({ frames := 3, cells := 0, slots := 0, locals := 90 } : Room) (va_Pc [.ref (o 0), .int (iI p), .int (iI b), .int (iI n)] (fun U => ST G o σ U.heap ∧ KK G U)) (vp_Si (fun r => r = (iI (rsS σ p b n)))) 0 0 (fun _ => False) := by
  refine z_met (P := (fun H : Heap => ST G o σ H)) (by decide) rfl (Nat.le_of_ble_eq_true rfl) (fun pp ee ss mm below meth cC E hr hml hown hts hlocks hST hK ls hl => ?_)
  have hl : lv_has ls 4 [(0, .ref (o 0)), (1, .int (iI p)), (2, .int (iI b)), (3, .int (iI n))] := hl
  have hcs : 0 ≤ (({ frames := 3, cells := 0, slots := 0, locals := 90 } : Room)).cells ∧ 0 ≤ (({ frames := 3, cells := 0, slots := 0, locals := 90 } : Room)).slots := ⟨Nat.zero_le _, Nat.zero_le _⟩
  have hF := hI.F
  have hMm := hI.M
  have hGn := hI.Gn
  have hTi := hI.ti
  have hGr := hI.gr
  refine lv_iload_n (pc := 0) E.1 E.2 dX6_growthReason_0 rfl (lv_at hl 1 rfl) ?_
  refine z_iconst (pc := 1) E dX6_growthReason_1 ?_
  refine z_icmp_ne (pc := 2) (tgt := 7) E ⟨by omega, by omega⟩ (by decide) dX6_growthReason_2 (by decide) (fun h2 => ?_) (fun h2 => ?_)
  · refine lv_iload_n (pc := 7) E.1 E.2 dX6_growthReason_7 rfl (lv_at hl 2 rfl) ?_
    refine z_if_le (pc := 8) (tgt := 24) E ⟨by omega, by omega⟩ dX6_growthReason_8 (by decide) (fun h8 => ?_) (fun h8 => ?_)
    · refine lv_iload_n (pc := 24) E.1 E.2 dX6_growthReason_24 rfl (lv_at hl 3 rfl) ?_
      refine z_if_le (pc := 25) (tgt := 41) E ⟨by omega, by omega⟩ dX6_growthReason_25 (by decide) (fun h25 => ?_) (fun h25 => ?_)
      · refine lv_iload_n (pc := 41) E.1 E.2 dX6_growthReason_41 rfl (lv_at hl 2 rfl) ?_
        refine z_if_le (pc := 42) (tgt := 56) E ⟨by omega, by omega⟩ dX6_growthReason_42 (by decide) (fun h42 => ?_) (fun h42 => ?_)
        · refine lv_iload_n (pc := 56) E.1 E.2 dX6_growthReason_56 rfl (lv_at hl 3 rfl) ?_
          refine z_if_le (pc := 57) (tgt := 73) E ⟨by omega, by omega⟩ dX6_growthReason_57 (by decide) (fun h57 => ?_) (fun h57 => ?_)
          · refine z_iconst (pc := 73) E dX6_growthReason_73 ?_
            exact z_retRi E hr (congrArg iI (by unfold rsS; simp only [tmS, ovS] at *; repeat' split; all_goals omega)) hlocks dX6_growthReason_74
          · exact absurd h57 (by first | omega | exact h25 | exact fun q => h25 q)
        · exact absurd h42 (by first | omega | exact h8 | exact fun q => h8 q)
      · refine lv_aload_n (pc := 28) E.1 E.2 dX6_growthReason_28 rfl (lv_at hl 0 rfl) ?_
        refine lv_iload_n (pc := 29) E.1 E.2 dX6_growthReason_29 rfl (lv_at hl 1 rfl) ?_
        refine z_iconst (pc := 30) E dX6_growthReason_30 ?_
        refine z_iconst (pc := 31) E dX6_growthReason_31 ?_
        refine lv_iload_n (pc := 32) E.1 E.2 dX6_growthReason_32 rfl (lv_at hl 3 rfl) ?_
        refine z_rVi (pc := 33) (As := [.int (iI p), .int (iI 1), .int (iI 1), .int (iI n)]) (rest := []) E hml hown hts (mX6_wouldExceed lL G o σ p 1 1 n hI (by omega) (Or.inr rfl) (Or.inr rfl) (by omega)) (cwV 4 hts gX6_growthReason_X6_wouldExceed rfl rfl rfl vdX6_wouldExceed ⟨Nat.le_of_ble_eq_true rfl, Nat.le_of_ble_eq_true rfl⟩) (oB.recv hK hST.1 rfl) hST hK rfl hl.1 rfl dX6_growthReason_33 hcs (Nat.le_of_ble_eq_true rfl) ?_
        rw [show (((if exS σ (if (1 : Int) = 0 then 5 else 21) p 1 n then 1 else 0) : Int)) = (if exS σ 21 p 1 n then 1 else 0) from rfl]
        refine z_ifb_eq (pc := 36) (tgt := 41) E dX6_growthReason_36 (by decide) (fun h36 => ?_) (fun h36 => ?_)
        · have h36t : ¬ tmS σ p 1 n := h36
          refine lv_iload_n (pc := 41) E.1 E.2 dX6_growthReason_41 rfl (lv_at hl 2 rfl) ?_
          refine z_if_le (pc := 42) (tgt := 56) E ⟨by omega, by omega⟩ dX6_growthReason_42 (by decide) (fun h42 => ?_) (fun h42 => ?_)
          · refine lv_iload_n (pc := 56) E.1 E.2 dX6_growthReason_56 rfl (lv_at hl 3 rfl) ?_
            refine z_if_le (pc := 57) (tgt := 73) E ⟨by omega, by omega⟩ dX6_growthReason_57 (by decide) (fun h57 => ?_) (fun h57 => ?_)
            · exact absurd h57 (by first | omega | exact h25 | exact fun q => h25 q)
            · refine lv_aload_n (pc := 60) E.1 E.2 dX6_growthReason_60 rfl (lv_at hl 0 rfl) ?_
              refine lv_iload_n (pc := 61) E.1 E.2 dX6_growthReason_61 rfl (lv_at hl 1 rfl) ?_
              refine z_iconst (pc := 62) E dX6_growthReason_62 ?_
              refine z_rVi (pc := 63) (As := [.int (iI p), .int (iI 1)]) (rest := []) E hml hown hts (mX6_isGraceOver lL G o σ p 1 hI (by omega) (Or.inr rfl)) (cwV 2 hts gX6_growthReason_X6_isGraceOver rfl rfl rfl vdX6_isGraceOver ⟨Nat.le_of_ble_eq_true rfl, Nat.le_of_ble_eq_true rfl⟩) (oB.recv hK hST.1 rfl) hST hK rfl hl.1 rfl dX6_growthReason_63 hcs (Nat.le_of_ble_eq_true rfl) ?_
              refine z_ifb_eq (pc := 66) (tgt := 73) E dX6_growthReason_66 (by decide) (fun h66 => ?_) (fun h66 => ?_)
              · refine z_iconst (pc := 73) E dX6_growthReason_73 ?_
                exact z_retRi E hr (congrArg iI (by unfold rsS; simp only [tmS, ovS] at *; repeat' split; all_goals omega)) hlocks dX6_growthReason_74
              · refine z_iconst (pc := 69) E dX6_growthReason_69 ?_
                refine lv_goto (pc := 70) (tgt := 74) E.1 E.2 dX6_growthReason_70 (by decide) ?_
                exact z_retRi E hr (congrArg iI (by unfold rsS; simp only [tmS, ovS] at *; repeat' split; all_goals omega)) hlocks dX6_growthReason_74
          · exact absurd h42 (by first | omega | exact h8 | exact fun q => h8 q)
        · have h36t : tmS σ p 1 n := h36
          refine z_iconst (pc := 39) E dX6_growthReason_39 ?_
          exact z_retRi E hr (congrArg iI (by unfold rsS; simp only [tmS, ovS] at *; repeat' split; all_goals omega)) hlocks dX6_growthReason_40
    · refine lv_aload_n (pc := 11) E.1 E.2 dX6_growthReason_11 rfl (lv_at hl 0 rfl) ?_
      refine lv_iload_n (pc := 12) E.1 E.2 dX6_growthReason_12 rfl (lv_at hl 1 rfl) ?_
      refine z_iconst (pc := 13) E dX6_growthReason_13 ?_
      refine z_iconst (pc := 14) E dX6_growthReason_14 ?_
      refine lv_iload_n (pc := 15) E.1 E.2 dX6_growthReason_15 rfl (lv_at hl 2 rfl) ?_
      refine z_rVi (pc := 16) (As := [.int (iI p), .int (iI 0), .int (iI 1), .int (iI b)]) (rest := []) E hml hown hts (mX6_wouldExceed lL G o σ p 0 1 b hI (by omega) (Or.inl rfl) (Or.inr rfl) (by omega)) (cwV 4 hts gX6_growthReason_X6_wouldExceed rfl rfl rfl vdX6_wouldExceed ⟨Nat.le_of_ble_eq_true rfl, Nat.le_of_ble_eq_true rfl⟩) (oB.recv hK hST.1 rfl) hST hK rfl hl.1 rfl dX6_growthReason_16 hcs (Nat.le_of_ble_eq_true rfl) ?_
      rw [show (((if exS σ (if (1 : Int) = 0 then 5 else 21) p 0 b then 1 else 0) : Int)) = (if exS σ 21 p 0 b then 1 else 0) from rfl]
      refine z_ifb_eq (pc := 19) (tgt := 24) E dX6_growthReason_19 (by decide) (fun h19 => ?_) (fun h19 => ?_)
      · have h19t : ¬ tmS σ p 0 b := h19
        refine lv_iload_n (pc := 24) E.1 E.2 dX6_growthReason_24 rfl (lv_at hl 3 rfl) ?_
        refine z_if_le (pc := 25) (tgt := 41) E ⟨by omega, by omega⟩ dX6_growthReason_25 (by decide) (fun h25 => ?_) (fun h25 => ?_)
        · refine lv_iload_n (pc := 41) E.1 E.2 dX6_growthReason_41 rfl (lv_at hl 2 rfl) ?_
          refine z_if_le (pc := 42) (tgt := 56) E ⟨by omega, by omega⟩ dX6_growthReason_42 (by decide) (fun h42 => ?_) (fun h42 => ?_)
          · exact absurd h42 (by first | omega | exact h8 | exact fun q => h8 q)
          · refine lv_aload_n (pc := 45) E.1 E.2 dX6_growthReason_45 rfl (lv_at hl 0 rfl) ?_
            refine lv_iload_n (pc := 46) E.1 E.2 dX6_growthReason_46 rfl (lv_at hl 1 rfl) ?_
            refine z_iconst (pc := 47) E dX6_growthReason_47 ?_
            refine z_rVi (pc := 48) (As := [.int (iI p), .int (iI 0)]) (rest := []) E hml hown hts (mX6_isGraceOver lL G o σ p 0 hI (by omega) (Or.inl rfl)) (cwV 2 hts gX6_growthReason_X6_isGraceOver rfl rfl rfl vdX6_isGraceOver ⟨Nat.le_of_ble_eq_true rfl, Nat.le_of_ble_eq_true rfl⟩) (oB.recv hK hST.1 rfl) hST hK rfl hl.1 rfl dX6_growthReason_48 hcs (Nat.le_of_ble_eq_true rfl) ?_
            refine z_ifb_eq (pc := 51) (tgt := 56) E dX6_growthReason_51 (by decide) (fun h51 => ?_) (fun h51 => ?_)
            · refine lv_iload_n (pc := 56) E.1 E.2 dX6_growthReason_56 rfl (lv_at hl 3 rfl) ?_
              refine z_if_le (pc := 57) (tgt := 73) E ⟨by omega, by omega⟩ dX6_growthReason_57 (by decide) (fun h57 => ?_) (fun h57 => ?_)
              · refine z_iconst (pc := 73) E dX6_growthReason_73 ?_
                exact z_retRi E hr (congrArg iI (by unfold rsS; simp only [tmS, ovS] at *; repeat' split; all_goals omega)) hlocks dX6_growthReason_74
              · exact absurd h57 (by first | omega | exact h25 | exact fun q => h25 q)
            · refine z_iconst (pc := 54) E dX6_growthReason_54 ?_
              exact z_retRi E hr (congrArg iI (by unfold rsS; simp only [tmS, ovS] at *; repeat' split; all_goals omega)) hlocks dX6_growthReason_55
        · refine lv_aload_n (pc := 28) E.1 E.2 dX6_growthReason_28 rfl (lv_at hl 0 rfl) ?_
          refine lv_iload_n (pc := 29) E.1 E.2 dX6_growthReason_29 rfl (lv_at hl 1 rfl) ?_
          refine z_iconst (pc := 30) E dX6_growthReason_30 ?_
          refine z_iconst (pc := 31) E dX6_growthReason_31 ?_
          refine lv_iload_n (pc := 32) E.1 E.2 dX6_growthReason_32 rfl (lv_at hl 3 rfl) ?_
          refine z_rVi (pc := 33) (As := [.int (iI p), .int (iI 1), .int (iI 1), .int (iI n)]) (rest := []) E hml hown hts (mX6_wouldExceed lL G o σ p 1 1 n hI (by omega) (Or.inr rfl) (Or.inr rfl) (by omega)) (cwV 4 hts gX6_growthReason_X6_wouldExceed rfl rfl rfl vdX6_wouldExceed ⟨Nat.le_of_ble_eq_true rfl, Nat.le_of_ble_eq_true rfl⟩) (oB.recv hK hST.1 rfl) hST hK rfl hl.1 rfl dX6_growthReason_33 hcs (Nat.le_of_ble_eq_true rfl) ?_
          rw [show (((if exS σ (if (1 : Int) = 0 then 5 else 21) p 1 n then 1 else 0) : Int)) = (if exS σ 21 p 1 n then 1 else 0) from rfl]
          refine z_ifb_eq (pc := 36) (tgt := 41) E dX6_growthReason_36 (by decide) (fun h36 => ?_) (fun h36 => ?_)
          · have h36t : ¬ tmS σ p 1 n := h36
            refine lv_iload_n (pc := 41) E.1 E.2 dX6_growthReason_41 rfl (lv_at hl 2 rfl) ?_
            refine z_if_le (pc := 42) (tgt := 56) E ⟨by omega, by omega⟩ dX6_growthReason_42 (by decide) (fun h42 => ?_) (fun h42 => ?_)
            · exact absurd h42 (by first | omega | exact h8 | exact fun q => h8 q)
            · refine lv_aload_n (pc := 45) E.1 E.2 dX6_growthReason_45 rfl (lv_at hl 0 rfl) ?_
              refine lv_iload_n (pc := 46) E.1 E.2 dX6_growthReason_46 rfl (lv_at hl 1 rfl) ?_
              refine z_iconst (pc := 47) E dX6_growthReason_47 ?_
              refine z_rVi (pc := 48) (As := [.int (iI p), .int (iI 0)]) (rest := []) E hml hown hts (mX6_isGraceOver lL G o σ p 0 hI (by omega) (Or.inl rfl)) (cwV 2 hts gX6_growthReason_X6_isGraceOver rfl rfl rfl vdX6_isGraceOver ⟨Nat.le_of_ble_eq_true rfl, Nat.le_of_ble_eq_true rfl⟩) (oB.recv hK hST.1 rfl) hST hK rfl hl.1 rfl dX6_growthReason_48 hcs (Nat.le_of_ble_eq_true rfl) ?_
              refine z_ifb_eq (pc := 51) (tgt := 56) E dX6_growthReason_51 (by decide) (fun h51 => ?_) (fun h51 => ?_)
              · refine lv_iload_n (pc := 56) E.1 E.2 dX6_growthReason_56 rfl (lv_at hl 3 rfl) ?_
                refine z_if_le (pc := 57) (tgt := 73) E ⟨by omega, by omega⟩ dX6_growthReason_57 (by decide) (fun h57 => ?_) (fun h57 => ?_)
                · exact absurd h57 (by first | omega | exact h25 | exact fun q => h25 q)
                · refine lv_aload_n (pc := 60) E.1 E.2 dX6_growthReason_60 rfl (lv_at hl 0 rfl) ?_
                  refine lv_iload_n (pc := 61) E.1 E.2 dX6_growthReason_61 rfl (lv_at hl 1 rfl) ?_
                  refine z_iconst (pc := 62) E dX6_growthReason_62 ?_
                  refine z_rVi (pc := 63) (As := [.int (iI p), .int (iI 1)]) (rest := []) E hml hown hts (mX6_isGraceOver lL G o σ p 1 hI (by omega) (Or.inr rfl)) (cwV 2 hts gX6_growthReason_X6_isGraceOver rfl rfl rfl vdX6_isGraceOver ⟨Nat.le_of_ble_eq_true rfl, Nat.le_of_ble_eq_true rfl⟩) (oB.recv hK hST.1 rfl) hST hK rfl hl.1 rfl dX6_growthReason_63 hcs (Nat.le_of_ble_eq_true rfl) ?_
                  refine z_ifb_eq (pc := 66) (tgt := 73) E dX6_growthReason_66 (by decide) (fun h66 => ?_) (fun h66 => ?_)
                  · refine z_iconst (pc := 73) E dX6_growthReason_73 ?_
                    exact z_retRi E hr (congrArg iI (by unfold rsS; simp only [tmS, ovS] at *; repeat' split; all_goals omega)) hlocks dX6_growthReason_74
                  · refine z_iconst (pc := 69) E dX6_growthReason_69 ?_
                    refine lv_goto (pc := 70) (tgt := 74) E.1 E.2 dX6_growthReason_70 (by decide) ?_
                    exact z_retRi E hr (congrArg iI (by unfold rsS; simp only [tmS, ovS] at *; repeat' split; all_goals omega)) hlocks dX6_growthReason_74
              · refine z_iconst (pc := 54) E dX6_growthReason_54 ?_
                exact z_retRi E hr (congrArg iI (by unfold rsS; simp only [tmS, ovS] at *; repeat' split; all_goals omega)) hlocks dX6_growthReason_55
          · have h36t : tmS σ p 1 n := h36
            refine z_iconst (pc := 39) E dX6_growthReason_39 ?_
            exact z_retRi E hr (congrArg iI (by unfold rsS; simp only [tmS, ovS] at *; repeat' split; all_goals omega)) hlocks dX6_growthReason_40
      · have h19t : tmS σ p 0 b := h19
        refine z_iconst (pc := 22) E dX6_growthReason_22 ?_
        exact z_retRi E hr (congrArg iI (by unfold rsS; simp only [tmS, ovS] at *; repeat' split; all_goals omega)) hlocks dX6_growthReason_23
  · refine z_iconst (pc := 5) E dX6_growthReason_5 ?_
    exact z_retRi E hr (congrArg iI (by unfold rsS; simp only [tmS, ovS] at *; repeat' split; all_goals omega)) hlocks dX6_growthReason_6
set_option maxHeartbeats 1000000 in
set_option maxRecDepth 100000 in
theorem mX6_heaviestChild (lL : Launch) (G : GG) (o : Nat → Nat) (σ : Int → Int) (f : Int) (hI : In σ) (hf : 0 ≤ f ∧ f < σ 2) : Met lL yX6_heaviestChild wsX6_heaviestChild ({ frames := 4, cells := 0, slots := 0, locals := 90 } : Room) (va_Pc [.ref (o 0), .int (iI f)] (fun U => ST G o σ U.heap ∧ KK G U)) (vp_Si (fun r => r = (iI (hvS σ f)))) 0 0 (fun _ => False) := by
  refine z_met (P := (fun H : Heap => ST G o σ H)) (by decide) rfl (Nat.le_of_ble_eq_true rfl) (fun pp ee ss mm below meth cC E hr hml hown hts hlocks hST hK ls hl => ?_)
  have hl : lv_has ls 6 [(0, .ref (o 0)), (1, .int (iI f))] := hl
  have hcs : 0 ≤ (({ frames := 4, cells := 0, slots := 0, locals := 90 } : Room)).cells ∧ 0 ≤ (({ frames := 4, cells := 0, slots := 0, locals := 90 } : Room)).slots := ⟨Nat.zero_le _, Nat.zero_le _⟩
  have hin3 : ∀ w ∈ wsX30, w ∈ wsX6_heaviestChild := fun w h => List.mem_cons_of_mem _ (List.mem_append_left _ (List.mem_append_right _ (h)))
  have hin6 : ∀ w ∈ wsX60, w ∈ wsX6_heaviestChild := fun w h => List.mem_cons_of_mem _ (List.mem_append_left _ (List.mem_append_left _ (List.mem_append_right _ (h))))
  have hF := hI.F
  have hMm := hI.M
  have hGn := hI.Gn
  have hTi := hI.ti
  have hGr := hI.gr
  refine z_iconst (pc := 0) E dX6_heaviestChild_0 ?_
  refine lv_istore_n (pc := 1) (lv' := [(2, .int (iI (-1))), (0, .ref (o 0)), (1, .int (iI f))]) E.1 E.2 dX6_heaviestChild_1 rfl hl (by decide) rfl (fun ls hl => ?_)
  refine z_iconst (pc := 2) E dX6_heaviestChild_2 ?_
  refine lv_istore_n (pc := 3) (lv' := [(3, .int (iI (-1))), (2, .int (iI (-1))), (0, .ref (o 0)), (1, .int (iI f))]) E.1 E.2 dX6_heaviestChild_3 rfl hl (by decide) rfl (fun ls hl => ?_)
  refine z_iconst (pc := 4) E dX6_heaviestChild_4 ?_
  refine lv_istore (pc := 5) (lv' := [(4, .int (iI 0)), (3, .int (iI (-1))), (2, .int (iI (-1))), (0, .ref (o 0)), (1, .int (iI f))]) E.1 E.2 dX6_heaviestChild_5 hl (by decide) rfl (fun ls hl => ?_)
  suffices L7 : ∀ (nf : Nat), ∀ (b w k : Int), (0 ≤ k ∧ k ≤ σ 2) → (b = hv σ f k.toNat) → (w = if b = -1 then -1 else mbS σ b 1) → ((σ 2 - k).toNat) < nf → ∀ ls : Array Slot, lv_has ls 6 [(4, .int (iI k)), (3, .int (iI w)), (2, .int (iI b)), (0, .ref (o 0)), (1, .int (iI f))] → W pp lL ee ({ frames := 4, cells := 0, slots := 0, locals := 90 } : Room) ss mm [.ref (o 0), .int (iI f)].toArray below meth cC ss.heap [] 0 0 (MQ below (vp_Si (fun r => r = (iI (hvS σ f)))) [.ref (o 0), .int (iI f)].toArray ss 0 0 (fun _ => False)) (F0 mm 7 ls []) from L7 _ (-1) (-1) 0 (by omega) rfl rfl (Nat.lt_succ_self _) ls (lv_sub hl [0, 1, 2, 3, 4] rfl)
  intro nfL7
  induction nfL7 with
  | zero => intro b w k hk hb hw hmzL7; exact absurd hmzL7 (Nat.not_lt_zero _)
  | succ nfL7 ihL7 =>
    intro b w k hk hb hw hmzL7 ls hl
    have hbb := hv_b σ f k.toNat
    have hmb := mbS_b hI b 1
    have hw2 : w = -1 ∧ b = -1 ∨ w = mbS σ b 1 ∧ ¬ b = -1 := by by_cases z : b = -1; left; rw [if_pos z] at hw; exact ⟨hw, z⟩; right; rw [if_neg z] at hw; exact ⟨hw, z⟩
    refine lv_iload (pc := 7) E.1 E.2 dX6_heaviestChild_7 (lv_at hl 0 rfl) ?_
    refine lv_aload_n (pc := 9) E.1 E.2 dX6_heaviestChild_9 rfl (lv_at hl 3 rfl) ?_
    refine g6_0 (pc := 10) E hts hin6 hown hK hST.1 (hts _ (List.mem_of_getElem? (i := 1) rfl)) dX6_heaviestChild_10 ?_
    refine g3_3 (pc := 13) E hts hin3 hown hK hST.foo (hts _ (List.mem_of_getElem? (i := 2) rfl)) dX6_heaviestChild_13 ?_
    refine z_icmp_ge (pc := 16) (tgt := 59) E ⟨by omega, by omega⟩ ⟨by omega, by omega⟩ dX6_heaviestChild_16 (by decide) (fun h16 => ?_) (fun h16 => ?_)
    · refine lv_iload_n (pc := 59) E.1 E.2 dX6_heaviestChild_59 rfl (lv_at hl 2 rfl) ?_
      exact z_retRi E hr (congrArg iI (by (rw [hb]; unfold hvS; congr 1; omega))) hlocks dX6_heaviestChild_60
    · refine lv_aload_n (pc := 19) E.1 E.2 dX6_heaviestChild_19 rfl (lv_at hl 3 rfl) ?_
      refine g6_0 (pc := 20) E hts hin6 hown hK hST.1 (hts _ (List.mem_of_getElem? (i := 1) rfl)) dX6_heaviestChild_20 ?_
      refine lv_iload (pc := 23) E.1 E.2 dX6_heaviestChild_23 (lv_at hl 0 rfl) ?_
      refine z_rVi (pc := 25) (As := [.int (iI k)]) (rest := []) E hml hown hts (mX3_parentOf lL G (fun k => o (1 + k)) σ k hI (by omega)) (cwV 1 hts gX6_heaviestChild_X3_parentOf rfl rfl rfl vdX3_parentOf ⟨Nat.le_of_ble_eq_true rfl, Nat.le_of_ble_eq_true rfl⟩) (oB.recv hK hST.foo rfl) hST.fo hK rfl hl.1 rfl dX6_heaviestChild_25 hcs (Nat.le_of_ble_eq_true rfl) ?_
      have hpk := hI.par (f := k) hk.1 (by omega)
      rw [show (if 0 ≤ k ∧ k < σ 2 then σ (69 + k) else -1) = (σ (69 + k)) from (if_pos (show 0 ≤ k ∧ k < σ 2 from ⟨hk.1, by omega⟩))]
      refine lv_iload_n (pc := 28) E.1 E.2 dX6_heaviestChild_28 rfl (lv_at hl 4 rfl) ?_
      refine z_icmp_ne (pc := 29) (tgt := 53) E ⟨by omega, by omega⟩ ⟨by omega, by omega⟩ dX6_heaviestChild_29 (by decide) (fun h29 => ?_) (fun h29 => ?_)
      · refine lv_iinc (pc := 53) (v := iI (k + 1)) (lv' := [(4, .int (iI (k + 1))), (3, .int (iI w)), (2, .int (iI b)), (0, .ref (o 0)), (1, .int (iI f))]) E.1 E.2 dX6_heaviestChild_53 hl (k := 0) rfl (iI_add _ _) (by decide) rfl (fun ls hl => ?_)
        refine lv_goto (pc := 56) (tgt := 7) E.1 E.2 dX6_heaviestChild_56 (by decide) ?_
        exact ihL7 b w (k + 1) (by omega) (by rw [show (k + 1).toNat = k.toNat + 1 by omega, hv, Int.toNat_of_nonneg hk.1, ← hb]; first | (rw [if_neg (fun z => h29 z.1)]) | (rw [if_pos ⟨h29, by omega⟩]) | (rw [if_neg (fun z => by have := z.2; omega)])) (by first | exact hw | (rw [if_neg (by omega)])) (by omega) ls (lv_sub hl [0, 1, 2, 3, 4] rfl)
      · refine lv_aload_n (pc := 32) E.1 E.2 dX6_heaviestChild_32 rfl (lv_at hl 3 rfl) ?_
        refine lv_iload (pc := 33) E.1 E.2 dX6_heaviestChild_33 (lv_at hl 0 rfl) ?_
        refine z_iconst (pc := 35) E dX6_heaviestChild_35 ?_
        refine z_rVi (pc := 36) (As := [.int (iI k), .int (iI 0)]) (rest := []) E hml hown hts (mX6_subtreeSum lL G o σ k 0 hI (by omega) (Or.inl rfl)) (cwV 2 hts gX6_heaviestChild_X6_subtreeSum rfl rfl rfl vdX6_subtreeSum ⟨Nat.le_of_ble_eq_true rfl, Nat.le_of_ble_eq_true rfl⟩) (oB.recv hK hST.1 rfl) hST hK rfl hl.1 rfl dX6_heaviestChild_36 hcs (Nat.le_of_ble_eq_true rfl) ?_
        have hmk := mbS_b hI k 1
        rw [show (mbS σ k (1 - 0)) = (mbS σ k 1) from rfl]
        refine lv_istore (pc := 39) (lv' := [(5, .int (iI (mbS σ k 1))), (4, .int (iI k)), (3, .int (iI w)), (2, .int (iI b)), (0, .ref (o 0)), (1, .int (iI f))]) E.1 E.2 dX6_heaviestChild_39 hl (by decide) rfl (fun ls hl => ?_)
        refine lv_iload (pc := 41) E.1 E.2 dX6_heaviestChild_41 (lv_at hl 0 rfl) ?_
        refine lv_iload_n (pc := 43) E.1 E.2 dX6_heaviestChild_43 rfl (lv_at hl 2 rfl) ?_
        refine z_icmp_le (pc := 44) (tgt := 53) E ⟨by omega, by omega⟩ ⟨by omega, by omega⟩ dX6_heaviestChild_44 (by decide) (fun h44 => ?_) (fun h44 => ?_)
        · refine lv_iinc (pc := 53) (v := iI (k + 1)) (lv' := [(4, .int (iI (k + 1))), (5, .int (iI (mbS σ k 1))), (3, .int (iI w)), (2, .int (iI b)), (0, .ref (o 0)), (1, .int (iI f))]) E.1 E.2 dX6_heaviestChild_53 hl (k := 1) rfl (iI_add _ _) (by decide) rfl (fun ls hl => ?_)
          refine lv_goto (pc := 56) (tgt := 7) E.1 E.2 dX6_heaviestChild_56 (by decide) ?_
          exact ihL7 b w (k + 1) (by omega) (by rw [show (k + 1).toNat = k.toNat + 1 by omega, hv, Int.toNat_of_nonneg hk.1, ← hb]; first | (rw [if_neg (fun z => h29 z.1)]) | (rw [if_pos ⟨h29, by omega⟩]) | (rw [if_neg (fun z => by have := z.2; omega)])) (by first | exact hw | (rw [if_neg (by omega)])) (by omega) ls (lv_sub hl [0, 2, 3, 4, 5] rfl)
        · refine lv_iload (pc := 47) E.1 E.2 dX6_heaviestChild_47 (lv_at hl 1 rfl) ?_
          refine lv_istore_n (pc := 49) (lv' := [(2, .int (iI k)), (5, .int (iI (mbS σ k 1))), (4, .int (iI k)), (3, .int (iI w)), (0, .ref (o 0)), (1, .int (iI f))]) E.1 E.2 dX6_heaviestChild_49 rfl hl (by decide) rfl (fun ls hl => ?_)
          refine lv_iload (pc := 50) E.1 E.2 dX6_heaviestChild_50 (lv_at hl 1 rfl) ?_
          refine lv_istore_n (pc := 52) (lv' := [(3, .int (iI (mbS σ k 1))), (2, .int (iI k)), (5, .int (iI (mbS σ k 1))), (4, .int (iI k)), (0, .ref (o 0)), (1, .int (iI f))]) E.1 E.2 dX6_heaviestChild_52 rfl hl (by decide) rfl (fun ls hl => ?_)
          refine lv_iinc (pc := 53) (v := iI (k + 1)) (lv' := [(4, .int (iI (k + 1))), (3, .int (iI (mbS σ k 1))), (2, .int (iI k)), (5, .int (iI (mbS σ k 1))), (0, .ref (o 0)), (1, .int (iI f))]) E.1 E.2 dX6_heaviestChild_53 hl (k := 3) rfl (iI_add _ _) (by decide) rfl (fun ls hl => ?_)
          refine lv_goto (pc := 56) (tgt := 7) E.1 E.2 dX6_heaviestChild_56 (by decide) ?_
          exact ihL7 k (mbS σ k 1) (k + 1) (by omega) (by rw [show (k + 1).toNat = k.toNat + 1 by omega, hv, Int.toNat_of_nonneg hk.1, ← hb]; first | (rw [if_neg (fun z => h29 z.1)]) | (rw [if_pos ⟨h29, by omega⟩]) | (rw [if_neg (fun z => by have := z.2; omega)])) (by first | exact hw | (rw [if_neg (by omega)])) (by omega) ls (lv_sub hl [0, 1, 2, 4, 5] rfl)
set_option maxHeartbeats 1000000 in
set_option maxRecDepth 100000 in
theorem mX6_greatestFile (lL : Launch) (G : GG) (o : Nat → Nat) (σ : Int → Int) (p : Int) (hI : In σ) (hp : 0 ≤ p ∧ p ≤ 7) : Met lL yX6_greatestFile wsX6_greatestFile ({ frames := 4, cells := 0, slots := 0, locals := 86 } : Room) (va_Pc [.ref (o 0), .int (iI p)] (fun U => ST G o σ U.heap ∧ KK G U)) (vp_Si (fun r => r = (iI (gfS σ p)))) 0 0 (fun _ => False) := by
  refine z_met (P := (fun H : Heap => ST G o σ H)) (by decide) rfl (Nat.le_of_ble_eq_true rfl) (fun pp ee ss mm below meth cC E hr hml hown hts hlocks hST hK ls hl => ?_)
  have hl : lv_has ls 5 [(0, .ref (o 0)), (1, .int (iI p))] := hl
  have hcs : 0 ≤ (({ frames := 4, cells := 0, slots := 0, locals := 86 } : Room)).cells ∧ 0 ≤ (({ frames := 4, cells := 0, slots := 0, locals := 86 } : Room)).slots := ⟨Nat.zero_le _, Nat.zero_le _⟩
  have hin2 : ∀ w ∈ wsX20, w ∈ wsX6_greatestFile := fun w h => List.mem_cons_of_mem _ (List.mem_append_left _ (List.mem_append_right _ (h)))
  have hin6 : ∀ w ∈ wsX60, w ∈ wsX6_greatestFile := fun w h => List.mem_cons_of_mem _ (List.mem_append_left _ (List.mem_append_left _ (List.mem_append_right _ (h))))
  have hF := hI.F
  have hMm := hI.M
  have hGn := hI.Gn
  have hTi := hI.ti
  have hGr := hI.gr
  refine z_iconst (pc := 0) E dX6_greatestFile_0 ?_
  refine lv_istore_n (pc := 1) (lv' := [(2, .int (iI (-1))), (0, .ref (o 0)), (1, .int (iI p))]) E.1 E.2 dX6_greatestFile_1 rfl hl (by decide) rfl (fun ls hl => ?_)
  refine z_iconst (pc := 2) E dX6_greatestFile_2 ?_
  refine lv_istore_n (pc := 3) (lv' := [(3, .int (iI (-1))), (2, .int (iI (-1))), (0, .ref (o 0)), (1, .int (iI p))]) E.1 E.2 dX6_greatestFile_3 rfl hl (by decide) rfl (fun ls hl => ?_)
  refine z_iconst (pc := 4) E dX6_greatestFile_4 ?_
  refine lv_istore (pc := 5) (lv' := [(4, .int (iI 0)), (3, .int (iI (-1))), (2, .int (iI (-1))), (0, .ref (o 0)), (1, .int (iI p))]) E.1 E.2 dX6_greatestFile_5 hl (by decide) rfl (fun ls hl => ?_)
  suffices L7 : ∀ (nf : Nat), ∀ (b w k : Int), (0 ≤ k ∧ k ≤ σ 3) → (b = gf σ p k.toNat) → (w = if b = -1 then -1 else σ (249 + b)) → ((σ 3 - k).toNat) < nf → ∀ ls : Array Slot, lv_has ls 5 [(4, .int (iI k)), (3, .int (iI w)), (2, .int (iI b)), (0, .ref (o 0)), (1, .int (iI p))] → W pp lL ee ({ frames := 4, cells := 0, slots := 0, locals := 86 } : Room) ss mm [.ref (o 0), .int (iI p)].toArray below meth cC ss.heap [] 0 0 (MQ below (vp_Si (fun r => r = (iI (gfS σ p)))) [.ref (o 0), .int (iI p)].toArray ss 0 0 (fun _ => False)) (F0 mm 7 ls []) from L7 _ (-1) (-1) 0 (by omega) rfl rfl (Nat.lt_succ_self _) ls (lv_sub hl [0, 1, 2, 3, 4] rfl)
  intro nfL7
  induction nfL7 with
  | zero => intro b w k hk hb hw hmzL7; exact absurd hmzL7 (Nat.not_lt_zero _)
  | succ nfL7 ihL7 =>
    intro b w k hk hb hw hmzL7 ls hl
    have hbb := gf_b σ p k.toNat
    have hsb : 0 ≤ b → 0 ≤ σ (249 + b) ∧ σ (249 + b) ≤ 9999 := fun z => (hI.fil (k := b) z (by omega)).2
    have hw2 : w = -1 ∧ b = -1 ∨ w = σ (249 + b) ∧ 0 ≤ b := by by_cases z : b = -1; left; rw [if_pos z] at hw; exact ⟨hw, z⟩; right; rw [if_neg z] at hw; exact ⟨hw, by omega⟩
    refine lv_iload (pc := 7) E.1 E.2 dX6_greatestFile_7 (lv_at hl 0 rfl) ?_
    refine lv_aload_n (pc := 9) E.1 E.2 dX6_greatestFile_9 rfl (lv_at hl 3 rfl) ?_
    refine g6_1 (pc := 10) E hts hin6 hown hK hST.1 (hts _ (List.mem_of_getElem? (i := 1) rfl)) dX6_greatestFile_10 ?_
    refine g2_2 (pc := 13) E hts hin2 hown hK hST.fio (hts _ (List.mem_of_getElem? (i := 2) rfl)) dX6_greatestFile_13 ?_
    refine z_icmp_ge (pc := 16) (tgt := 61) E ⟨by omega, by omega⟩ ⟨by omega, by omega⟩ dX6_greatestFile_16 (by decide) (fun h16 => ?_) (fun h16 => ?_)
    · refine lv_iload_n (pc := 61) E.1 E.2 dX6_greatestFile_61 rfl (lv_at hl 2 rfl) ?_
      exact z_retRi E hr (congrArg iI (by (rw [hb]; unfold gfS; congr 1; omega))) hlocks dX6_greatestFile_62
    · refine lv_aload_n (pc := 19) E.1 E.2 dX6_greatestFile_19 rfl (lv_at hl 3 rfl) ?_
      refine g6_1 (pc := 20) E hts hin6 hown hK hST.1 (hts _ (List.mem_of_getElem? (i := 1) rfl)) dX6_greatestFile_20 ?_
      refine lv_iload (pc := 23) E.1 E.2 dX6_greatestFile_23 (lv_at hl 0 rfl) ?_
      refine z_rVi (pc := 25) (As := [.int (iI k)]) (rest := []) E hml hown hts (mX2_sizeOf lL G (fun k => o (5 + k)) σ k hI (by omega)) (cwV 1 hts gX6_greatestFile_X2_sizeOf rfl rfl rfl vdX2_sizeOf ⟨Nat.le_of_ble_eq_true rfl, Nat.le_of_ble_eq_true rfl⟩) (oB.recv hK hST.fio rfl) hST.fi hK rfl hl.1 rfl dX6_greatestFile_25 hcs (Nat.le_of_ble_eq_true rfl) ?_
      have hfk := hI.fil (k := k) hk.1 (by omega)
      rw [show (if 0 ≤ k ∧ k < σ 3 then σ (249 + k) else 0) = (σ (249 + k)) from (if_pos (show 0 ≤ k ∧ k < σ 3 from ⟨hk.1, by omega⟩))]
      refine lv_iload_n (pc := 28) E.1 E.2 dX6_greatestFile_28 rfl (lv_at hl 1 rfl) ?_
      refine z_icmp_le (pc := 29) (tgt := 55) E ⟨by omega, by omega⟩ ⟨by omega, by omega⟩ dX6_greatestFile_29 (by decide) (fun h29 => ?_) (fun h29 => ?_)
      · refine lv_iinc (pc := 55) (v := iI (k + 1)) (lv' := [(4, .int (iI (k + 1))), (3, .int (iI w)), (2, .int (iI b)), (0, .ref (o 0)), (1, .int (iI p))]) E.1 E.2 dX6_greatestFile_55 hl (k := 0) rfl (iI_add _ _) (by decide) rfl (fun ls hl => ?_)
        refine lv_goto (pc := 58) (tgt := 7) E.1 E.2 dX6_greatestFile_58 (by decide) ?_
        exact ihL7 b w (k + 1) (by omega) (by rw [show (k + 1).toNat = k.toNat + 1 by omega, gf, Int.toNat_of_nonneg hk.1, ← hb]; by_cases z39 : pjF σ (σ (189 + k)) = p; (by_cases z29 : b = -1 ∨ σ (249 + b) < σ (249 + k); (first | exact (if_pos (And.intro z39 z29)).symm | (exfalso; omega)); (first | exact (if_neg (fun z : _ ∧ _ => z29 z.2)).symm | (exfalso; omega))); (first | exact (if_neg (fun z : _ ∧ _ => z39 z.1)).symm)) (by first | exact hw | (rw [if_neg (by omega)])) (by omega) ls (lv_sub hl [0, 1, 2, 3, 4] rfl)
      · refine lv_aload_n (pc := 32) E.1 E.2 dX6_greatestFile_32 rfl (lv_at hl 3 rfl) ?_
        refine lv_iload (pc := 33) E.1 E.2 dX6_greatestFile_33 (lv_at hl 0 rfl) ?_
        refine z_rVi (pc := 35) (As := [.int (iI k)]) (rest := []) E hml hown hts (mX6_projectOfFile lL G o σ k hI (by omega)) (cwV 1 hts gX6_greatestFile_X6_projectOfFile rfl rfl rfl vdX6_projectOfFile ⟨Nat.le_of_ble_eq_true rfl, Nat.le_of_ble_eq_true rfl⟩) (oB.recv hK hST.1 rfl) hST hK rfl hl.1 rfl dX6_greatestFile_35 hcs (Nat.le_of_ble_eq_true rfl) ?_
        have hpk := hI.pjr (f := σ (189 + k)) (Or.inr hfk.1)
        refine lv_iload_n (pc := 38) E.1 E.2 dX6_greatestFile_38 rfl (lv_at hl 4 rfl) ?_
        refine z_icmp_ne (pc := 39) (tgt := 55) E ⟨by omega, by omega⟩ ⟨by omega, by omega⟩ dX6_greatestFile_39 (by decide) (fun h39 => ?_) (fun h39 => ?_)
        · refine lv_iinc (pc := 55) (v := iI (k + 1)) (lv' := [(4, .int (iI (k + 1))), (3, .int (iI w)), (2, .int (iI b)), (0, .ref (o 0)), (1, .int (iI p))]) E.1 E.2 dX6_greatestFile_55 hl (k := 0) rfl (iI_add _ _) (by decide) rfl (fun ls hl => ?_)
          refine lv_goto (pc := 58) (tgt := 7) E.1 E.2 dX6_greatestFile_58 (by decide) ?_
          exact ihL7 b w (k + 1) (by omega) (by rw [show (k + 1).toNat = k.toNat + 1 by omega, gf, Int.toNat_of_nonneg hk.1, ← hb]; by_cases z39 : pjF σ (σ (189 + k)) = p; (by_cases z29 : b = -1 ∨ σ (249 + b) < σ (249 + k); (first | exact (if_pos (And.intro z39 z29)).symm | (exfalso; omega)); (first | exact (if_neg (fun z : _ ∧ _ => z29 z.2)).symm | (exfalso; omega))); (first | exact (if_neg (fun z : _ ∧ _ => z39 z.1)).symm | (exfalso; exact absurd h39 z39))) (by first | exact hw | (rw [if_neg (by omega)])) (by omega) ls (lv_sub hl [0, 1, 2, 3, 4] rfl)
        · refine lv_iload (pc := 42) E.1 E.2 dX6_greatestFile_42 (lv_at hl 0 rfl) ?_
          refine lv_istore_n (pc := 44) (lv' := [(2, .int (iI k)), (4, .int (iI k)), (3, .int (iI w)), (0, .ref (o 0)), (1, .int (iI p))]) E.1 E.2 dX6_greatestFile_44 rfl hl (by decide) rfl (fun ls hl => ?_)
          refine lv_aload_n (pc := 45) E.1 E.2 dX6_greatestFile_45 rfl (lv_at hl 3 rfl) ?_
          refine g6_1 (pc := 46) E hts hin6 hown hK hST.1 (hts _ (List.mem_of_getElem? (i := 1) rfl)) dX6_greatestFile_46 ?_
          refine lv_iload (pc := 49) E.1 E.2 dX6_greatestFile_49 (lv_at hl 1 rfl) ?_
          refine z_rVi (pc := 51) (As := [.int (iI k)]) (rest := []) E hml hown hts (mX2_sizeOf lL G (fun k => o (5 + k)) σ k hI (by omega)) (cwV 1 hts gX6_greatestFile_X2_sizeOf rfl rfl rfl vdX2_sizeOf ⟨Nat.le_of_ble_eq_true rfl, Nat.le_of_ble_eq_true rfl⟩) (oB.recv hK hST.fio rfl) hST.fi hK rfl hl.1 rfl dX6_greatestFile_51 hcs (Nat.le_of_ble_eq_true rfl) ?_
          rw [show (if 0 ≤ k ∧ k < σ 3 then σ (249 + k) else 0) = (σ (249 + k)) from (if_pos (show 0 ≤ k ∧ k < σ 3 from ⟨hk.1, by omega⟩))]
          refine lv_istore_n (pc := 54) (lv' := [(3, .int (iI (σ (249 + k)))), (2, .int (iI k)), (4, .int (iI k)), (0, .ref (o 0)), (1, .int (iI p))]) E.1 E.2 dX6_greatestFile_54 rfl hl (by decide) rfl (fun ls hl => ?_)
          refine lv_iinc (pc := 55) (v := iI (k + 1)) (lv' := [(4, .int (iI (k + 1))), (3, .int (iI (σ (249 + k)))), (2, .int (iI k)), (0, .ref (o 0)), (1, .int (iI p))]) E.1 E.2 dX6_greatestFile_55 hl (k := 2) rfl (iI_add _ _) (by decide) rfl (fun ls hl => ?_)
          refine lv_goto (pc := 58) (tgt := 7) E.1 E.2 dX6_greatestFile_58 (by decide) ?_
          exact ihL7 k (σ (249 + k)) (k + 1) (by omega) (by rw [show (k + 1).toNat = k.toNat + 1 by omega, gf, Int.toNat_of_nonneg hk.1, ← hb]; by_cases z39 : pjF σ (σ (189 + k)) = p; (by_cases z29 : b = -1 ∨ σ (249 + b) < σ (249 + k); (first | exact (if_pos (And.intro z39 z29)).symm | (exfalso; omega)); (first | exact (if_neg (fun z : _ ∧ _ => z29 z.2)).symm | (exfalso; omega))); (first | exact (if_neg (fun z : _ ∧ _ => z39 z.1)).symm | (exfalso; exact absurd h39 z39))) (by first | exact hw | (rw [if_neg (by omega)])) (by omega) ls (lv_sub hl [0, 1, 2, 3, 4] rfl)
set_option maxHeartbeats 1000000 in
set_option maxRecDepth 100000 in
theorem mX6_roomOf (lL : Launch) (G : GG) (o : Nat → Nat) (σ : Int → Int) (p : Int) (hI : In σ) (hp : -1 ≤ p ∧ p ≤ 7) : Met lL yX6_roomOf wsX6_roomOf ({ frames := 3, cells := 0, slots := 0, locals := 67 } : Room) (va_Pc [.ref (o 0), .int (iI p)] (fun U => ST G o σ U.heap ∧ KK G U)) (vp_Si (fun r => r = (iI (roS σ p)))) 0 0 (fun _ => False) := by
  refine z_met (P := (fun H : Heap => ST G o σ H)) (by decide) rfl (Nat.le_of_ble_eq_true rfl) (fun pp ee ss mm below meth cC E hr hml hown hts hlocks hST hK ls hl => ?_)
  have hl : lv_has ls 4 [(0, .ref (o 0)), (1, .int (iI p))] := hl
  have hcs : 0 ≤ (({ frames := 3, cells := 0, slots := 0, locals := 67 } : Room)).cells ∧ 0 ≤ (({ frames := 3, cells := 0, slots := 0, locals := 67 } : Room)).slots := ⟨Nat.zero_le _, Nat.zero_le _⟩
  have hin6 : ∀ w ∈ wsX60, w ∈ wsX6_roomOf := fun w h => List.mem_cons_of_mem _ (List.mem_append_left _ (List.mem_append_left _ (List.mem_append_right _ (h))))
  have hF := hI.F
  have hMm := hI.M
  have hGn := hI.Gn
  have hTi := hI.ti
  have hGr := hI.gr
  refine lv_iload_n (pc := 0) E.1 E.2 dX6_roomOf_0 rfl (lv_at hl 1 rfl) ?_
  refine z_iconst (pc := 1) E dX6_roomOf_1 ?_
  refine z_icmp_ne (pc := 2) (tgt := 9) E ⟨by omega, by omega⟩ (by decide) dX6_roomOf_2 (by decide) (fun h2 => ?_) (fun h2 => ?_)
  · refine lv_aload_n (pc := 9) E.1 E.2 dX6_roomOf_9 rfl (lv_at hl 0 rfl) ?_
    refine lv_iload_n (pc := 10) E.1 E.2 dX6_roomOf_10 rfl (lv_at hl 1 rfl) ?_
    refine z_iconst (pc := 11) E dX6_roomOf_11 ?_
    refine z_rVi (pc := 12) (As := [.int (iI p), .int (iI 0)]) (rest := []) E hml hown hts (mX6_isGraceOver lL G o σ p 0 hI (by omega) (Or.inl rfl)) (cwV 2 hts gX6_roomOf_X6_isGraceOver rfl rfl rfl vdX6_isGraceOver ⟨Nat.le_of_ble_eq_true rfl, Nat.le_of_ble_eq_true rfl⟩) (oB.recv hK hST.1 rfl) hST hK rfl hl.1 rfl dX6_roomOf_12 hcs (Nat.le_of_ble_eq_true rfl) ?_
    refine z_ifb_eq (pc := 15) (tgt := 20) E dX6_roomOf_15 (by decide) (fun h15 => ?_) (fun h15 => ?_)
    · refine lv_aload_n (pc := 20) E.1 E.2 dX6_roomOf_20 rfl (lv_at hl 0 rfl) ?_
      refine lv_iload_n (pc := 21) E.1 E.2 dX6_roomOf_21 rfl (lv_at hl 1 rfl) ?_
      refine z_iconst (pc := 22) E dX6_roomOf_22 ?_
      refine z_iconst (pc := 23) E dX6_roomOf_23 ?_
      refine z_rVi (pc := 24) (As := [.int (iI p), .int (iI 0), .int (iI 1)]) (rest := []) E hml hown hts (mX6_effectiveLimit lL G o σ p 0 1 hI (by omega) (Or.inl rfl) (Or.inr rfl)) (cwV 3 hts gX6_roomOf_X6_effectiveLimit rfl rfl rfl vdX6_effectiveLimit ⟨Nat.le_of_ble_eq_true rfl, Nat.le_of_ble_eq_true rfl⟩) (oB.recv hK hST.1 rfl) hST hK rfl hl.1 rfl dX6_roomOf_24 hcs (Nat.le_of_ble_eq_true rfl) ?_
      have hlm := hI.lmb (t := 21) (p := p) (k := 0) (Or.inr rfl) (by omega) (Or.inl rfl)
      have hac := hI.acc (k := 2 * p + 0) (by omega) (by omega)
      rw [show (lmS σ (if (1 : Int) = 0 then 5 else 21) p 0) = (lmS σ 21 p 0) from rfl]
      refine lv_istore_n (pc := 27) (lv' := [(2, .int (iI (lmS σ 21 p 0))), (0, .ref (o 0)), (1, .int (iI p))]) E.1 E.2 dX6_roomOf_27 rfl hl (by decide) rfl (fun ls hl => ?_)
      refine lv_iload_n (pc := 28) E.1 E.2 dX6_roomOf_28 rfl (lv_at hl 0 rfl) ?_
      refine z_iconst (pc := 29) E dX6_roomOf_29 ?_
      refine z_icmp_ne (pc := 30) (tgt := 37) E ⟨by omega, by omega⟩ (by decide) dX6_roomOf_30 (by decide) (fun h30 => ?_) (fun h30 => ?_)
      · refine lv_iload_n (pc := 37) E.1 E.2 dX6_roomOf_37 rfl (lv_at hl 0 rfl) ?_
        refine lv_aload_n (pc := 38) E.1 E.2 dX6_roomOf_38 rfl (lv_at hl 1 rfl) ?_
        refine g6_2 (pc := 39) E hts hin6 hown hK hST.1 (hts _ (List.mem_of_getElem? (i := 1) rfl)) dX6_roomOf_39 ?_
        refine lv_iload_n (pc := 42) E.1 E.2 dX6_roomOf_42 rfl (lv_at hl 2 rfl) ?_
        refine z_iconst (pc := 43) E dX6_roomOf_43 ?_
        refine z_rSNi (pc := 44) (P := fun _ => True) (As := [.int (iI p), .int (iI 0)]) (rest := [.ref (o 8), .int (iI (lmS σ 21 p 0))]) E hml hown hts (mX7_accountOf lL G p 0) ⟨va_cnB 2 hts gX6_roomOf_X7_accountOf_n98 rfl rfl rfl hK.2.2.2.2.2.2.2.2.1 (hts _ (List.mem_of_getElem? (i := 21) rfl)) vdX7_accountOf.2 ⟨Nat.le_of_ble_eq_true rfl, Nat.le_of_ble_eq_true rfl⟩, (hts _ (List.mem_of_getElem? (i := 20) rfl)), trivial⟩ trivial hK rfl hl.1 rfl dX6_roomOf_44 hcs (Nat.le_of_ble_eq_true rfl) ?_
        refine z_rVi (pc := 47) (As := [.int (iI (2 * p + 0))]) (rest := [.int (iI (lmS σ 21 p 0))]) E hml hown hts (mX0_amountOf lL G (fun k => o (8 + k)) σ (2 * p + 0)  (by omega)) (cwV 1 hts gX6_roomOf_X0_amountOf rfl rfl rfl vdX0_amountOf ⟨Nat.le_of_ble_eq_true rfl, Nat.le_of_ble_eq_true rfl⟩) (oB.recv hK hST.aco rfl) hST.ac hK rfl hl.1 rfl dX6_roomOf_47 hcs (Nat.le_of_ble_eq_true rfl) ?_
        rw [show (if 0 ≤ (2 * p + 0) ∧ (2 * p + 0) < 16 then σ (37 + (2 * p + 0)) else 0) = (σ (37 + (2 * p + 0))) from (if_pos (by omega))]
        refine z_isub (pc := 50) E dX6_roomOf_50 ?_
        refine lv_istore_n (pc := 51) (lv' := [(3, .int (iI ((lmS σ 21 p 0) - (σ (37 + (2 * p + 0)))))), (2, .int (iI (lmS σ 21 p 0))), (0, .ref (o 0)), (1, .int (iI p))]) E.1 E.2 dX6_roomOf_51 rfl hl (by decide) rfl (fun ls hl => ?_)
        refine lv_iload_n (pc := 52) E.1 E.2 dX6_roomOf_52 rfl (lv_at hl 0 rfl) ?_
        refine z_sipush (pc := 53) E (by decide) dX6_roomOf_53 ?_
        refine z_mmin (pc := 56) (rest := []) E (hml.trans hl.1.symm) hown (hts _ (List.mem_of_getElem? (i := 2) rfl)) (hts _ (List.mem_of_getElem? (i := 3) rfl)) (hts _ (List.mem_of_getElem? (i := 4) rfl)) (hts _ (List.mem_of_getElem? (i := 5) rfl)) (Nat.le_of_ble_eq_true rfl) (Nat.le_of_ble_eq_true rfl) hcs ⟨by omega, by omega⟩ (by decide) dX6_roomOf_56 ?_
        refine z_iconst (pc := 59) E dX6_roomOf_59 ?_
        refine z_mmax (pc := 60) (rest := []) E (hml.trans hl.1.symm) hown (hts _ (List.mem_of_getElem? (i := 6) rfl)) (hts _ (List.mem_of_getElem? (i := 7) rfl)) (hts _ (List.mem_of_getElem? (i := 4) rfl)) (hts _ (List.mem_of_getElem? (i := 8) rfl)) (Nat.le_of_ble_eq_true rfl) (Nat.le_of_ble_eq_true rfl) hcs ⟨by omega, by omega⟩ (by decide) dX6_roomOf_60 ?_
        exact z_retRi E hr (congrArg iI (by unfold roS; first | (rw [if_pos h2]) | (rw [if_neg h2, if_pos h15]) | (rw [if_neg h2, if_neg h15, if_pos h30]) | (rw [if_neg h2, if_neg h15, if_neg h30]))) hlocks dX6_roomOf_63
      · refine z_sipush (pc := 33) E (by decide) dX6_roomOf_33 ?_
        exact z_retRi E hr (congrArg iI (by unfold roS; first | (rw [if_pos h2]) | (rw [if_neg h2, if_pos h15]) | (rw [if_neg h2, if_neg h15, if_pos h30]) | (rw [if_neg h2, if_neg h15, if_neg h30]))) hlocks dX6_roomOf_36
    · refine z_iconst (pc := 18) E dX6_roomOf_18 ?_
      exact z_retRi E hr (congrArg iI (by unfold roS; first | (rw [if_pos h2]) | (rw [if_neg h2, if_pos h15]))) hlocks dX6_roomOf_19
  · refine z_sipush (pc := 5) E (by decide) dX6_roomOf_5 ?_
    exact z_retRi E hr (congrArg iI (by unfold roS; first | (rw [if_pos h2]))) hlocks dX6_roomOf_8
set_option maxHeartbeats 1000000 in
set_option maxRecDepth 100000 in
theorem mX6_openReason (lL : Launch) (G : GG) (o : Nat → Nat) (σ : Int → Int) (f : Int) (t : Int) (hI : In σ) (hf : 0 ≤ f ∧ f < σ 2) (ht : -1 ≤ t ∧ t ≤ 7) : Met lL yX6_openReason wsX6_openReason ({ frames := 4, cells := 0, slots := 0, locals := 113 } : Room) (va_Pc [.ref (o 0), .int (iI f), .int (iI t)] (fun U => ST G o σ U.heap ∧ KK G U)) (vp_Si (fun r => r = (iI (rpS σ f (pjF σ f) t)))) 0 0 (fun _ => False) := by
  refine z_met (P := (fun H : Heap => ST G o σ H)) (by decide) rfl (Nat.le_of_ble_eq_true rfl) (fun pp ee ss mm below meth cC E hr hml hown hts hlocks hST hK ls hl => ?_)
  have hl : lv_has ls 3 [(0, .ref (o 0)), (1, .int (iI f)), (2, .int (iI t))] := hl
  have hcs : 0 ≤ (({ frames := 4, cells := 0, slots := 0, locals := 113 } : Room)).cells ∧ 0 ≤ (({ frames := 4, cells := 0, slots := 0, locals := 113 } : Room)).slots := ⟨Nat.zero_le _, Nat.zero_le _⟩
  have hin6 : ∀ w ∈ wsX60, w ∈ wsX6_openReason := fun w h => List.mem_cons_of_mem _ (List.mem_append_left _ (List.mem_append_left _ (List.mem_append_left _ (List.mem_append_left _ (List.mem_append_right _ (h))))))
  have hF := hI.F
  have hMm := hI.M
  have hGn := hI.Gn
  have hTi := hI.ti
  have hGr := hI.gr
  have hpf := hI.pjr (f := f) (Or.inr hf)
  have ho1 := hI.opb f 1
  have ho0 := hI.opb f 0
  refine lv_aload_n (pc := 0) E.1 E.2 dX6_openReason_0 rfl (lv_at hl 0 rfl) ?_
  refine g6_0 (pc := 1) E hts hin6 hown hK hST.1 (hts _ (List.mem_of_getElem? (i := 1) rfl)) dX6_openReason_1 ?_
  refine lv_iload_n (pc := 4) E.1 E.2 dX6_openReason_4 rfl (lv_at hl 1 rfl) ?_
  refine z_rVi (pc := 5) (As := [.int (iI f)]) (rest := []) E hml hown hts (mX3_projectOf lL G (fun k => o (1 + k)) σ f hI (Or.inr hf)) (cwV 1 hts gX6_openReason_X3_projectOf rfl rfl rfl vdX3_projectOf ⟨Nat.le_of_ble_eq_true rfl, Nat.le_of_ble_eq_true rfl⟩) (oB.recv hK hST.foo rfl) hST.fo hK rfl hl.1 rfl dX6_openReason_5 hcs (Nat.le_of_ble_eq_true rfl) ?_
  refine lv_iload_n (pc := 8) E.1 E.2 dX6_openReason_8 rfl (lv_at hl 2 rfl) ?_
  refine z_icmp_ne (pc := 9) (tgt := 14) E ⟨by omega, by omega⟩ ⟨by omega, by omega⟩ dX6_openReason_9 (by decide) (fun h9 => ?_) (fun h9 => ?_)
  · refine lv_aload_n (pc := 14) E.1 E.2 dX6_openReason_14 rfl (lv_at hl 0 rfl) ?_
    refine lv_iload_n (pc := 15) E.1 E.2 dX6_openReason_15 rfl (lv_at hl 2 rfl) ?_
    refine lv_aload_n (pc := 16) E.1 E.2 dX6_openReason_16 rfl (lv_at hl 0 rfl) ?_
    refine lv_iload_n (pc := 17) E.1 E.2 dX6_openReason_17 rfl (lv_at hl 1 rfl) ?_
    refine z_iconst (pc := 18) E dX6_openReason_18 ?_
    refine z_rVi (pc := 19) (As := [.int (iI f), .int (iI 0)]) (rest := [.int (iI t), .ref (o 0)]) E hml hown hts (mX6_openSum lL G o σ f 0 hI (by omega) (Or.inl rfl)) (cwV 2 hts gX6_openReason_X6_openSum rfl rfl rfl vdX6_openSum ⟨Nat.le_of_ble_eq_true rfl, Nat.le_of_ble_eq_true rfl⟩) (oB.recv hK hST.1 rfl) hST hK rfl hl.1 rfl dX6_openReason_19 hcs (Nat.le_of_ble_eq_true rfl) ?_
    rw [show (opS σ f (1 - 0)) = (opS σ f 1) from rfl]
    refine lv_aload_n (pc := 22) E.1 E.2 dX6_openReason_22 rfl (lv_at hl 0 rfl) ?_
    refine lv_iload_n (pc := 23) E.1 E.2 dX6_openReason_23 rfl (lv_at hl 1 rfl) ?_
    refine z_iconst (pc := 24) E dX6_openReason_24 ?_
    refine z_rVi (pc := 25) (As := [.int (iI f), .int (iI 1)]) (rest := [.int (iI (opS σ f 1)), .int (iI t), .ref (o 0)]) E hml hown hts (mX6_openSum lL G o σ f 1 hI (by omega) (Or.inr rfl)) (cwV 2 hts gX6_openReason_X6_openSum rfl rfl rfl vdX6_openSum ⟨Nat.le_of_ble_eq_true rfl, Nat.le_of_ble_eq_true rfl⟩) (oB.recv hK hST.1 rfl) hST hK rfl hl.1 rfl dX6_openReason_25 hcs (Nat.le_of_ble_eq_true rfl) ?_
    rw [show (opS σ f (1 - 1)) = (opS σ f 0) from rfl]
    refine z_rVi (pc := 28) (As := [.int (iI t), .int (iI (opS σ f 1)), .int (iI (opS σ f 0))]) (rest := []) E hml hown hts (mX6_growthReason lL G o σ t (opS σ f 1) (opS σ f 0) hI (by omega) (by omega) (by omega)) (cwV 3 hts gX6_openReason_X6_growthReason rfl rfl rfl vdX6_growthReason ⟨Nat.le_of_ble_eq_true rfl, Nat.le_of_ble_eq_true rfl⟩) (oB.recv hK hST.1 rfl) hST hK rfl hl.1 rfl dX6_openReason_28 hcs (Nat.le_of_ble_eq_true rfl) ?_
    exact z_retRi E hr (congrArg iI (by unfold rpS; first | (rw [if_pos h9]) | (rw [if_neg h9]))) hlocks dX6_openReason_31
  · refine z_iconst (pc := 12) E dX6_openReason_12 ?_
    exact z_retRi E hr (congrArg iI (by unfold rpS; first | (rw [if_pos h9]) | (rw [if_neg h9]))) hlocks dX6_openReason_13
set_option maxHeartbeats 1000000 in
set_option maxRecDepth 100000 in
theorem mX6_canGive (lL : Launch) (G : GG) (o : Nat → Nat) (σ : Int → Int) (a : Int) (t : Int) (x : Int) (hI : In σ) (ha : 0 ≤ a ∧ a ≤ 7) (ht : 0 ≤ t ∧ t ≤ 7) (hx : -2147483648 ≤ x ∧ x < 2147483648) : Met lL yX6_canGive wsX6_canGive ({ frames := 2, cells := 0, slots := 0, locals := 65 } : Room) (va_Pc [.ref (o 0), .int (iI a), .int (iI t), .int (iI x)] (fun U => ST G o σ U.heap ∧ KK G U)) (vp_Si (fun r => r = (iI (if cgS σ a t x then 1 else 0)))) 0 0 (fun _ => False) := by
  refine z_met (P := (fun H : Heap => ST G o σ H)) (by decide) rfl (Nat.le_of_ble_eq_true rfl) (fun pp ee ss mm below meth cC E hr hml hown hts hlocks hST hK ls hl => ?_)
  have hl : lv_has ls 5 [(0, .ref (o 0)), (1, .int (iI a)), (2, .int (iI t)), (3, .int (iI x))] := hl
  have hcs : 0 ≤ (({ frames := 2, cells := 0, slots := 0, locals := 65 } : Room)).cells ∧ 0 ≤ (({ frames := 2, cells := 0, slots := 0, locals := 65 } : Room)).slots := ⟨Nat.zero_le _, Nat.zero_le _⟩
  have hin6 : ∀ w ∈ wsX60, w ∈ wsX6_canGive := fun w h => List.mem_cons_of_mem _ (List.mem_append_left _ (List.mem_append_left _ (List.mem_append_right _ (h))))
  have hF := hI.F
  have hMm := hI.M
  have hGn := hI.Gn
  have hTi := hI.ti
  have hGr := hI.gr
  have hla := hI.lmb (t := 21) (p := a) (k := 0) (Or.inr rfl) ha (Or.inl rfl)
  have hlt := hI.lmb (t := 21) (p := t) (k := 0) (Or.inr rfl) ht (Or.inl rfl)
  have hac := hI.acc (k := 2 * a + 0) (by omega) (by omega)
  refine lv_aload_n (pc := 0) E.1 E.2 dX6_canGive_0 rfl (lv_at hl 0 rfl) ?_
  refine lv_iload_n (pc := 1) E.1 E.2 dX6_canGive_1 rfl (lv_at hl 1 rfl) ?_
  refine z_iconst (pc := 2) E dX6_canGive_2 ?_
  refine z_iconst (pc := 3) E dX6_canGive_3 ?_
  refine z_rVi (pc := 4) (As := [.int (iI a), .int (iI 0), .int (iI 1)]) (rest := []) E hml hown hts (mX6_effectiveLimit lL G o σ a 0 1 hI (by omega) (Or.inl rfl) (Or.inr rfl)) (cwV 3 hts gX6_canGive_X6_effectiveLimit rfl rfl rfl vdX6_effectiveLimit ⟨Nat.le_of_ble_eq_true rfl, Nat.le_of_ble_eq_true rfl⟩) (oB.recv hK hST.1 rfl) hST hK rfl hl.1 rfl dX6_canGive_4 hcs (Nat.le_of_ble_eq_true rfl) ?_
  rw [show (lmS σ (if (1 : Int) = 0 then 5 else 21) a 0) = (lmS σ 21 a 0) from rfl]
  refine lv_istore (pc := 7) (lv' := [(4, .int (iI (lmS σ 21 a 0))), (0, .ref (o 0)), (1, .int (iI a)), (2, .int (iI t)), (3, .int (iI x))]) E.1 E.2 dX6_canGive_7 hl (by decide) rfl (fun ls hl => ?_)
  refine lv_iload (pc := 9) E.1 E.2 dX6_canGive_9 (lv_at hl 0 rfl) ?_
  refine z_iconst (pc := 11) E dX6_canGive_11 ?_
  refine z_icmp_eq (pc := 12) (tgt := 49) E ⟨by omega, by omega⟩ (by decide) dX6_canGive_12 (by decide) (fun h12 => ?_) (fun h12 => ?_)
  · refine z_iconst (pc := 49) E dX6_canGive_49 ?_
    exact z_retRz E hr rfl (congrArg iI (by first | (refine (if_pos ?_).symm; (repeat' apply And.intro) <;> first | assumption | omega) | (refine (if_neg (fun q => ?_)).symm; first | omega | (obtain ⟨q1, q2⟩ := q; first | contradiction | omega) | (obtain ⟨q1, q2, q3⟩ := q; first | contradiction | omega)))) hlocks dX6_canGive_50
  · refine lv_aload_n (pc := 15) E.1 E.2 dX6_canGive_15 rfl (lv_at hl 1 rfl) ?_
    refine lv_iload_n (pc := 16) E.1 E.2 dX6_canGive_16 rfl (lv_at hl 3 rfl) ?_
    refine z_iconst (pc := 17) E dX6_canGive_17 ?_
    refine z_iconst (pc := 18) E dX6_canGive_18 ?_
    refine z_rVi (pc := 19) (As := [.int (iI t), .int (iI 0), .int (iI 1)]) (rest := []) E hml hown hts (mX6_effectiveLimit lL G o σ t 0 1 hI (by omega) (Or.inl rfl) (Or.inr rfl)) (cwV 3 hts gX6_canGive_X6_effectiveLimit rfl rfl rfl vdX6_effectiveLimit ⟨Nat.le_of_ble_eq_true rfl, Nat.le_of_ble_eq_true rfl⟩) (oB.recv hK hST.1 rfl) hST hK rfl hl.1 rfl dX6_canGive_19 hcs (Nat.le_of_ble_eq_true rfl) ?_
    rw [show (lmS σ (if (1 : Int) = 0 then 5 else 21) t 0) = (lmS σ 21 t 0) from rfl]
    refine z_iconst (pc := 22) E dX6_canGive_22 ?_
    refine z_icmp_eq (pc := 23) (tgt := 49) E ⟨by omega, by omega⟩ (by decide) dX6_canGive_23 (by decide) (fun h23 => ?_) (fun h23 => ?_)
    · refine z_iconst (pc := 49) E dX6_canGive_49 ?_
      exact z_retRz E hr rfl (congrArg iI (by first | (refine (if_pos ?_).symm; (repeat' apply And.intro) <;> first | assumption | omega) | (refine (if_neg (fun q => ?_)).symm; first | omega | (obtain ⟨q1, q2⟩ := q; first | contradiction | omega) | (obtain ⟨q1, q2, q3⟩ := q; first | contradiction | omega)))) hlocks dX6_canGive_50
    · refine lv_iload_n (pc := 26) E.1 E.2 dX6_canGive_26 rfl (lv_at hl 4 rfl) ?_
      refine lv_iload (pc := 27) E.1 E.2 dX6_canGive_27 (lv_at hl 0 rfl) ?_
      refine lv_aload_n (pc := 29) E.1 E.2 dX6_canGive_29 rfl (lv_at hl 1 rfl) ?_
      refine g6_2 (pc := 30) E hts hin6 hown hK hST.1 (hts _ (List.mem_of_getElem? (i := 1) rfl)) dX6_canGive_30 ?_
      refine lv_iload_n (pc := 33) E.1 E.2 dX6_canGive_33 rfl (lv_at hl 2 rfl) ?_
      refine z_iconst (pc := 34) E dX6_canGive_34 ?_
      refine z_rSNi (pc := 35) (P := fun _ => True) (As := [.int (iI a), .int (iI 0)]) (rest := [.ref (o 8), .int (iI (lmS σ 21 a 0)), .int (iI x)]) E hml hown hts (mX7_accountOf lL G a 0) ⟨va_cnB 2 hts gX6_canGive_X7_accountOf_n98 rfl rfl rfl hK.2.2.2.2.2.2.2.2.1 (hts _ (List.mem_of_getElem? (i := 13) rfl)) vdX7_accountOf.2 ⟨Nat.le_of_ble_eq_true rfl, Nat.le_of_ble_eq_true rfl⟩, (hts _ (List.mem_of_getElem? (i := 12) rfl)), trivial⟩ trivial hK rfl hl.1 rfl dX6_canGive_35 hcs (Nat.le_of_ble_eq_true rfl) ?_
      refine z_rVi (pc := 38) (As := [.int (iI (2 * a + 0))]) (rest := [.int (iI (lmS σ 21 a 0)), .int (iI x)]) E hml hown hts (mX0_amountOf lL G (fun k => o (8 + k)) σ (2 * a + 0)  (by omega)) (cwV 1 hts gX6_canGive_X0_amountOf rfl rfl rfl vdX0_amountOf ⟨Nat.le_of_ble_eq_true rfl, Nat.le_of_ble_eq_true rfl⟩) (oB.recv hK hST.aco rfl) hST.ac hK rfl hl.1 rfl dX6_canGive_38 hcs (Nat.le_of_ble_eq_true rfl) ?_
      rw [show (if 0 ≤ (2 * a + 0) ∧ (2 * a + 0) < 16 then σ (37 + (2 * a + 0)) else 0) = (σ (37 + (2 * a + 0))) from (if_pos (by omega))]
      refine z_isub (pc := 41) E dX6_canGive_41 ?_
      refine z_icmp_gt (pc := 42) (tgt := 49) E ⟨by omega, by omega⟩ ⟨by omega, by omega⟩ dX6_canGive_42 (by decide) (fun h42 => ?_) (fun h42 => ?_)
      · refine z_iconst (pc := 49) E dX6_canGive_49 ?_
        exact z_retRz E hr rfl (congrArg iI (by first | (refine (if_pos ?_).symm; (repeat' apply And.intro) <;> first | assumption | omega) | (refine (if_neg (fun q => ?_)).symm; first | omega | (obtain ⟨q1, q2⟩ := q; first | contradiction | omega) | (obtain ⟨q1, q2, q3⟩ := q; first | contradiction | omega)))) hlocks dX6_canGive_50
      · refine z_iconst (pc := 45) E dX6_canGive_45 ?_
        refine lv_goto (pc := 46) (tgt := 50) E.1 E.2 dX6_canGive_46 (by decide) ?_
        exact z_retRz E hr rfl (congrArg iI (by first | (refine (if_pos ?_).symm; (repeat' apply And.intro) <;> first | assumption | omega) | (refine (if_neg (fun q => ?_)).symm; first | omega | (obtain ⟨q1, q2⟩ := q; first | contradiction | omega) | (obtain ⟨q1, q2, q3⟩ := q; first | contradiction | omega)))) hlocks dX6_canGive_50
set_option maxHeartbeats 1000000 in
set_option maxRecDepth 100000 in
theorem mX6_earlierEvent (lL : Launch) (G : GG) (o : Nat → Nat) (σ : Int → Int) (a : Int) (b : Int) (hI : In σ) (ha : -1 ≤ a ∧ a ≤ 19999) (hb : -1 ≤ b ∧ b ≤ 19999) : Met lL yX6_earlierEvent wsX6_earlierEvent ({ frames := 1, cells := 0, slots := 0, locals := 40 } : Room) (va_Pc [.ref (o 0), .int (iI a), .int (iI b)] (fun U => ST G o σ U.heap ∧ KK G U)) (vp_Si (fun r => r = (iI (eeS σ a b)))) 0 0 (fun _ => False) := by
  refine z_met (P := (fun H : Heap => ST G o σ H)) (by decide) rfl (Nat.le_of_ble_eq_true rfl) (fun pp ee ss mm below meth cC E hr hml hown hts hlocks hST hK ls hl => ?_)
  have hl : lv_has ls 3 [(0, .ref (o 0)), (1, .int (iI a)), (2, .int (iI b))] := hl
  have hcs : 0 ≤ (({ frames := 1, cells := 0, slots := 0, locals := 40 } : Room)).cells ∧ 0 ≤ (({ frames := 1, cells := 0, slots := 0, locals := 40 } : Room)).slots := ⟨Nat.zero_le _, Nat.zero_le _⟩
  have hin6 : ∀ w ∈ wsX60, w ∈ wsX6_earlierEvent := fun w h => List.mem_cons_of_mem _ (List.mem_append_right _ (h))
  have hF := hI.F
  have hMm := hI.M
  have hGn := hI.Gn
  have hTi := hI.ti
  have hGr := hI.gr
  refine lv_iload_n (pc := 0) E.1 E.2 dX6_earlierEvent_0 rfl (lv_at hl 1 rfl) ?_
  refine lv_aload_n (pc := 1) E.1 E.2 dX6_earlierEvent_1 rfl (lv_at hl 0 rfl) ?_
  refine g6_4 (pc := 2) E hts hin6 hown hK hST.1 (hts _ (List.mem_of_getElem? (i := 1) rfl)) dX6_earlierEvent_2 ?_
  refine z_icmp_gt (pc := 5) (tgt := 22) E ⟨by omega, by omega⟩ ⟨by omega, by omega⟩ dX6_earlierEvent_5 (by decide) (fun h5 => ?_) (fun h5 => ?_)
  · refine lv_iload_n (pc := 22) E.1 E.2 dX6_earlierEvent_22 rfl (lv_at hl 2 rfl) ?_
    refine lv_aload_n (pc := 23) E.1 E.2 dX6_earlierEvent_23 rfl (lv_at hl 0 rfl) ?_
    refine g6_4 (pc := 24) E hts hin6 hown hK hST.1 (hts _ (List.mem_of_getElem? (i := 1) rfl)) dX6_earlierEvent_24 ?_
    refine z_icmp_le (pc := 27) (tgt := 38) E ⟨by omega, by omega⟩ ⟨by omega, by omega⟩ dX6_earlierEvent_27 (by decide) (fun h27 => ?_) (fun h27 => ?_)
    · refine lv_iload_n (pc := 38) E.1 E.2 dX6_earlierEvent_38 rfl (lv_at hl 1 rfl) ?_
      exact z_retRi E hr (congrArg iI (by unfold eeS; first | (rw [if_pos (by omega), if_pos (by omega)]) | (rw [if_pos (by omega), if_neg (by omega)]) | (rw [if_neg (by omega), if_pos (by omega)]) | (rw [if_neg (by omega), if_neg (by omega)]))) hlocks dX6_earlierEvent_39
    · refine lv_iload_n (pc := 30) E.1 E.2 dX6_earlierEvent_30 rfl (lv_at hl 1 rfl) ?_
      refine lv_iload_n (pc := 31) E.1 E.2 dX6_earlierEvent_31 rfl (lv_at hl 2 rfl) ?_
      refine z_mmin (pc := 32) (rest := []) E (hml.trans hl.1.symm) hown (hts _ (List.mem_of_getElem? (i := 2) rfl)) (hts _ (List.mem_of_getElem? (i := 3) rfl)) (hts _ (List.mem_of_getElem? (i := 4) rfl)) (hts _ (List.mem_of_getElem? (i := 5) rfl)) (Nat.le_of_ble_eq_true rfl) (Nat.le_of_ble_eq_true rfl) hcs ⟨by omega, by omega⟩ ⟨by omega, by omega⟩ dX6_earlierEvent_32 ?_
      refine lv_goto (pc := 35) (tgt := 39) E.1 E.2 dX6_earlierEvent_35 (by decide) ?_
      exact z_retRi E hr (congrArg iI (by unfold eeS; first | (rw [if_pos (by omega), if_pos (by omega)]) | (rw [if_pos (by omega), if_neg (by omega)]) | (rw [if_neg (by omega), if_pos (by omega)]) | (rw [if_neg (by omega), if_neg (by omega)]))) hlocks dX6_earlierEvent_39
  · refine lv_iload_n (pc := 8) E.1 E.2 dX6_earlierEvent_8 rfl (lv_at hl 2 rfl) ?_
    refine lv_aload_n (pc := 9) E.1 E.2 dX6_earlierEvent_9 rfl (lv_at hl 0 rfl) ?_
    refine g6_4 (pc := 10) E hts hin6 hown hK hST.1 (hts _ (List.mem_of_getElem? (i := 1) rfl)) dX6_earlierEvent_10 ?_
    refine z_icmp_le (pc := 13) (tgt := 20) E ⟨by omega, by omega⟩ ⟨by omega, by omega⟩ dX6_earlierEvent_13 (by decide) (fun h13 => ?_) (fun h13 => ?_)
    · refine z_iconst (pc := 20) E dX6_earlierEvent_20 ?_
      exact z_retRi E hr (congrArg iI (by unfold eeS; first | (rw [if_pos (by omega), if_pos (by omega)]) | (rw [if_pos (by omega), if_neg (by omega)]) | (rw [if_neg (by omega), if_pos (by omega)]) | (rw [if_neg (by omega), if_neg (by omega)]))) hlocks dX6_earlierEvent_21
    · refine lv_iload_n (pc := 16) E.1 E.2 dX6_earlierEvent_16 rfl (lv_at hl 2 rfl) ?_
      refine lv_goto (pc := 17) (tgt := 21) E.1 E.2 dX6_earlierEvent_17 (by decide) ?_
      exact z_retRi E hr (congrArg iI (by unfold eeS; first | (rw [if_pos (by omega), if_pos (by omega)]) | (rw [if_pos (by omega), if_neg (by omega)]) | (rw [if_neg (by omega), if_pos (by omega)]) | (rw [if_neg (by omega), if_neg (by omega)]))) hlocks dX6_earlierEvent_21
set_option maxHeartbeats 1000000 in
set_option maxRecDepth 100000 in
theorem mX6_firstGraceEnd (lL : Launch) (G : GG) (o : Nat → Nat) (σ : Int → Int) (hI : In σ) : Met lL yX6_firstGraceEnd wsX6_firstGraceEnd ({ frames := 2, cells := 0, slots := 0, locals := 62 } : Room) (va_Pc [.ref (o 0)] (fun U => ST G o σ U.heap ∧ KK G U)) (vp_Si (fun r => r = (iI (fg σ 16)))) 0 0 (fun _ => False) := by
  refine z_met (P := (fun H : Heap => ST G o σ H)) (by decide) rfl (Nat.le_of_ble_eq_true rfl) (fun pp ee ss mm below meth cC E hr hml hown hts hlocks hST hK ls hl => ?_)
  have hl : lv_has ls 4 [(0, .ref (o 0))] := hl
  have hcs : 0 ≤ (({ frames := 2, cells := 0, slots := 0, locals := 62 } : Room)).cells ∧ 0 ≤ (({ frames := 2, cells := 0, slots := 0, locals := 62 } : Room)).slots := ⟨Nat.zero_le _, Nat.zero_le _⟩
  have hF := hI.F
  have hMm := hI.M
  have hGn := hI.Gn
  have hTi := hI.ti
  have hGr := hI.gr
  refine z_iconst (pc := 0) E dX6_firstGraceEnd_0 ?_
  refine lv_istore_n (pc := 1) (lv' := [(1, .int (iI (-1))), (0, .ref (o 0))]) E.1 E.2 dX6_firstGraceEnd_1 rfl hl (by decide) rfl (fun ls hl => ?_)
  refine z_iconst (pc := 2) E dX6_firstGraceEnd_2 ?_
  refine lv_istore_n (pc := 3) (lv' := [(2, .int (iI 0)), (1, .int (iI (-1))), (0, .ref (o 0))]) E.1 E.2 dX6_firstGraceEnd_3 rfl hl (by decide) rfl (fun ls hl => ?_)
  suffices L4 : ∀ (nf : Nat), ∀ (a p : Int), (0 ≤ p ∧ p ≤ 8) → (-1 ≤ a ∧ a ≤ 19999) → (a = fg σ (2 * p).toNat) → ((8 - p).toNat) < nf → ∀ ls : Array Slot, lv_has ls 4 [(2, .int (iI p)), (1, .int (iI a)), (0, .ref (o 0))] → W pp lL ee ({ frames := 2, cells := 0, slots := 0, locals := 62 } : Room) ss mm [.ref (o 0)].toArray below meth cC ss.heap [] 0 0 (MQ below (vp_Si (fun r => r = (iI (fg σ 16)))) [.ref (o 0)].toArray ss 0 0 (fun _ => False)) (F0 mm 4 ls []) from L4 _ (-1) 0 (by omega) (by omega) rfl (Nat.lt_succ_self _) ls (lv_sub hl [0, 1, 2] rfl)
  intro nfL4
  induction nfL4 with
  | zero => intro a p hp ha hn hmzL4; exact absurd hmzL4 (Nat.not_lt_zero _)
  | succ nfL4 ihL4 =>
    intro a p hp ha hn hmzL4 ls hl
    refine lv_iload_n (pc := 4) E.1 E.2 dX6_firstGraceEnd_4 rfl (lv_at hl 0 rfl) ?_
    refine z_bipush (pc := 5) E (by decide) dX6_firstGraceEnd_5 ?_
    refine z_icmp_ge (pc := 7) (tgt := 41) E ⟨by omega, by omega⟩ (by decide) dX6_firstGraceEnd_7 (by decide) (fun h7 => ?_) (fun h7 => ?_)
    · refine lv_iload_n (pc := 41) E.1 E.2 dX6_firstGraceEnd_41 rfl (lv_at hl 1 rfl) ?_
      exact z_retRi E hr (congrArg iI (by (rw [hn]; congr 1; omega))) hlocks dX6_firstGraceEnd_42
    · refine z_iconst (pc := 10) E dX6_firstGraceEnd_10 ?_
      refine lv_istore_n (pc := 11) (lv' := [(3, .int (iI 0)), (2, .int (iI p)), (1, .int (iI a)), (0, .ref (o 0))]) E.1 E.2 dX6_firstGraceEnd_11 rfl hl (by decide) rfl (fun ls hl => ?_)
      suffices L12 : ∀ (nf : Nat), ∀ (a2 k : Int), (0 ≤ k ∧ k ≤ 2) → (-1 ≤ a2 ∧ a2 ≤ 19999) → (a2 = fg σ (2 * p + k).toNat) → ((2 - k).toNat) < nf → ∀ ls : Array Slot, lv_has ls 4 [(3, .int (iI k)), (2, .int (iI p)), (1, .int (iI a2)), (0, .ref (o 0))] → W pp lL ee ({ frames := 2, cells := 0, slots := 0, locals := 62 } : Room) ss mm [.ref (o 0)].toArray below meth cC ss.heap [] 0 0 (MQ below (vp_Si (fun r => r = (iI (fg σ 16)))) [.ref (o 0)].toArray ss 0 0 (fun _ => False)) (F0 mm 12 ls []) from L12 _ a 0 (by omega) (by omega) (by rw [hn]; congr 1; omega) (Nat.lt_succ_self _) ls (lv_sub hl [0, 1, 2, 3] rfl)
      intro nfL12
      induction nfL12 with
      | zero => intro a2 k hk ha2 hn2 hmzL12; exact absurd hmzL12 (Nat.not_lt_zero _)
      | succ nfL12 ihL12 =>
        intro a2 k hk ha2 hn2 hmzL12 ls hl
        refine lv_iload_n (pc := 12) E.1 E.2 dX6_firstGraceEnd_12 rfl (lv_at hl 0 rfl) ?_
        refine z_iconst (pc := 13) E dX6_firstGraceEnd_13 ?_
        refine z_icmp_ge (pc := 14) (tgt := 35) E ⟨by omega, by omega⟩ (by decide) dX6_firstGraceEnd_14 (by decide) (fun h14 => ?_) (fun h14 => ?_)
        · refine lv_iinc (pc := 35) (v := iI (p + 1)) (lv' := [(2, .int (iI (p + 1))), (3, .int (iI k)), (1, .int (iI a2)), (0, .ref (o 0))]) E.1 E.2 dX6_firstGraceEnd_35 hl (k := 1) rfl (iI_add _ _) (by decide) rfl (fun ls hl => ?_)
          refine lv_goto (pc := 38) (tgt := 4) E.1 E.2 dX6_firstGraceEnd_38 (by decide) ?_
          exact ihL4 a2 (p + 1) (by omega) (by omega) (by rw [hn2]; congr 1; omega) (by omega) ls (lv_sub hl [0, 2, 3] rfl)
        · refine lv_aload_n (pc := 17) E.1 E.2 dX6_firstGraceEnd_17 rfl (lv_at hl 3 rfl) ?_
          refine lv_iload_n (pc := 18) E.1 E.2 dX6_firstGraceEnd_18 rfl (lv_at hl 2 rfl) ?_
          refine lv_aload_n (pc := 19) E.1 E.2 dX6_firstGraceEnd_19 rfl (lv_at hl 3 rfl) ?_
          refine lv_iload_n (pc := 20) E.1 E.2 dX6_firstGraceEnd_20 rfl (lv_at hl 1 rfl) ?_
          refine lv_iload_n (pc := 21) E.1 E.2 dX6_firstGraceEnd_21 rfl (lv_at hl 0 rfl) ?_
          refine z_rVi (pc := 22) (As := [.int (iI p), .int (iI k)]) (rest := [.int (iI a2), .ref (o 0)]) E hml hown hts (mX6_graceEnd lL G o σ p k hI (by omega) (by omega)) (cwV 2 hts gX6_firstGraceEnd_X6_graceEnd rfl rfl rfl vdX6_graceEnd ⟨Nat.le_of_ble_eq_true rfl, Nat.le_of_ble_eq_true rfl⟩) (oB.recv hK hST.1 rfl) hST hK rfl hl.1 rfl dX6_firstGraceEnd_22 hcs (Nat.le_of_ble_eq_true rfl) ?_
          have hge := geS_b hI (p := p) (k := k) (by omega) (by omega)
          refine z_rVi (pc := 25) (As := [.int (iI a2), .int (iI (geS σ p k))]) (rest := []) E hml hown hts (mX6_earlierEvent lL G o σ a2 (geS σ p k) hI (by omega) (by omega)) (cwV 2 hts gX6_firstGraceEnd_X6_earlierEvent rfl rfl rfl vdX6_earlierEvent ⟨Nat.le_of_ble_eq_true rfl, Nat.le_of_ble_eq_true rfl⟩) (oB.recv hK hST.1 rfl) hST hK rfl hl.1 rfl dX6_firstGraceEnd_25 hcs (Nat.le_of_ble_eq_true rfl) ?_
          refine lv_istore_n (pc := 28) (lv' := [(1, .int (iI (eeS σ a2 (geS σ p k)))), (3, .int (iI k)), (2, .int (iI p)), (0, .ref (o 0))]) E.1 E.2 dX6_firstGraceEnd_28 rfl hl (by decide) rfl (fun ls hl => ?_)
          refine lv_iinc (pc := 29) (v := iI (k + 1)) (lv' := [(3, .int (iI (k + 1))), (1, .int (iI (eeS σ a2 (geS σ p k)))), (2, .int (iI p)), (0, .ref (o 0))]) E.1 E.2 dX6_firstGraceEnd_29 hl (k := 1) rfl (iI_add _ _) (by decide) rfl (fun ls hl => ?_)
          refine lv_goto (pc := 32) (tgt := 12) E.1 E.2 dX6_firstGraceEnd_32 (by decide) ?_
          exact ihL12 (eeS σ a2 (geS σ p k)) (k + 1) (by omega) (eeS_b ha2 (by omega)) (by rw [hn2, show (2 * p + (k + 1)).toNat = (2 * p + k).toNat + 1 by omega, fg, Int.toNat_of_nonneg (by omega), show (2 * p + k) / 2 = p by omega, show (2 * p + k) % 2 = k by omega]) (by omega) ls (lv_sub hl [0, 2, 1, 3] rfl)
