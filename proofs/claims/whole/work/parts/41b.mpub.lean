theorem vdX8_keeps : yX8_keeps.cls = RX8 ∧ yX8_keeps.cls ≠ "java/lang/invoke/MethodHandle" ∧ yX8_keeps.cls ≠ "java/lang/invoke/VarHandle" ∧ (parseMethodDescriptor yX8_keeps.desc).map (fun d => d.parameters.length) = some 0 := by decide +kernel
theorem vdX8_becomes : yX8_becomes.cls = RX8 ∧ yX8_becomes.cls ≠ "java/lang/invoke/MethodHandle" ∧ yX8_becomes.cls ≠ "java/lang/invoke/VarHandle" ∧ (parseMethodDescriptor yX8_becomes.desc).map (fun d => d.parameters.length) = some 2 := by decide +kernel
theorem vdX8_named : yX8_named.cls = RX8 ∧ yX8_named.cls ≠ "java/lang/invoke/MethodHandle" ∧ yX8_named.cls ≠ "java/lang/invoke/VarHandle" ∧ (parseMethodDescriptor yX8_named.desc).map (fun d => d.parameters.length) = some 2 := by decide +kernel
theorem vdX8_thrown : yX8_thrown.cls = RX8 ∧ yX8_thrown.cls ≠ "java/lang/invoke/MethodHandle" ∧ yX8_thrown.cls ≠ "java/lang/invoke/VarHandle" ∧ (parseMethodDescriptor yX8_thrown.desc).map (fun d => d.parameters.length) = some 0 := by decide +kernel
theorem vdX8_errorPosition : yX8_errorPosition.cls = RX8 ∧ yX8_errorPosition.cls ≠ "java/lang/invoke/MethodHandle" ∧ yX8_errorPosition.cls ≠ "java/lang/invoke/VarHandle" ∧ (parseMethodDescriptor yX8_errorPosition.desc).map (fun d => d.parameters.length) = some 0 := by decide +kernel
theorem vdX8_find : yX8_find.cls = RX8 ∧ yX8_find.cls ≠ "java/lang/invoke/MethodHandle" ∧ yX8_find.cls ≠ "java/lang/invoke/VarHandle" ∧ (parseMethodDescriptor yX8_find.desc).map (fun d => d.parameters.length) = some 1 := by decide +kernel
theorem vdX8_count : yX8_count.cls = RX8 ∧ yX8_count.cls ≠ "java/lang/invoke/MethodHandle" ∧ yX8_count.cls ≠ "java/lang/invoke/VarHandle" ∧ (parseMethodDescriptor yX8_count.desc).map (fun d => d.parameters.length) = some 1 := by decide +kernel
theorem vdX8_folder : yX8_folder.cls = RX8 ∧ yX8_folder.cls ≠ "java/lang/invoke/MethodHandle" ∧ yX8_folder.cls ≠ "java/lang/invoke/VarHandle" ∧ (parseMethodDescriptor yX8_folder.desc).map (fun d => d.parameters.length) = some 2 := by decide +kernel
theorem vdX8_file : yX8_file.cls = RX8 ∧ yX8_file.cls ≠ "java/lang/invoke/MethodHandle" ∧ yX8_file.cls ≠ "java/lang/invoke/VarHandle" ∧ (parseMethodDescriptor yX8_file.desc).map (fun d => d.parameters.length) = some 2 := by decide +kernel
theorem vdX8_writeReason : yX8_writeReason.cls = RX8 ∧ yX8_writeReason.cls ≠ "java/lang/invoke/MethodHandle" ∧ yX8_writeReason.cls ≠ "java/lang/invoke/VarHandle" ∧ (parseMethodDescriptor yX8_writeReason.desc).map (fun d => d.parameters.length) = some 2 := by decide +kernel
theorem vdX8_tagReason : yX8_tagReason.cls = RX8 ∧ yX8_tagReason.cls ≠ "java/lang/invoke/MethodHandle" ∧ yX8_tagReason.cls ≠ "java/lang/invoke/VarHandle" ∧ (parseMethodDescriptor yX8_tagReason.desc).map (fun d => d.parameters.length) = some 2 := by decide +kernel
theorem vdX8_moveReason : yX8_moveReason.cls = RX8 ∧ yX8_moveReason.cls ≠ "java/lang/invoke/MethodHandle" ∧ yX8_moveReason.cls ≠ "java/lang/invoke/VarHandle" ∧ (parseMethodDescriptor yX8_moveReason.desc).map (fun d => d.parameters.length) = some 2 := by decide +kernel
theorem vdX8_lacks : yX8_lacks.cls = RX8 ∧ yX8_lacks.cls ≠ "java/lang/invoke/MethodHandle" ∧ yX8_lacks.cls ≠ "java/lang/invoke/VarHandle" ∧ (parseMethodDescriptor yX8_lacks.desc).map (fun d => d.parameters.length) = some 2 := by decide +kernel
theorem vdX8_used : yX8_used.cls = RX8 ∧ yX8_used.cls ≠ "java/lang/invoke/MethodHandle" ∧ yX8_used.cls ≠ "java/lang/invoke/VarHandle" ∧ (parseMethodDescriptor yX8_used.desc).map (fun d => d.parameters.length) = some 2 := by decide +kernel
theorem vdX8_counted : yX8_counted.cls = RX8 ∧ yX8_counted.cls ≠ "java/lang/invoke/MethodHandle" ∧ yX8_counted.cls ≠ "java/lang/invoke/VarHandle" ∧ (parseMethodDescriptor yX8_counted.desc).map (fun d => d.parameters.length) = some 2 := by decide +kernel
theorem vdX8_limit : yX8_limit.cls = RX8 ∧ yX8_limit.cls ≠ "java/lang/invoke/MethodHandle" ∧ yX8_limit.cls ≠ "java/lang/invoke/VarHandle" ∧ (parseMethodDescriptor yX8_limit.desc).map (fun d => d.parameters.length) = some 3 := by decide +kernel
theorem vdX8_state : yX8_state.cls = RX8 ∧ yX8_state.cls ≠ "java/lang/invoke/MethodHandle" ∧ yX8_state.cls ≠ "java/lang/invoke/VarHandle" ∧ (parseMethodDescriptor yX8_state.desc).map (fun d => d.parameters.length) = some 2 := by decide +kernel
theorem vdX8_graceLeft : yX8_graceLeft.cls = RX8 ∧ yX8_graceLeft.cls ≠ "java/lang/invoke/MethodHandle" ∧ yX8_graceLeft.cls ≠ "java/lang/invoke/VarHandle" ∧ (parseMethodDescriptor yX8_graceLeft.desc).map (fun d => d.parameters.length) = some 2 := by decide +kernel
theorem vdX8_giftOf : yX8_giftOf.cls = RX8 ∧ yX8_giftOf.cls ≠ "java/lang/invoke/MethodHandle" ∧ yX8_giftOf.cls ≠ "java/lang/invoke/VarHandle" ∧ (parseMethodDescriptor yX8_giftOf.desc).map (fun d => d.parameters.length) = some 2 := by decide +kernel
set_option maxHeartbeats 1000000 in
set_option maxRecDepth 100000 in
theorem mX8_keeps (lL : Launch) (G : GG) (o : Nat → Nat) (μ σ φ κ β ω : Int → Int) (hk : 0 ≤ μ 3 ∧ μ 3 ≤ 8) : Met lL yX8_keeps wsX8_keeps ({ frames := 0, cells := 0, slots := 0, locals := 0 } : Room) (va_Pc [.ref (o 0)] (fun U => W8 G o (mV o μ) σ φ κ β ω U.heap ∧ KK G U)) (va_Qv (fun _ : Unit => True) (fun _ tZ => W8 G o (mV o (zu μ 3 (keM (μ 3)))) σ φ (keK κ σ (μ 3)) β ω tZ.heap) (Ax o 6)) 0 0 (Ax o 6) := by
  refine z_met (P := (fun H : Heap => W8 G o (mV o μ) σ φ κ β ω H)) (by decide) rfl (Nat.le_of_ble_eq_true rfl) (fun pp ee ss mm below meth cC E hr hml hown hts hlocks hM hK ls hl => ?_)
  have hl : lv_has ls 2 [(0, .ref (o 0))] := hl
  have hcs : 0 ≤ (({ frames := 0, cells := 0, slots := 0, locals := 0 } : Room)).cells ∧ 0 ≤ (({ frames := 0, cells := 0, slots := 0, locals := 0 } : Room)).slots := ⟨Nat.zero_le _, Nat.zero_le _⟩
  have hS : va_S (Ax o 6) ss.heap ss.heap [] := va_S.rf
  have hin8 : ∀ w ∈ wsX80, w ∈ wsX8_keeps := fun w h => List.mem_cons_of_mem _ (List.mem_append_right _ (h))
  refine lv_aload_n (pc := 0) E.1 E.2 dX8_keeps_0 rfl (lv_at hl 0 rfl) ?_
  refine g8_3 (pc := 1) E hts hin8 hown hK hM.1 (hts _ (List.mem_of_getElem? (i := 1) rfl)) dX8_keeps_1 ?_
  refine z_bipush (pc := 4) E (by decide) dX8_keeps_4 ?_
  refine z_icmp_ne (pc := 6) (tgt := 50) E ⟨by omega, by omega⟩ (by decide) dX8_keeps_6 (by decide) (fun h6 => ?_) (fun h6 => ?_)
  · refine z_iconst (pc := 50) E dX8_keeps_50 ?_
    refine lv_istore_n (pc := 51) (lv' := [(1, .int (iI 0)), (0, .ref (o 0))]) E.1 E.2 dX8_keeps_51 rfl hl (by decide) rfl (fun ls hl => ?_)
    suffices L52 : ∀ (nf : Nat), ∀ (i : Int), (0 ≤ i ∧ i ≤ 357) → ((357 - i).toNat) < nf → ∀  (H : Heap) (locs : List Loc), W8 G o [.ref (o 1), .ref (o 2), .ref (o 3), .int (iI (μ 3)), .int (iI (μ 4)), .ref (o 4), .int (iI (μ 6)), .int (iI (μ 7)), .int (iI (μ 8)), .int (iI (μ 9)), .int (iI (μ 10)), .int (iI (μ 11)), .int (iI (μ 12)), .int (iI (μ 13)), .int (iI (μ 14)), .long (iL (μ 15)), .ref (o 5), .int (iI (μ 17))] σ φ (sh2 κ σ (357 * (μ 3)) i) β ω H → va_S (Ax o 6) ss.heap H locs → ∀ ls : Array Slot, lv_has ls 2 [(1, .int (iI i)), (0, .ref (o 0))] → W pp lL ee ({ frames := 0, cells := 0, slots := 0, locals := 0 } : Room) ss mm [.ref (o 0)].toArray below meth cC H locs 0 0 (MQ below (va_Qv (fun _ : Unit => True) (fun _ tZ => W8 G o (mV o (zu μ 3 (keM (μ 3)))) σ φ (keK κ σ (μ 3)) β ω tZ.heap) (Ax o 6)) [.ref (o 0)].toArray ss 0 0 (Ax o 6)) (F0 mm 52 ls []) from L52 _ 0 (by omega) (Nat.lt_succ_self _)  _ _ (by rw [sh2_0]; exact hM) hS ls (lv_sub hl [0, 1] rfl)
    intro nfL52
    induction nfL52 with
    | zero => intro i hi hmzL52; exact absurd hmzL52 (Nat.not_lt_zero _)
    | succ nfL52 ihL52 =>
      intro i hi hmzL52  H locs hM hS ls hl
      refine lv_iload_n (pc := 52) E.1 E.2 dX8_keeps_52 rfl (lv_at hl 0 rfl) ?_
      refine z_sipush (pc := 53) E (by decide) dX8_keeps_53 ?_
      refine z_icmp_ge (pc := 56) (tgt := 86) E ⟨by omega, by omega⟩ (by decide) dX8_keeps_56 (by decide) (fun h56 => ?_) (fun h56 => ?_)
      · have ei : i = 357 := by omega
        subst ei
        refine lv_aload_n (pc := 86) E.1 E.2 dX8_keeps_86 rfl (lv_at hl 1 rfl) ?_
        refine lv_dup (pc := 87) E.1 E.2 dX8_keeps_87 rfl ?_
        refine g8_3 (pc := 88) E hts hin8 hown hK hM.1 (hts _ (List.mem_of_getElem? (i := 1) rfl)) dX8_keeps_88 ?_
        refine z_iconst (pc := 91) E dX8_keeps_91 ?_
        refine z_iadd (pc := 92) E dX8_keeps_92 ?_
        refine p8_3 (pc := 93) E hts hin8 hown hK hM.1 hS (Ax.at 0 (by decide)) (hts _ (List.mem_of_getElem? (i := 1) rfl)) dX8_keeps_93 (fun H locs hnew hoth hS => ?_)
        have hM := W8.p hM hnew (fun a _ h => hoth a h)
        exact z_retWv E hr (by have e2 : keK κ σ (μ 3) = sh2 κ σ (357 * μ 3) 357 := (by unfold keK; rw [if_neg h6]); have e3 : μ 3 + 1 = keM (μ 3) := (by unfold keM; rw [if_neg h6]); rw [e3, ← e2] at hM; exact W8.mu hM (by simp only [mV, zu, Int.reduceEq, reduceIte])) hS hlocks dX8_keeps_96
      · refine lv_aload_n (pc := 59) E.1 E.2 dX8_keeps_59 rfl (lv_at hl 1 rfl) ?_
        refine g8_2 (pc := 60) E hts hin8 hown hK hM.1 (hts _ (List.mem_of_getElem? (i := 2) rfl)) dX8_keeps_60 ?_
        refine z_sipush (pc := 63) E (by decide) dX8_keeps_63 ?_
        refine lv_aload_n (pc := 66) E.1 E.2 dX8_keeps_66 rfl (lv_at hl 1 rfl) ?_
        refine g8_3 (pc := 67) E hts hin8 hown hK hM.1 (hts _ (List.mem_of_getElem? (i := 1) rfl)) dX8_keeps_67 ?_
        refine z_imul (pc := 70) E dX8_keeps_70 ?_
        refine lv_iload_n (pc := 71) E.1 E.2 dX8_keeps_71 rfl (lv_at hl 0 rfl) ?_
        refine z_iadd (pc := 72) E dX8_keeps_72 ?_
        refine lv_aload_n (pc := 73) E.1 E.2 dX8_keeps_73 rfl (lv_at hl 1 rfl) ?_
        refine g8_0 (pc := 74) E hts hin8 hown hK hM.1 (hts _ (List.mem_of_getElem? (i := 3) rfl)) dX8_keeps_74 ?_
        refine lv_iload_n (pc := 77) E.1 E.2 dX8_keeps_77 rfl (lv_at hl 0 rfl) ?_
        refine z_laload (pc := 78) E hK hM.2.1 ⟨by omega, by omega⟩ (by decide) dX8_keeps_78 ?_
        refine z_lastore (pc := 79) E hK hM.2.2.2.1 hS (Ax.at 3 (by decide)) ⟨by omega, by omega⟩ (by decide) dX8_keeps_79 (fun H locs hnew hoth hS => ?_)
        have hM := W8.a3 hM hnew (fun a _ h => hoth a h)
        refine lv_iinc (pc := 80) (v := iI (i + 1)) (lv' := [(1, .int (iI (i + 1))), (0, .ref (o 0))]) E.1 E.2 dX8_keeps_80 hl (k := 0) rfl (iI_add _ _) (by decide) rfl (fun ls hl => ?_)
        refine lv_goto (pc := 83) (tgt := 52) E.1 E.2 dX8_keeps_83 (by decide) ?_
        exact ihL52 (i + 1) (by omega) (by omega)  _ _ (by rw [← sh2_s κ σ (357 * (μ 3)) hi.1]; exact hM) hS ls (lv_sub hl [0, 1] rfl)
  · refine z_iconst (pc := 9) E dX8_keeps_9 ?_
    refine lv_istore_n (pc := 10) (lv' := [(1, .int (iI 0)), (0, .ref (o 0))]) E.1 E.2 dX8_keeps_10 rfl hl (by decide) rfl (fun ls hl => ?_)
    suffices L11 : ∀ (nf : Nat), ∀ (i : Int), (0 ≤ i ∧ i ≤ 2499) → ((2499 - i).toNat) < nf → ∀  (H : Heap) (locs : List Loc), W8 G o [.ref (o 1), .ref (o 2), .ref (o 3), .int (iI (μ 3)), .int (iI (μ 4)), .ref (o 4), .int (iI (μ 6)), .int (iI (μ 7)), .int (iI (μ 8)), .int (iI (μ 9)), .int (iI (μ 10)), .int (iI (μ 11)), .int (iI (μ 12)), .int (iI (μ 13)), .int (iI (μ 14)), .long (iL (μ 15)), .ref (o 5), .int (iI (μ 17))] σ φ (sh1 κ i) β ω H → va_S (Ax o 6) ss.heap H locs → ∀ ls : Array Slot, lv_has ls 2 [(1, .int (iI i)), (0, .ref (o 0))] → W pp lL ee ({ frames := 0, cells := 0, slots := 0, locals := 0 } : Room) ss mm [.ref (o 0)].toArray below meth cC H locs 0 0 (MQ below (va_Qv (fun _ : Unit => True) (fun _ tZ => W8 G o (mV o (zu μ 3 (keM (μ 3)))) σ φ (keK κ σ (μ 3)) β ω tZ.heap) (Ax o 6)) [.ref (o 0)].toArray ss 0 0 (Ax o 6)) (F0 mm 11 ls []) from L11 _ 0 (by omega) (Nat.lt_succ_self _)  _ _ (by rw [sh1_0]; exact hM) hS ls (lv_sub hl [0, 1] rfl)
    intro nfL11
    induction nfL11 with
    | zero => intro i hi hmzL11; exact absurd hmzL11 (Nat.not_lt_zero _)
    | succ nfL11 ihL11 =>
      intro i hi hmzL11  H locs hM hS ls hl
      refine lv_iload_n (pc := 11) E.1 E.2 dX8_keeps_11 rfl (lv_at hl 0 rfl) ?_
      refine z_sipush (pc := 12) E (by decide) dX8_keeps_12 ?_
      refine z_icmp_ge (pc := 15) (tgt := 40) E ⟨by omega, by omega⟩ (by decide) dX8_keeps_15 (by decide) (fun h15 => ?_) (fun h15 => ?_)
      · have ei : i = 2499 := by omega
        subst ei
        refine lv_aload_n (pc := 40) E.1 E.2 dX8_keeps_40 rfl (lv_at hl 1 rfl) ?_
        refine lv_dup (pc := 41) E.1 E.2 dX8_keeps_41 rfl ?_
        refine g8_3 (pc := 42) E hts hin8 hown hK hM.1 (hts _ (List.mem_of_getElem? (i := 1) rfl)) dX8_keeps_42 ?_
        refine z_iconst (pc := 45) E dX8_keeps_45 ?_
        refine z_isub (pc := 46) E dX8_keeps_46 ?_
        refine p8_3 (pc := 47) E hts hin8 hown hK hM.1 hS (Ax.at 0 (by decide)) (hts _ (List.mem_of_getElem? (i := 1) rfl)) dX8_keeps_47 (fun H locs hnew hoth hS => ?_)
        have hM := W8.p hM hnew (fun a _ h => hoth a h)
        refine z_iconst (pc := 50) E dX8_keeps_50 ?_
        refine lv_istore_n (pc := 51) (lv' := [(1, .int (iI 0)), (0, .ref (o 0))]) E.1 E.2 dX8_keeps_51 rfl hl (by decide) rfl (fun ls hl => ?_)
        suffices L52 : ∀ (nf : Nat), ∀ (i : Int), (0 ≤ i ∧ i ≤ 357) → ((357 - i).toNat) < nf → ∀  (H : Heap) (locs : List Loc), W8 G o [.ref (o 1), .ref (o 2), .ref (o 3), .int (iI ((μ 3) - 1)), .int (iI (μ 4)), .ref (o 4), .int (iI (μ 6)), .int (iI (μ 7)), .int (iI (μ 8)), .int (iI (μ 9)), .int (iI (μ 10)), .int (iI (μ 11)), .int (iI (μ 12)), .int (iI (μ 13)), .int (iI (μ 14)), .long (iL (μ 15)), .ref (o 5), .int (iI (μ 17))] σ φ (sh2 (sh1 κ 2499) σ (357 * ((μ 3) - 1)) i) β ω H → va_S (Ax o 6) ss.heap H locs → ∀ ls : Array Slot, lv_has ls 2 [(1, .int (iI i)), (0, .ref (o 0))] → W pp lL ee ({ frames := 0, cells := 0, slots := 0, locals := 0 } : Room) ss mm [.ref (o 0)].toArray below meth cC H locs 0 0 (MQ below (va_Qv (fun _ : Unit => True) (fun _ tZ => W8 G o (mV o (zu μ 3 (keM (μ 3)))) σ φ (keK κ σ (μ 3)) β ω tZ.heap) (Ax o 6)) [.ref (o 0)].toArray ss 0 0 (Ax o 6)) (F0 mm 52 ls []) from L52 _ 0 (by omega) (Nat.lt_succ_self _)  _ _ (by rw [sh2_0]; exact hM) hS ls (lv_sub hl [0, 1] rfl)
        intro nfL52
        induction nfL52 with
        | zero => intro i hi hmzL52; exact absurd hmzL52 (Nat.not_lt_zero _)
        | succ nfL52 ihL52 =>
          intro i hi hmzL52  H locs hM hS ls hl
          refine lv_iload_n (pc := 52) E.1 E.2 dX8_keeps_52 rfl (lv_at hl 0 rfl) ?_
          refine z_sipush (pc := 53) E (by decide) dX8_keeps_53 ?_
          refine z_icmp_ge (pc := 56) (tgt := 86) E ⟨by omega, by omega⟩ (by decide) dX8_keeps_56 (by decide) (fun h56 => ?_) (fun h56 => ?_)
          · have ei : i = 357 := by omega
            subst ei
            refine lv_aload_n (pc := 86) E.1 E.2 dX8_keeps_86 rfl (lv_at hl 1 rfl) ?_
            refine lv_dup (pc := 87) E.1 E.2 dX8_keeps_87 rfl ?_
            refine g8_3 (pc := 88) E hts hin8 hown hK hM.1 (hts _ (List.mem_of_getElem? (i := 1) rfl)) dX8_keeps_88 ?_
            refine z_iconst (pc := 91) E dX8_keeps_91 ?_
            refine z_iadd (pc := 92) E dX8_keeps_92 ?_
            refine p8_3 (pc := 93) E hts hin8 hown hK hM.1 hS (Ax.at 0 (by decide)) (hts _ (List.mem_of_getElem? (i := 1) rfl)) dX8_keeps_93 (fun H locs hnew hoth hS => ?_)
            have hM := W8.p hM hnew (fun a _ h => hoth a h)
            exact z_retWv E hr (by have e1 : (357 * (μ 3 - 1) : Int) = 357 * 7 := (by omega); have e2 : keK κ σ (μ 3) = sh2 (sh1 κ 2499) σ (357 * 7) 357 := (by unfold keK; rw [if_pos h6]); have e3 : μ 3 - 1 + 1 = keM (μ 3) := (by unfold keM; rw [if_pos h6]; omega); rw [e3, e1, ← e2] at hM; exact W8.mu hM (by simp only [mV, zu, Int.reduceEq, reduceIte])) hS hlocks dX8_keeps_96
          · refine lv_aload_n (pc := 59) E.1 E.2 dX8_keeps_59 rfl (lv_at hl 1 rfl) ?_
            refine g8_2 (pc := 60) E hts hin8 hown hK hM.1 (hts _ (List.mem_of_getElem? (i := 2) rfl)) dX8_keeps_60 ?_
            refine z_sipush (pc := 63) E (by decide) dX8_keeps_63 ?_
            refine lv_aload_n (pc := 66) E.1 E.2 dX8_keeps_66 rfl (lv_at hl 1 rfl) ?_
            refine g8_3 (pc := 67) E hts hin8 hown hK hM.1 (hts _ (List.mem_of_getElem? (i := 1) rfl)) dX8_keeps_67 ?_
            refine z_imul (pc := 70) E dX8_keeps_70 ?_
            refine lv_iload_n (pc := 71) E.1 E.2 dX8_keeps_71 rfl (lv_at hl 0 rfl) ?_
            refine z_iadd (pc := 72) E dX8_keeps_72 ?_
            refine lv_aload_n (pc := 73) E.1 E.2 dX8_keeps_73 rfl (lv_at hl 1 rfl) ?_
            refine g8_0 (pc := 74) E hts hin8 hown hK hM.1 (hts _ (List.mem_of_getElem? (i := 3) rfl)) dX8_keeps_74 ?_
            refine lv_iload_n (pc := 77) E.1 E.2 dX8_keeps_77 rfl (lv_at hl 0 rfl) ?_
            refine z_laload (pc := 78) E hK hM.2.1 ⟨by omega, by omega⟩ (by decide) dX8_keeps_78 ?_
            refine z_lastore (pc := 79) E hK hM.2.2.2.1 hS (Ax.at 3 (by decide)) ⟨by omega, by omega⟩ (by decide) dX8_keeps_79 (fun H locs hnew hoth hS => ?_)
            have hM := W8.a3 hM hnew (fun a _ h => hoth a h)
            refine lv_iinc (pc := 80) (v := iI (i + 1)) (lv' := [(1, .int (iI (i + 1))), (0, .ref (o 0))]) E.1 E.2 dX8_keeps_80 hl (k := 0) rfl (iI_add _ _) (by decide) rfl (fun ls hl => ?_)
            refine lv_goto (pc := 83) (tgt := 52) E.1 E.2 dX8_keeps_83 (by decide) ?_
            exact ihL52 (i + 1) (by omega) (by omega)  _ _ (by rw [← sh2_s (sh1 κ 2499) σ (357 * ((μ 3) - 1)) hi.1]; exact hM) hS ls (lv_sub hl [0, 1] rfl)
      · refine lv_aload_n (pc := 18) E.1 E.2 dX8_keeps_18 rfl (lv_at hl 1 rfl) ?_
        refine g8_2 (pc := 19) E hts hin8 hown hK hM.1 (hts _ (List.mem_of_getElem? (i := 2) rfl)) dX8_keeps_19 ?_
        refine lv_iload_n (pc := 22) E.1 E.2 dX8_keeps_22 rfl (lv_at hl 0 rfl) ?_
        refine lv_aload_n (pc := 23) E.1 E.2 dX8_keeps_23 rfl (lv_at hl 1 rfl) ?_
        refine g8_2 (pc := 24) E hts hin8 hown hK hM.1 (hts _ (List.mem_of_getElem? (i := 2) rfl)) dX8_keeps_24 ?_
        refine lv_iload_n (pc := 27) E.1 E.2 dX8_keeps_27 rfl (lv_at hl 0 rfl) ?_
        refine z_sipush (pc := 28) E (by decide) dX8_keeps_28 ?_
        refine z_iadd (pc := 31) E dX8_keeps_31 ?_
        refine z_laload (pc := 32) E hK hM.2.2.2.1 ⟨by omega, by omega⟩ (by decide) dX8_keeps_32 ?_
        refine z_lastore (pc := 33) E hK hM.2.2.2.1 hS (Ax.at 3 (by decide)) ⟨by omega, by omega⟩ (by decide) dX8_keeps_33 (fun H locs hnew hoth hS => ?_)
        have hM := W8.a3 hM hnew (fun a _ h => hoth a h)
        refine lv_iinc (pc := 34) (v := iI (i + 1)) (lv' := [(1, .int (iI (i + 1))), (0, .ref (o 0))]) E.1 E.2 dX8_keeps_34 hl (k := 0) rfl (iI_add _ _) (by decide) rfl (fun ls hl => ?_)
        refine lv_goto (pc := 37) (tgt := 11) E.1 E.2 dX8_keeps_37 (by decide) ?_
        exact ihL11 (i + 1) (by omega) (by omega)  _ _ (by rw [← sh1_s κ hi.1]; exact hM) hS ls (lv_sub hl [0, 1] rfl)
set_option maxHeartbeats 1000000 in
set_option maxRecDepth 100000 in
theorem mX8_becomesF (lL : Launch) (G : GG) (o : Nat → Nat) (μ σ φ κ β ω : Int → Int) (fr : Int) (hfr : 0 ≤ fr ∧ fr + 357 ≤ 357) : Met lL yX8_becomes wsX8_becomes ({ frames := 0, cells := 0, slots := 0, locals := 0 } : Room) (va_Pc [.ref (o 0), .ref (o 2), .int (iI fr)] (fun U => W8 G o (mV o μ) σ φ κ β ω U.heap ∧ KK G U)) (va_Qv (fun _ : Unit => True) (fun _ tZ => W8 G o (mV o μ) (beA σ φ fr 357) φ κ β ω tZ.heap) (Ax o 6)) 0 0 (Ax o 6) := by
  refine z_met (P := (fun H : Heap => W8 G o (mV o μ) σ φ κ β ω H)) (by decide) rfl (Nat.le_of_ble_eq_true rfl) (fun pp ee ss mm below meth cC E hr hml hown hts hlocks hM hK ls hl => ?_)
  have hl : lv_has ls 4 [(0, .ref (o 0)), (1, .ref (o 2)), (2, .int (iI fr))] := hl
  have hcs : 0 ≤ (({ frames := 0, cells := 0, slots := 0, locals := 0 } : Room)).cells ∧ 0 ≤ (({ frames := 0, cells := 0, slots := 0, locals := 0 } : Room)).slots := ⟨Nat.zero_le _, Nat.zero_le _⟩
  have hS : va_S (Ax o 6) ss.heap ss.heap [] := va_S.rf
  have hin8 : ∀ w ∈ wsX80, w ∈ wsX8_becomes := fun w h => List.mem_cons_of_mem _ (List.mem_append_right _ (h))
  refine z_iconst (pc := 0) E dX8_becomes_0 ?_
  refine lv_istore_n (pc := 1) (lv' := [(3, .int (iI 0)), (0, .ref (o 0)), (1, .ref (o 2)), (2, .int (iI fr))]) E.1 E.2 dX8_becomes_1 rfl hl (by decide) rfl (fun ls hl => ?_)
  suffices L2 : ∀ (nf : Nat), ∀ (i : Int), (0 ≤ i ∧ i ≤ 357) → ((357 - i).toNat) < nf → ∀  (H : Heap) (locs : List Loc), W8 G o [.ref (o 1), .ref (o 2), .ref (o 3), .int (iI (μ 3)), .int (iI (μ 4)), .ref (o 4), .int (iI (μ 6)), .int (iI (μ 7)), .int (iI (μ 8)), .int (iI (μ 9)), .int (iI (μ 10)), .int (iI (μ 11)), .int (iI (μ 12)), .int (iI (μ 13)), .int (iI (μ 14)), .long (iL (μ 15)), .ref (o 5), .int (iI (μ 17))] (beA σ φ fr i) φ κ β ω H → va_S (Ax o 6) ss.heap H locs → ∀ ls : Array Slot, lv_has ls 4 [(3, .int (iI i)), (0, .ref (o 0)), (1, .ref (o 2)), (2, .int (iI fr))] → W pp lL ee ({ frames := 0, cells := 0, slots := 0, locals := 0 } : Room) ss mm [.ref (o 0), .ref (o 2), .int (iI fr)].toArray below meth cC H locs 0 0 (MQ below (va_Qv (fun _ : Unit => True) (fun _ tZ => W8 G o (mV o μ) (beA σ φ fr 357) φ κ β ω tZ.heap) (Ax o 6)) [.ref (o 0), .ref (o 2), .int (iI fr)].toArray ss 0 0 (Ax o 6)) (F0 mm 2 ls []) from L2 _ 0 (by omega) (Nat.lt_succ_self _)  _ _ (by rw [beA_0]; exact hM) hS ls (lv_sub hl [0, 1, 2, 3] rfl)
  intro nfL2
  induction nfL2 with
  | zero => intro i hi hmzL2; exact absurd hmzL2 (Nat.not_lt_zero _)
  | succ nfL2 ihL2 =>
    intro i hi hmzL2  H locs hM hS ls hl
    refine lv_iload_n (pc := 2) E.1 E.2 dX8_becomes_2 rfl (lv_at hl 0 rfl) ?_
    refine z_sipush (pc := 3) E (by decide) dX8_becomes_3 ?_
    refine z_icmp_ge (pc := 6) (tgt := 26) E ⟨by omega, by omega⟩ (by decide) dX8_becomes_6 (by decide) (fun h6 => ?_) (fun h6 => ?_)
    · have ei : i = 357 := by omega
      subst ei
      exact z_retWv E hr hM hS hlocks dX8_becomes_26
    · refine lv_aload_n (pc := 9) E.1 E.2 dX8_becomes_9 rfl (lv_at hl 1 rfl) ?_
      refine g8_0 (pc := 10) E hts hin8 hown hK hM.1 (hts _ (List.mem_of_getElem? (i := 1) rfl)) dX8_becomes_10 ?_
      refine lv_iload_n (pc := 13) E.1 E.2 dX8_becomes_13 rfl (lv_at hl 0 rfl) ?_
      refine lv_aload_n (pc := 14) E.1 E.2 dX8_becomes_14 rfl (lv_at hl 2 rfl) ?_
      refine lv_iload_n (pc := 15) E.1 E.2 dX8_becomes_15 rfl (lv_at hl 3 rfl) ?_
      refine lv_iload_n (pc := 16) E.1 E.2 dX8_becomes_16 rfl (lv_at hl 0 rfl) ?_
      refine z_iadd (pc := 17) E dX8_becomes_17 ?_
      refine z_laload (pc := 18) E hK hM.2.2.1 ⟨by omega, by omega⟩ (by decide) dX8_becomes_18 ?_
      refine z_lastore (pc := 19) E hK hM.2.1 hS (Ax.at 1 (by decide)) ⟨by omega, by omega⟩ (by decide) dX8_becomes_19 (fun H locs hnew hoth hS => ?_)
      have hM := W8.a1 hM hnew (fun a _ h => hoth a h)
      refine lv_iinc (pc := 20) (v := iI (i + 1)) (lv' := [(3, .int (iI (i + 1))), (0, .ref (o 0)), (1, .ref (o 2)), (2, .int (iI fr))]) E.1 E.2 dX8_becomes_20 hl (k := 0) rfl (iI_add _ _) (by decide) rfl (fun ls hl => ?_)
      refine lv_goto (pc := 23) (tgt := 2) E.1 E.2 dX8_becomes_23 (by decide) ?_
      exact ihL2 (i + 1) (by omega) (by omega)  _ _ (by rw [← beA_s σ φ fr hi.1]; exact hM) hS ls (lv_sub hl [0, 1, 2, 3] rfl)
set_option maxHeartbeats 1000000 in
set_option maxRecDepth 100000 in
theorem mX8_becomesK (lL : Launch) (G : GG) (o : Nat → Nat) (μ σ φ κ β ω : Int → Int) (fr : Int) (hfr : 0 ≤ fr ∧ fr + 357 ≤ 2856) : Met lL yX8_becomes wsX8_becomes ({ frames := 0, cells := 0, slots := 0, locals := 0 } : Room) (va_Pc [.ref (o 0), .ref (o 3), .int (iI fr)] (fun U => W8 G o (mV o μ) σ φ κ β ω U.heap ∧ KK G U)) (va_Qv (fun _ : Unit => True) (fun _ tZ => W8 G o (mV o μ) (beA σ κ fr 357) φ κ β ω tZ.heap) (Ax o 6)) 0 0 (Ax o 6) := by
  refine z_met (P := (fun H : Heap => W8 G o (mV o μ) σ φ κ β ω H)) (by decide) rfl (Nat.le_of_ble_eq_true rfl) (fun pp ee ss mm below meth cC E hr hml hown hts hlocks hM hK ls hl => ?_)
  have hl : lv_has ls 4 [(0, .ref (o 0)), (1, .ref (o 3)), (2, .int (iI fr))] := hl
  have hcs : 0 ≤ (({ frames := 0, cells := 0, slots := 0, locals := 0 } : Room)).cells ∧ 0 ≤ (({ frames := 0, cells := 0, slots := 0, locals := 0 } : Room)).slots := ⟨Nat.zero_le _, Nat.zero_le _⟩
  have hS : va_S (Ax o 6) ss.heap ss.heap [] := va_S.rf
  have hin8 : ∀ w ∈ wsX80, w ∈ wsX8_becomes := fun w h => List.mem_cons_of_mem _ (List.mem_append_right _ (h))
  refine z_iconst (pc := 0) E dX8_becomes_0 ?_
  refine lv_istore_n (pc := 1) (lv' := [(3, .int (iI 0)), (0, .ref (o 0)), (1, .ref (o 3)), (2, .int (iI fr))]) E.1 E.2 dX8_becomes_1 rfl hl (by decide) rfl (fun ls hl => ?_)
  suffices L2 : ∀ (nf : Nat), ∀ (i : Int), (0 ≤ i ∧ i ≤ 357) → ((357 - i).toNat) < nf → ∀  (H : Heap) (locs : List Loc), W8 G o [.ref (o 1), .ref (o 2), .ref (o 3), .int (iI (μ 3)), .int (iI (μ 4)), .ref (o 4), .int (iI (μ 6)), .int (iI (μ 7)), .int (iI (μ 8)), .int (iI (μ 9)), .int (iI (μ 10)), .int (iI (μ 11)), .int (iI (μ 12)), .int (iI (μ 13)), .int (iI (μ 14)), .long (iL (μ 15)), .ref (o 5), .int (iI (μ 17))] (beA σ κ fr i) φ κ β ω H → va_S (Ax o 6) ss.heap H locs → ∀ ls : Array Slot, lv_has ls 4 [(3, .int (iI i)), (0, .ref (o 0)), (1, .ref (o 3)), (2, .int (iI fr))] → W pp lL ee ({ frames := 0, cells := 0, slots := 0, locals := 0 } : Room) ss mm [.ref (o 0), .ref (o 3), .int (iI fr)].toArray below meth cC H locs 0 0 (MQ below (va_Qv (fun _ : Unit => True) (fun _ tZ => W8 G o (mV o μ) (beA σ κ fr 357) φ κ β ω tZ.heap) (Ax o 6)) [.ref (o 0), .ref (o 3), .int (iI fr)].toArray ss 0 0 (Ax o 6)) (F0 mm 2 ls []) from L2 _ 0 (by omega) (Nat.lt_succ_self _)  _ _ (by rw [beA_0]; exact hM) hS ls (lv_sub hl [0, 1, 2, 3] rfl)
  intro nfL2
  induction nfL2 with
  | zero => intro i hi hmzL2; exact absurd hmzL2 (Nat.not_lt_zero _)
  | succ nfL2 ihL2 =>
    intro i hi hmzL2  H locs hM hS ls hl
    refine lv_iload_n (pc := 2) E.1 E.2 dX8_becomes_2 rfl (lv_at hl 0 rfl) ?_
    refine z_sipush (pc := 3) E (by decide) dX8_becomes_3 ?_
    refine z_icmp_ge (pc := 6) (tgt := 26) E ⟨by omega, by omega⟩ (by decide) dX8_becomes_6 (by decide) (fun h6 => ?_) (fun h6 => ?_)
    · have ei : i = 357 := by omega
      subst ei
      exact z_retWv E hr hM hS hlocks dX8_becomes_26
    · refine lv_aload_n (pc := 9) E.1 E.2 dX8_becomes_9 rfl (lv_at hl 1 rfl) ?_
      refine g8_0 (pc := 10) E hts hin8 hown hK hM.1 (hts _ (List.mem_of_getElem? (i := 1) rfl)) dX8_becomes_10 ?_
      refine lv_iload_n (pc := 13) E.1 E.2 dX8_becomes_13 rfl (lv_at hl 0 rfl) ?_
      refine lv_aload_n (pc := 14) E.1 E.2 dX8_becomes_14 rfl (lv_at hl 2 rfl) ?_
      refine lv_iload_n (pc := 15) E.1 E.2 dX8_becomes_15 rfl (lv_at hl 3 rfl) ?_
      refine lv_iload_n (pc := 16) E.1 E.2 dX8_becomes_16 rfl (lv_at hl 0 rfl) ?_
      refine z_iadd (pc := 17) E dX8_becomes_17 ?_
      refine z_laload (pc := 18) E hK hM.2.2.2.1 ⟨by omega, by omega⟩ (by decide) dX8_becomes_18 ?_
      refine z_lastore (pc := 19) E hK hM.2.1 hS (Ax.at 1 (by decide)) ⟨by omega, by omega⟩ (by decide) dX8_becomes_19 (fun H locs hnew hoth hS => ?_)
      have hM := W8.a1 hM hnew (fun a _ h => hoth a h)
      refine lv_iinc (pc := 20) (v := iI (i + 1)) (lv' := [(3, .int (iI (i + 1))), (0, .ref (o 0)), (1, .ref (o 3)), (2, .int (iI fr))]) E.1 E.2 dX8_becomes_20 hl (k := 0) rfl (iI_add _ _) (by decide) rfl (fun ls hl => ?_)
      refine lv_goto (pc := 23) (tgt := 2) E.1 E.2 dX8_becomes_23 (by decide) ?_
      exact ihL2 (i + 1) (by omega) (by omega)  _ _ (by rw [← beA_s σ κ fr hi.1]; exact hM) hS ls (lv_sub hl [0, 1, 2, 3] rfl)
set_option maxHeartbeats 1000000 in
set_option maxRecDepth 100000 in
theorem mX8_named (lL : Launch) (G : GG) (q : Nat) (g : Int → Int) (x : Int) (h2 : 0 ≤ g 2 ∧ g 2 ≤ 40) (hb : ∀ k : Int, -4611686018427387904 ≤ g k ∧ g k < 4611686018427387904) (hx : -9223372036854775808 ≤ x ∧ x < 9223372036854775808) : Met lL yX8_named wsX8_named ({ frames := 0, cells := 0, slots := 0, locals := 0 } : Room) (va_Pc [.ref q, .long (iL x)] (fun U => aL G q 357 g U.heap ∧ KK G U)) (vp_Si (fun r => r = (iI (fnS g x 0)))) 0 0 (fun _ => False) := by
  refine z_met (P := (fun H : Heap => aL G q 357 g H)) (by decide) rfl (Nat.le_of_ble_eq_true rfl) (fun pp ee ss mm below meth cC E hr hml hown hts hlocks hM hK ls hl => ?_)
  have hl : lv_has ls 4 [(0, .ref q), (1, .long (iL x))] := hl
  have hcs : 0 ≤ (({ frames := 0, cells := 0, slots := 0, locals := 0 } : Room)).cells ∧ 0 ≤ (({ frames := 0, cells := 0, slots := 0, locals := 0 } : Room)).slots := ⟨Nat.zero_le _, Nat.zero_le _⟩
  refine z_iconst (pc := 0) E dX8_named_0 ?_
  refine lv_istore_n (pc := 1) (lv' := [(3, .int (iI 0)), (0, .ref q), (1, .long (iL x))]) E.1 E.2 dX8_named_1 rfl hl (by decide) rfl (fun ls hl => ?_)
  suffices L2 : ∀ (nf : Nat), ∀ (k : Int), (0 ≤ k ∧ k ≤ g 2) → (fnS g x k = fnS g x 0) → ((g 2 - k).toNat) < nf → ∀ ls : Array Slot, lv_has ls 4 [(3, .int (iI k)), (0, .ref q), (1, .long (iL x))] → W pp lL ee ({ frames := 0, cells := 0, slots := 0, locals := 0 } : Room) ss mm [.ref q, .long (iL x)].toArray below meth cC ss.heap [] 0 0 (MQ below (vp_Si (fun r => r = (iI (fnS g x 0)))) [.ref q, .long (iL x)].toArray ss 0 0 (fun _ => False)) (F0 mm 2 ls []) from L2 _ 0 (by omega) rfl (Nat.lt_succ_self _) ls (lv_sub hl [0, 1, 2] rfl)
  intro nfL2
  induction nfL2 with
  | zero => intro k hk he hmzL2; exact absurd hmzL2 (Nat.not_lt_zero _)
  | succ nfL2 ihL2 =>
    intro k hk he hmzL2 ls hl
    refine lv_iload_n (pc := 2) E.1 E.2 dX8_named_2 rfl (lv_at hl 0 rfl) ?_
    refine z_i2l (pc := 3) E ⟨by omega, by omega⟩ dX8_named_3 ?_
    refine lv_aload_n (pc := 4) E.1 E.2 dX8_named_4 rfl (lv_at hl 1 rfl) ?_
    refine z_iconst (pc := 5) E dX8_named_5 ?_
    refine z_laload (pc := 6) E hK hM ⟨by omega, by omega⟩ (by decide) dX8_named_6 ?_
    refine z_lcmp_ge (pc := 7) (tgt := 31) E ⟨by omega, by omega⟩ ⟨by omega, by omega⟩ dX8_named_7 dX8_named_8 (by decide) (fun h7 => ?_) (fun h7 => ?_)
    · refine z_iconst (pc := 31) E dX8_named_31 ?_
      exact z_retRi E hr (congrArg iI (by first | (rw [← he, fnS_n (by omega)]))) hlocks dX8_named_32
    · refine lv_aload_n (pc := 11) E.1 E.2 dX8_named_11 rfl (lv_at hl 1 rfl) ?_
      refine z_sipush (pc := 12) E (by decide) dX8_named_12 ?_
      refine lv_iload_n (pc := 15) E.1 E.2 dX8_named_15 rfl (lv_at hl 0 rfl) ?_
      refine z_iadd (pc := 16) E dX8_named_16 ?_
      refine z_laload (pc := 17) E hK hM ⟨by omega, by omega⟩ (by decide) dX8_named_17 ?_
      have hbx := hb (149 + k)
      refine lv_lload_n (pc := 18) E.1 E.2 dX8_named_18 rfl (lv_at hl 2 rfl) ?_
      refine z_lcmp_ne (pc := 19) (tgt := 25) E ⟨by omega, by omega⟩ ⟨by omega, by omega⟩ dX8_named_19 dX8_named_20 (by decide) (fun h19 => ?_) (fun h19 => ?_)
      · refine lv_iinc (pc := 25) (v := iI (k + 1)) (lv' := [(3, .int (iI (k + 1))), (0, .ref q), (1, .long (iL x))]) E.1 E.2 dX8_named_25 hl (k := 0) rfl (iI_add _ _) (by decide) rfl (fun ls hl => ?_)
        refine lv_goto (pc := 28) (tgt := 2) E.1 E.2 dX8_named_28 (by decide) ?_
        exact ihL2 (k + 1) (by omega) (by rw [← he, fnS_s (k := k) (by omega), if_neg h19]) (by omega) ls (lv_sub hl [0, 1, 2] rfl)
      · refine lv_iload_n (pc := 23) E.1 E.2 dX8_named_23 rfl (lv_at hl 0 rfl) ?_
        exact z_retRi E hr (congrArg iI (by first | (rw [← he, fnS_s (by omega), if_pos h19]) | (rw [← he, fnS_n (by omega)]))) hlocks dX8_named_24
set_option maxHeartbeats 1000000 in
set_option maxRecDepth 100000 in
theorem mX8_thrown (lL : Launch) (G : GG) (o : Nat → Nat) (μ σ φ κ β ω : Int → Int) : Met lL yX8_thrown wsX8_thrown ({ frames := 0, cells := 0, slots := 0, locals := 0 } : Room) (va_Pc [.ref (o 0)] (fun U => W8 G o (mV o μ) σ φ κ β ω U.heap ∧ KK G U)) (vp_Si (fun r => r = (iI (μ 4)))) 0 0 (fun _ => False) := by
  refine z_met (P := (fun H : Heap => W8 G o (mV o μ) σ φ κ β ω H)) (by decide) rfl (Nat.le_of_ble_eq_true rfl) (fun pp ee ss mm below meth cC E hr hml hown hts hlocks hM hK ls hl => ?_)
  have hl : lv_has ls 1 [(0, .ref (o 0))] := hl
  have hcs : 0 ≤ (({ frames := 0, cells := 0, slots := 0, locals := 0 } : Room)).cells ∧ 0 ≤ (({ frames := 0, cells := 0, slots := 0, locals := 0 } : Room)).slots := ⟨Nat.zero_le _, Nat.zero_le _⟩
  have hin8 : ∀ w ∈ wsX80, w ∈ wsX8_thrown := fun w h => List.mem_cons_of_mem _ (List.mem_append_right _ (h))
  refine lv_aload_n (pc := 0) E.1 E.2 dX8_thrown_0 rfl (lv_at hl 0 rfl) ?_
  refine g8_4 (pc := 1) E hts hin8 hown hK hM.1 (hts _ (List.mem_of_getElem? (i := 1) rfl)) dX8_thrown_1 ?_
  exact z_retRi E hr rfl hlocks dX8_thrown_4
set_option maxHeartbeats 1000000 in
set_option maxRecDepth 100000 in
theorem mX8_errorPosition (lL : Launch) (G : GG) (o : Nat → Nat) (μ σ φ κ β ω : Int → Int) (hI : In σ) : Met lL yX8_errorPosition wsX8_errorPosition ({ frames := 0, cells := 0, slots := 0, locals := 0 } : Room) (va_Pc [.ref (o 0)] (fun U => W8 G o (mV o μ) σ φ κ β ω U.heap ∧ KK G U)) (va_Qi (fun r (_ : Unit) => r = (iI (μ 14))) (fun _ tZ => W8 G o (mV o (zu μ 4 (0))) σ φ κ β ω tZ.heap) (Ax o 6)) 0 0 (Ax o 6) := by
  refine z_met (P := (fun H : Heap => W8 G o (mV o μ) σ φ κ β ω H)) (by decide) rfl (Nat.le_of_ble_eq_true rfl) (fun pp ee ss mm below meth cC E hr hml hown hts hlocks hM hK ls hl => ?_)
  have hl : lv_has ls 1 [(0, .ref (o 0))] := hl
  have hcs : 0 ≤ (({ frames := 0, cells := 0, slots := 0, locals := 0 } : Room)).cells ∧ 0 ≤ (({ frames := 0, cells := 0, slots := 0, locals := 0 } : Room)).slots := ⟨Nat.zero_le _, Nat.zero_le _⟩
  have hS : va_S (Ax o 6) ss.heap ss.heap [] := va_S.rf
  have hin8 : ∀ w ∈ wsX80, w ∈ wsX8_errorPosition := fun w h => List.mem_cons_of_mem _ (List.mem_append_right _ (h))
  have hF := hI.F
  have hMm := hI.M
  have hGn := hI.Gn
  have hTi := hI.ti
  have hGr := hI.gr
  refine lv_aload_n (pc := 0) E.1 E.2 dX8_errorPosition_0 rfl (lv_at hl 0 rfl) ?_
  refine z_iconst (pc := 1) E dX8_errorPosition_1 ?_
  refine p8_4 (pc := 2) E hts hin8 hown hK hM.1 hS (Ax.at 0 (by decide)) (hts _ (List.mem_of_getElem? (i := 1) rfl)) dX8_errorPosition_2 (fun H locs hnew hoth hS => ?_)
  have hM := W8.p hM hnew (fun a _ h => hoth a h)
  refine lv_aload_n (pc := 5) E.1 E.2 dX8_errorPosition_5 rfl (lv_at hl 0 rfl) ?_
  refine g8_14 (pc := 6) E hts hin8 hown hK hM.1 (hts _ (List.mem_of_getElem? (i := 2) rfl)) dX8_errorPosition_6 ?_
  exact z_retWi E hr rfl (W8.mu hM (by simp only [mV, zu, Int.reduceEq, reduceIte])) hS hlocks dX8_errorPosition_9
set_option maxHeartbeats 1000000 in
set_option maxRecDepth 100000 in
theorem mX8_find (lL : Launch) (G : GG) (o : Nat → Nat) (μ σ φ κ β ω : Int → Int) (x : Int) (hI : In σ) (hx : -9223372036854775808 ≤ x ∧ x < 9223372036854775808) : Met lL yX8_find wsX8_find ({ frames := 1, cells := 0, slots := 0, locals := 23 } : Room) (va_Pc [.ref (o 0), .long (iL x)] (fun U => W8 G o (mV o μ) σ φ κ β ω U.heap ∧ KK G U)) (va_Qi (fun r (_ : Unit) => r = (iI (fnS σ x 0))) (fun _ tZ => W8 G o (mV o (zu μ 4 (0))) σ φ κ β ω tZ.heap) (Ax o 6)) 0 0 (Ax o 6) := by
  refine z_met (P := (fun H : Heap => W8 G o (mV o μ) σ φ κ β ω H)) (by decide) rfl (Nat.le_of_ble_eq_true rfl) (fun pp ee ss mm below meth cC E hr hml hown hts hlocks hM hK ls hl => ?_)
  have hl : lv_has ls 3 [(0, .ref (o 0)), (1, .long (iL x))] := hl
  have hcs : 0 ≤ (({ frames := 1, cells := 0, slots := 0, locals := 23 } : Room)).cells ∧ 0 ≤ (({ frames := 1, cells := 0, slots := 0, locals := 23 } : Room)).slots := ⟨Nat.zero_le _, Nat.zero_le _⟩
  have hS : va_S (Ax o 6) ss.heap ss.heap [] := va_S.rf
  have hin8 : ∀ w ∈ wsX80, w ∈ wsX8_find := fun w h => List.mem_cons_of_mem _ (List.mem_append_right _ (h))
  have hF := hI.F
  have hMm := hI.M
  have hGn := hI.Gn
  have hTi := hI.ti
  have hGr := hI.gr
  refine lv_aload_n (pc := 0) E.1 E.2 dX8_find_0 rfl (lv_at hl 0 rfl) ?_
  refine z_iconst (pc := 1) E dX8_find_1 ?_
  refine p8_4 (pc := 2) E hts hin8 hown hK hM.1 hS (Ax.at 0 (by decide)) (hts _ (List.mem_of_getElem? (i := 1) rfl)) dX8_find_2 (fun H locs hnew hoth hS => ?_)
  have hM := W8.p hM hnew (fun a _ h => hoth a h)
  refine lv_aload_n (pc := 5) E.1 E.2 dX8_find_5 rfl (lv_at hl 0 rfl) ?_
  refine g8_0 (pc := 6) E hts hin8 hown hK hM.1 (hts _ (List.mem_of_getElem? (i := 2) rfl)) dX8_find_6 ?_
  refine lv_lload_n (pc := 9) E.1 E.2 dX8_find_9 rfl (lv_at hl 1 rfl) ?_
  refine z_rSi (pc := 10) (As := [.ref (o 1), .long (iL x)]) (rest := []) E hml hown hts (mX8_named lL G (o 1) σ x (by omega) hI.bd (by omega)) (va_cwS 2 hts gX8_find_X8_named rfl rfl rfl vdX8_named.2 ⟨Nat.le_of_ble_eq_true rfl, Nat.le_of_ble_eq_true rfl⟩) hM.2.1 hK rfl hl.1 rfl dX8_find_10 hcs (Nat.le_of_ble_eq_true rfl) ?_
  exact z_retWi E hr rfl (W8.mu hM (by simp only [mV, zu, Int.reduceEq, reduceIte])) hS hlocks dX8_find_13
set_option maxHeartbeats 1000000 in
set_option maxRecDepth 100000 in
theorem mX8_count (lL : Launch) (G : GG) (o : Nat → Nat) (μ σ φ κ β ω : Int → Int) (w : Int) (hI : In σ) (hw : -2147483648 ≤ w ∧ w < 2147483648) : Met lL yX8_count wsX8_count ({ frames := 3, cells := 0, slots := 0, locals := 69 } : Room) (va_Pc [.ref (o 0), .int (iI w)] (fun U => W8 G o (mV o μ) σ φ κ β ω U.heap ∧ KK G U)) (va_Qi (fun r (_ : Unit) => r = (iI (if (kxCount w) = 0 then axCount σ w else 0))) (fun _ tZ => W8 G o (mV o (zu μ 4 (kxCount w))) σ φ κ β ω tZ.heap) (Ax o 6)) 0 0 (Ax o 6) := by
  refine z_met (P := (fun H : Heap => W8 G o (mV o μ) σ φ κ β ω H)) (by decide) rfl (Nat.le_of_ble_eq_true rfl) (fun pp ee ss mm below meth cC E hr hml hown hts hlocks hM hK ls hl => ?_)
  have hl : lv_has ls 2 [(0, .ref (o 0)), (1, .int (iI w))] := hl
  have hcs : 0 ≤ (({ frames := 3, cells := 0, slots := 0, locals := 69 } : Room)).cells ∧ 0 ≤ (({ frames := 3, cells := 0, slots := 0, locals := 69 } : Room)).slots := ⟨Nat.zero_le _, Nat.zero_le _⟩
  have hS : va_S (Ax o 6) ss.heap ss.heap [] := va_S.rf
  have hin8 : ∀ w ∈ wsX80, w ∈ wsX8_count := fun w h => List.mem_cons_of_mem _ (List.mem_append_right _ (h))
  have hF := hI.F
  have hMm := hI.M
  have hGn := hI.Gn
  have hTi := hI.ti
  have hGr := hI.gr
  refine lv_aload_n (pc := 0) E.1 E.2 dX8_count_0 rfl (lv_at hl 0 rfl) ?_
  refine lv_iload_n (pc := 1) E.1 E.2 dX8_count_1 rfl (lv_at hl 1 rfl) ?_
  refine z_i2l (pc := 2) E ⟨by omega, by omega⟩ dX8_count_2 ?_
  refine z_lconst (pc := 3) (v := 0) E (by decide) dX8_count_3 ?_
  refine lv_ldc2 (pc := 4) (v := iL (7)) E.1 E.2 hown (show (Jvm.Cond.constantLong RX8 189 (iL (7))).before _ ss = true from (hts _ (List.mem_of_getElem? (i := 1) rfl))) dX8_count_4 ?_
  refine z_rSi (pc := 7) (P := fun _ => True) (As := [.long (iL w), .long (iL 0), .long (iL 7)]) (rest := [.ref (o 0)]) E hml hown hts (mX8_isIn lL G w 0 7 ⟨by omega, by omega⟩ ⟨by omega, by omega⟩ ⟨by omega, by omega⟩) (va_cwS 3 hts gX8_count_X8_isIn rfl rfl rfl vdX8_isIn.2 ⟨Nat.le_of_ble_eq_true rfl, Nat.le_of_ble_eq_true rfl⟩) trivial hK rfl hl.1 rfl dX8_count_7 hcs (Nat.le_of_ble_eq_true rfl) ?_
  refine z_ifb_eq (pc := 10) (tgt := 17) E dX8_count_10 (by decide) (fun h10 => ?_) (fun h10 => ?_)
  · refine z_iconst (pc := 17) E dX8_count_17 ?_
    refine p8_4 (pc := 18) E hts hin8 hown hK hM.1 hS (Ax.at 0 (by decide)) (hts _ (List.mem_of_getElem? (i := 2) rfl)) dX8_count_18 (fun H locs hnew hoth hS => ?_)
    have hM := W8.p hM hnew (fun a _ h => hoth a h)
    refine lv_aload_n (pc := 21) E.1 E.2 dX8_count_21 rfl (lv_at hl 0 rfl) ?_
    refine g8_4 (pc := 22) E hts hin8 hown hK hM.1 (hts _ (List.mem_of_getElem? (i := 2) rfl)) dX8_count_22 ?_
    refine z_if_le (pc := 25) (tgt := 30) E (by decide) dX8_count_25 (by decide) (fun h25 => ?_) (fun h25 => ?_)
    · exact absurd h25 (by decide)
    · refine z_iconst (pc := 28) E dX8_count_28 ?_
      exact z_retWi E hr (congrArg iI (by have e0 : (kxCount w) = 1 := (by unfold kxCount; (repeat' split) <;> first | rfl | omega | (exfalso; omega) | contradiction); rw [e0]; exact (if_neg (by decide)).symm)) (by have e0 : (kxCount w) = 1 := (by unfold kxCount; (repeat' split) <;> first | rfl | omega | (exfalso; omega) | contradiction); rw [e0]; exact W8.mu hM (by simp only [mV, zu, Int.reduceEq, reduceIte])) hS hlocks dX8_count_29
  · refine z_iconst (pc := 13) E dX8_count_13 ?_
    refine lv_goto (pc := 14) (tgt := 18) E.1 E.2 dX8_count_14 (by decide) ?_
    refine p8_4 (pc := 18) E hts hin8 hown hK hM.1 hS (Ax.at 0 (by decide)) (hts _ (List.mem_of_getElem? (i := 2) rfl)) dX8_count_18 (fun H locs hnew hoth hS => ?_)
    have hM := W8.p hM hnew (fun a _ h => hoth a h)
    refine lv_aload_n (pc := 21) E.1 E.2 dX8_count_21 rfl (lv_at hl 0 rfl) ?_
    refine g8_4 (pc := 22) E hts hin8 hown hK hM.1 (hts _ (List.mem_of_getElem? (i := 2) rfl)) dX8_count_22 ?_
    refine z_if_le (pc := 25) (tgt := 30) E (by decide) dX8_count_25 (by decide) (fun h25 => ?_) (fun h25 => ?_)
    · refine lv_iload_n (pc := 30) E.1 E.2 dX8_count_30 rfl (lv_at hl 1 rfl) ?_
      by_cases hs31_0 : w = 0
      · refine z_tabIn (pc := 31) (k := 0) (tgt := 72) E hs31_0 (by decide) (by decide) (by decide) dX8_count_31 rfl (by decide) ?_
        refine lv_aload_n (pc := 72) E.1 E.2 dX8_count_72 rfl (lv_at hl 0 rfl) ?_
        refine g8_0 (pc := 73) E hts hin8 hown hK hM.1 (hts _ (List.mem_of_getElem? (i := 3) rfl)) dX8_count_73 ?_
        refine z_iconst (pc := 76) E dX8_count_76 ?_
        refine z_laload (pc := 77) E hK hM.2.1 ⟨by omega, by omega⟩ (by decide) dX8_count_77 ?_
        have hb77 := hI.bd 2
        refine z_l2i (pc := 78) E dX8_count_78 ?_
        exact z_retWi E hr (congrArg iI (by have e0 : (kxCount w) = 0 := (by unfold kxCount; (repeat' split) <;> first | rfl | omega | (exfalso; omega) | contradiction); rw [e0]; refine Eq.trans ?_ (if_pos rfl).symm; (unfold axCount; (repeat' split) <;> first | rfl | omega | (exfalso; omega)))) (by have e0 : (kxCount w) = 0 := (by unfold kxCount; (repeat' split) <;> first | rfl | omega | (exfalso; omega) | contradiction); rw [e0]; exact W8.mu hM (by simp only [mV, zu, Int.reduceEq, reduceIte])) hS hlocks dX8_count_79
      by_cases hs31_1 : w = 1
      · refine z_tabIn (pc := 31) (k := 1) (tgt := 80) E hs31_1 (by decide) (by decide) (by decide) dX8_count_31 rfl (by decide) ?_
        refine lv_aload_n (pc := 80) E.1 E.2 dX8_count_80 rfl (lv_at hl 0 rfl) ?_
        refine g8_0 (pc := 81) E hts hin8 hown hK hM.1 (hts _ (List.mem_of_getElem? (i := 3) rfl)) dX8_count_81 ?_
        refine z_iconst (pc := 84) E dX8_count_84 ?_
        refine z_laload (pc := 85) E hK hM.2.1 ⟨by omega, by omega⟩ (by decide) dX8_count_85 ?_
        have hb85 := hI.bd 3
        refine z_l2i (pc := 86) E dX8_count_86 ?_
        exact z_retWi E hr (congrArg iI (by have e0 : (kxCount w) = 0 := (by unfold kxCount; (repeat' split) <;> first | rfl | omega | (exfalso; omega) | contradiction); rw [e0]; refine Eq.trans ?_ (if_pos rfl).symm; (unfold axCount; (repeat' split) <;> first | rfl | omega | (exfalso; omega)))) (by have e0 : (kxCount w) = 0 := (by unfold kxCount; (repeat' split) <;> first | rfl | omega | (exfalso; omega) | contradiction); rw [e0]; exact W8.mu hM (by simp only [mV, zu, Int.reduceEq, reduceIte])) hS hlocks dX8_count_87
      by_cases hs31_2 : w = 2
      · refine z_tabIn (pc := 31) (k := 2) (tgt := 88) E hs31_2 (by decide) (by decide) (by decide) dX8_count_31 rfl (by decide) ?_
        refine lv_aload_n (pc := 88) E.1 E.2 dX8_count_88 rfl (lv_at hl 0 rfl) ?_
        refine z_iconst (pc := 89) E dX8_count_89 ?_
        refine z_iconst (pc := 90) E dX8_count_90 ?_
        refine z_rVl (pc := 91) (As := [.int (iI 0), .int (iI 1)]) (rest := []) E hml hown hts (mX8_filesBelow lL G o (zu μ 4 0) σ φ κ β ω 0 1 hI (by omega) (Or.inr rfl)) (cwV 2 hts gX8_count_X8_filesBelow rfl rfl rfl vdX8_filesBelow ⟨Nat.le_of_ble_eq_true rfl, Nat.le_of_ble_eq_true rfl⟩) (oB.recv hK hM.1 rfl) (W8.mu hM (by simp only [mV, zu, Int.reduceEq, reduceIte])) hK rfl hl.1 rfl dX8_count_91 hcs (Nat.le_of_ble_eq_true rfl) ?_
        refine z_l2i (pc := 94) E dX8_count_94 ?_
        exact z_retWi E hr (congrArg iI (by have e0 : (kxCount w) = 0 := (by unfold kxCount; (repeat' split) <;> first | rfl | omega | (exfalso; omega) | contradiction); rw [e0]; refine Eq.trans ?_ (if_pos rfl).symm; (unfold axCount; (repeat' split) <;> first | rfl | omega | (exfalso; omega)))) (by have e0 : (kxCount w) = 0 := (by unfold kxCount; (repeat' split) <;> first | rfl | omega | (exfalso; omega) | contradiction); rw [e0]; exact W8.mu hM (by simp only [mV, zu, Int.reduceEq, reduceIte])) hS hlocks dX8_count_95
      by_cases hs31_3 : w = 3
      · refine z_tabIn (pc := 31) (k := 3) (tgt := 96) E hs31_3 (by decide) (by decide) (by decide) dX8_count_31 rfl (by decide) ?_
        refine lv_aload_n (pc := 96) E.1 E.2 dX8_count_96 rfl (lv_at hl 0 rfl) ?_
        refine g8_0 (pc := 97) E hts hin8 hown hK hM.1 (hts _ (List.mem_of_getElem? (i := 3) rfl)) dX8_count_97 ?_
        refine z_iconst (pc := 100) E dX8_count_100 ?_
        refine z_laload (pc := 101) E hK hM.2.1 ⟨by omega, by omega⟩ (by decide) dX8_count_101 ?_
        have hb101 := hI.bd 0
        refine z_l2i (pc := 102) E dX8_count_102 ?_
        exact z_retWi E hr (congrArg iI (by have e0 : (kxCount w) = 0 := (by unfold kxCount; (repeat' split) <;> first | rfl | omega | (exfalso; omega) | contradiction); rw [e0]; refine Eq.trans ?_ (if_pos rfl).symm; (unfold axCount; (repeat' split) <;> first | rfl | omega | (exfalso; omega)))) (by have e0 : (kxCount w) = 0 := (by unfold kxCount; (repeat' split) <;> first | rfl | omega | (exfalso; omega) | contradiction); rw [e0]; exact W8.mu hM (by simp only [mV, zu, Int.reduceEq, reduceIte])) hS hlocks dX8_count_103
      by_cases hs31_4 : w = 4
      · refine z_tabIn (pc := 31) (k := 4) (tgt := 104) E hs31_4 (by decide) (by decide) (by decide) dX8_count_31 rfl (by decide) ?_
        refine lv_aload_n (pc := 104) E.1 E.2 dX8_count_104 rfl (lv_at hl 0 rfl) ?_
        refine g8_0 (pc := 105) E hts hin8 hown hK hM.1 (hts _ (List.mem_of_getElem? (i := 3) rfl)) dX8_count_105 ?_
        refine z_iconst (pc := 108) E dX8_count_108 ?_
        refine z_laload (pc := 109) E hK hM.2.1 ⟨by omega, by omega⟩ (by decide) dX8_count_109 ?_
        have hb109 := hI.bd 1
        refine z_l2i (pc := 110) E dX8_count_110 ?_
        exact z_retWi E hr (congrArg iI (by have e0 : (kxCount w) = 0 := (by unfold kxCount; (repeat' split) <;> first | rfl | omega | (exfalso; omega) | contradiction); rw [e0]; refine Eq.trans ?_ (if_pos rfl).symm; (unfold axCount; (repeat' split) <;> first | rfl | omega | (exfalso; omega)))) (by have e0 : (kxCount w) = 0 := (by unfold kxCount; (repeat' split) <;> first | rfl | omega | (exfalso; omega) | contradiction); rw [e0]; exact W8.mu hM (by simp only [mV, zu, Int.reduceEq, reduceIte])) hS hlocks dX8_count_111
      by_cases hs31_5 : w = 5
      · refine z_tabIn (pc := 31) (k := 5) (tgt := 112) E hs31_5 (by decide) (by decide) (by decide) dX8_count_31 rfl (by decide) ?_
        refine lv_aload_n (pc := 112) E.1 E.2 dX8_count_112 rfl (lv_at hl 0 rfl) ?_
        refine g8_0 (pc := 113) E hts hin8 hown hK hM.1 (hts _ (List.mem_of_getElem? (i := 3) rfl)) dX8_count_113 ?_
        refine z_iconst (pc := 116) E dX8_count_116 ?_
        refine z_laload (pc := 117) E hK hM.2.1 ⟨by omega, by omega⟩ (by decide) dX8_count_117 ?_
        have hb117 := hI.bd 4
        refine z_l2i (pc := 118) E dX8_count_118 ?_
        exact z_retWi E hr (congrArg iI (by have e0 : (kxCount w) = 0 := (by unfold kxCount; (repeat' split) <;> first | rfl | omega | (exfalso; omega) | contradiction); rw [e0]; refine Eq.trans ?_ (if_pos rfl).symm; (unfold axCount; (repeat' split) <;> first | rfl | omega | (exfalso; omega)))) (by have e0 : (kxCount w) = 0 := (by unfold kxCount; (repeat' split) <;> first | rfl | omega | (exfalso; omega) | contradiction); rw [e0]; exact W8.mu hM (by simp only [mV, zu, Int.reduceEq, reduceIte])) hS hlocks dX8_count_119
      by_cases hs31_6 : w = 6
      · refine z_tabIn (pc := 31) (k := 6) (tgt := 120) E hs31_6 (by decide) (by decide) (by decide) dX8_count_31 rfl (by decide) ?_
        refine lv_aload_n (pc := 120) E.1 E.2 dX8_count_120 rfl (lv_at hl 0 rfl) ?_
        refine z_rVi (pc := 121) (As := []) (rest := []) E hml hown hts (mX8_taggedNow lL G o (zu μ 4 0) σ φ κ β ω  hI) (cwV 0 hts gX8_count_X8_taggedNow rfl rfl rfl vdX8_taggedNow ⟨Nat.le_of_ble_eq_true rfl, Nat.le_of_ble_eq_true rfl⟩) (oB.recv hK hM.1 rfl) (W8.mu hM (by simp only [mV, zu, Int.reduceEq, reduceIte])) hK rfl hl.1 rfl dX8_count_121 hcs (Nat.le_of_ble_eq_true rfl) ?_
        exact z_retWi E hr (congrArg iI (by have e0 : (kxCount w) = 0 := (by unfold kxCount; (repeat' split) <;> first | rfl | omega | (exfalso; omega) | contradiction); rw [e0]; refine Eq.trans ?_ (if_pos rfl).symm; (unfold axCount; (repeat' split) <;> first | rfl | omega | (exfalso; omega)))) (by have e0 : (kxCount w) = 0 := (by unfold kxCount; (repeat' split) <;> first | rfl | omega | (exfalso; omega) | contradiction); rw [e0]; exact W8.mu hM (by simp only [mV, zu, Int.reduceEq, reduceIte])) hS hlocks dX8_count_124
      refine z_tabOut (pc := 31) (tgt := 125) E ⟨by omega, by omega⟩ (by omega) dX8_count_31 (by decide) ?_
      refine lv_aload_n (pc := 125) E.1 E.2 dX8_count_125 rfl (lv_at hl 0 rfl) ?_
      refine z_rVi (pc := 126) (As := []) (rest := []) E hml hown hts (mX8_withoutProject lL G o (zu μ 4 0) σ φ κ β ω  hI) (cwV 0 hts gX8_count_X8_withoutProject rfl rfl rfl vdX8_withoutProject ⟨Nat.le_of_ble_eq_true rfl, Nat.le_of_ble_eq_true rfl⟩) (oB.recv hK hM.1 rfl) (W8.mu hM (by simp only [mV, zu, Int.reduceEq, reduceIte])) hK rfl hl.1 rfl dX8_count_126 hcs (Nat.le_of_ble_eq_true rfl) ?_
      exact z_retWi E hr (congrArg iI (by have e0 : (kxCount w) = 0 := (by unfold kxCount; (repeat' split) <;> first | rfl | omega | (exfalso; omega) | contradiction); rw [e0]; refine Eq.trans ?_ (if_pos rfl).symm; (unfold axCount; (repeat' split) <;> first | rfl | omega | (exfalso; omega)))) (by have e0 : (kxCount w) = 0 := (by unfold kxCount; (repeat' split) <;> first | rfl | omega | (exfalso; omega) | contradiction); rw [e0]; exact W8.mu hM (by simp only [mV, zu, Int.reduceEq, reduceIte])) hS hlocks dX8_count_129
    · exact absurd h25 (by decide)
set_option maxHeartbeats 1000000 in
set_option maxRecDepth 100000 in
theorem mX8_folder (lL : Launch) (G : GG) (o : Nat → Nat) (μ σ φ κ β ω : Int → Int) (f : Int) (w : Int) (hI : In σ) (hf : -2147483648 ≤ f ∧ f < 2147483648) (hw : -2147483648 ≤ w ∧ w < 2147483648) : Met lL yX8_folder wsX8_folder ({ frames := 3, cells := 0, slots := 0, locals := 69 } : Room) (va_Pc [.ref (o 0), .int (iI f), .int (iI w)] (fun U => W8 G o (mV o μ) σ φ κ β ω U.heap ∧ KK G U)) (va_Qi (fun r (_ : Unit) => r = (iI (if (kxFolder σ f w) = 0 then axFolder σ f w else 0))) (fun _ tZ => W8 G o (mV o (zu μ 4 (kxFolder σ f w))) σ φ κ β ω tZ.heap) (Ax o 6)) 0 0 (Ax o 6) := by
  refine z_met (P := (fun H : Heap => W8 G o (mV o μ) σ φ κ β ω H)) (by decide) rfl (Nat.le_of_ble_eq_true rfl) (fun pp ee ss mm below meth cC E hr hml hown hts hlocks hM hK ls hl => ?_)
  have hl : lv_has ls 3 [(0, .ref (o 0)), (1, .int (iI f)), (2, .int (iI w))] := hl
  have hcs : 0 ≤ (({ frames := 3, cells := 0, slots := 0, locals := 69 } : Room)).cells ∧ 0 ≤ (({ frames := 3, cells := 0, slots := 0, locals := 69 } : Room)).slots := ⟨Nat.zero_le _, Nat.zero_le _⟩
  have hS : va_S (Ax o 6) ss.heap ss.heap [] := va_S.rf
  have hin8 : ∀ w ∈ wsX80, w ∈ wsX8_folder := fun w h => List.mem_cons_of_mem _ (List.mem_append_right _ (h))
  have hF := hI.F
  have hMm := hI.M
  have hGn := hI.Gn
  have hTi := hI.ti
  have hGr := hI.gr
  refine lv_aload_n (pc := 0) E.1 E.2 dX8_folder_0 rfl (lv_at hl 0 rfl) ?_
  refine lv_aload_n (pc := 1) E.1 E.2 dX8_folder_1 rfl (lv_at hl 0 rfl) ?_
  refine lv_iload_n (pc := 2) E.1 E.2 dX8_folder_2 rfl (lv_at hl 1 rfl) ?_
  refine z_rVi (pc := 3) (As := [.int (iI f)]) (rest := [.ref (o 0)]) E hml hown hts (mX8_isFolder lL G o μ σ φ κ β ω f hI (by omega)) (cwV 1 hts gX8_folder_X8_isFolder rfl rfl rfl vdX8_isFolder ⟨Nat.le_of_ble_eq_true rfl, Nat.le_of_ble_eq_true rfl⟩) (oB.recv hK hM.1 rfl) hM hK rfl hl.1 rfl dX8_folder_3 hcs (Nat.le_of_ble_eq_true rfl) ?_
  refine z_ifb_ne (pc := 6) (tgt := 13) E dX8_folder_6 (by decide) (fun h6 => ?_) (fun h6 => ?_)
  · refine lv_iload_n (pc := 13) E.1 E.2 dX8_folder_13 rfl (lv_at hl 2 rfl) ?_
    refine z_i2l (pc := 14) E ⟨by omega, by omega⟩ dX8_folder_14 ?_
    refine z_lconst (pc := 15) (v := 0) E (by decide) dX8_folder_15 ?_
    refine lv_ldc2 (pc := 16) (v := iL (9)) E.1 E.2 hown (show (Jvm.Cond.constantLong RX8 223 (iL (9))).before _ ss = true from (hts _ (List.mem_of_getElem? (i := 1) rfl))) dX8_folder_16 ?_
    refine z_rSi (pc := 19) (P := fun _ => True) (As := [.long (iL w), .long (iL 0), .long (iL 9)]) (rest := [.ref (o 0)]) E hml hown hts (mX8_isIn lL G w 0 9 ⟨by omega, by omega⟩ ⟨by omega, by omega⟩ ⟨by omega, by omega⟩) (va_cwS 3 hts gX8_folder_X8_isIn rfl rfl rfl vdX8_isIn.2 ⟨Nat.le_of_ble_eq_true rfl, Nat.le_of_ble_eq_true rfl⟩) trivial hK rfl hl.1 rfl dX8_folder_19 hcs (Nat.le_of_ble_eq_true rfl) ?_
    refine z_ifb_eq (pc := 22) (tgt := 29) E dX8_folder_22 (by decide) (fun h22 => ?_) (fun h22 => ?_)
    · refine z_iconst (pc := 29) E dX8_folder_29 ?_
      refine p8_4 (pc := 30) E hts hin8 hown hK hM.1 hS (Ax.at 0 (by decide)) (hts _ (List.mem_of_getElem? (i := 2) rfl)) dX8_folder_30 (fun H locs hnew hoth hS => ?_)
      have hM := W8.p hM hnew (fun a _ h => hoth a h)
      refine lv_aload_n (pc := 33) E.1 E.2 dX8_folder_33 rfl (lv_at hl 0 rfl) ?_
      refine g8_4 (pc := 34) E hts hin8 hown hK hM.1 (hts _ (List.mem_of_getElem? (i := 2) rfl)) dX8_folder_34 ?_
      refine z_if_le (pc := 37) (tgt := 42) E (by decide) dX8_folder_37 (by decide) (fun h37 => ?_) (fun h37 => ?_)
      · exact absurd h37 (by decide)
      · refine z_iconst (pc := 40) E dX8_folder_40 ?_
        exact z_retWi E hr (congrArg iI (by have e0 : (kxFolder σ f w) = 2 := (by unfold kxFolder; (repeat' split) <;> first | rfl | omega | (exfalso; omega) | contradiction); rw [e0]; exact (if_neg (by decide)).symm)) (by have e0 : (kxFolder σ f w) = 2 := (by unfold kxFolder; (repeat' split) <;> first | rfl | omega | (exfalso; omega) | contradiction); rw [e0]; exact W8.mu hM (by simp only [mV, zu, Int.reduceEq, reduceIte])) hS hlocks dX8_folder_41
    · refine z_iconst (pc := 25) E dX8_folder_25 ?_
      refine lv_goto (pc := 26) (tgt := 30) E.1 E.2 dX8_folder_26 (by decide) ?_
      refine p8_4 (pc := 30) E hts hin8 hown hK hM.1 hS (Ax.at 0 (by decide)) (hts _ (List.mem_of_getElem? (i := 2) rfl)) dX8_folder_30 (fun H locs hnew hoth hS => ?_)
      have hM := W8.p hM hnew (fun a _ h => hoth a h)
      refine lv_aload_n (pc := 33) E.1 E.2 dX8_folder_33 rfl (lv_at hl 0 rfl) ?_
      refine g8_4 (pc := 34) E hts hin8 hown hK hM.1 (hts _ (List.mem_of_getElem? (i := 2) rfl)) dX8_folder_34 ?_
      refine z_if_le (pc := 37) (tgt := 42) E (by decide) dX8_folder_37 (by decide) (fun h37 => ?_) (fun h37 => ?_)
      · refine lv_iload_n (pc := 42) E.1 E.2 dX8_folder_42 rfl (lv_at hl 2 rfl) ?_
        by_cases hs43_0 : w = 0
        · refine z_tabIn (pc := 43) (k := 0) (tgt := 92) E hs43_0 (by decide) (by decide) (by decide) dX8_folder_43 rfl (by decide) ?_
          refine lv_aload_n (pc := 92) E.1 E.2 dX8_folder_92 rfl (lv_at hl 0 rfl) ?_
          refine lv_iload_n (pc := 93) E.1 E.2 dX8_folder_93 rfl (lv_at hl 1 rfl) ?_
          refine z_rVi (pc := 94) (As := [.int (iI f)]) (rest := []) E hml hown hts (mX8_parentOf lL G o (zu μ 4 0) σ φ κ β ω f (by omega)) (cwV 1 hts gX8_folder_X8_parentOf rfl rfl rfl vdX8_parentOf ⟨Nat.le_of_ble_eq_true rfl, Nat.le_of_ble_eq_true rfl⟩) (oB.recv hK hM.1 rfl) (W8.mu hM (by simp only [mV, zu, Int.reduceEq, reduceIte])) hK rfl hl.1 rfl dX8_folder_94 hcs (Nat.le_of_ble_eq_true rfl) ?_
          exact z_retWi E hr (congrArg iI (by have e0 : (kxFolder σ f w) = 0 := (by unfold kxFolder; (repeat' split) <;> first | rfl | omega | (exfalso; omega) | contradiction); rw [e0]; refine Eq.trans ?_ (if_pos rfl).symm; (unfold axFolder; (repeat' split) <;> first | rfl | omega | (exfalso; omega)))) (by have e0 : (kxFolder σ f w) = 0 := (by unfold kxFolder; (repeat' split) <;> first | rfl | omega | (exfalso; omega) | contradiction); rw [e0]; exact W8.mu hM (by simp only [mV, zu, Int.reduceEq, reduceIte])) hS hlocks dX8_folder_97
        by_cases hs43_1 : w = 1
        · refine z_tabIn (pc := 43) (k := 1) (tgt := 98) E hs43_1 (by decide) (by decide) (by decide) dX8_folder_43 rfl (by decide) ?_
          refine lv_aload_n (pc := 98) E.1 E.2 dX8_folder_98 rfl (lv_at hl 0 rfl) ?_
          refine lv_iload_n (pc := 99) E.1 E.2 dX8_folder_99 rfl (lv_at hl 1 rfl) ?_
          refine z_rVi (pc := 100) (As := [.int (iI f)]) (rest := []) E hml hown hts (mX8_tagOf lL G o (zu μ 4 0) σ φ κ β ω f (by omega)) (cwV 1 hts gX8_folder_X8_tagOf rfl rfl rfl vdX8_tagOf ⟨Nat.le_of_ble_eq_true rfl, Nat.le_of_ble_eq_true rfl⟩) (oB.recv hK hM.1 rfl) (W8.mu hM (by simp only [mV, zu, Int.reduceEq, reduceIte])) hK rfl hl.1 rfl dX8_folder_100 hcs (Nat.le_of_ble_eq_true rfl) ?_
          exact z_retWi E hr (congrArg iI (by have e0 : (kxFolder σ f w) = 0 := (by unfold kxFolder; (repeat' split) <;> first | rfl | omega | (exfalso; omega) | contradiction); rw [e0]; refine Eq.trans ?_ (if_pos rfl).symm; (unfold axFolder; (repeat' split) <;> first | rfl | omega | (exfalso; omega)))) (by have e0 : (kxFolder σ f w) = 0 := (by unfold kxFolder; (repeat' split) <;> first | rfl | omega | (exfalso; omega) | contradiction); rw [e0]; exact W8.mu hM (by simp only [mV, zu, Int.reduceEq, reduceIte])) hS hlocks dX8_folder_103
        by_cases hs43_2 : w = 2
        · refine z_tabIn (pc := 43) (k := 2) (tgt := 104) E hs43_2 (by decide) (by decide) (by decide) dX8_folder_43 rfl (by decide) ?_
          refine lv_aload_n (pc := 104) E.1 E.2 dX8_folder_104 rfl (lv_at hl 0 rfl) ?_
          refine lv_iload_n (pc := 105) E.1 E.2 dX8_folder_105 rfl (lv_at hl 1 rfl) ?_
          refine z_rVi (pc := 106) (As := [.int (iI f)]) (rest := []) E hml hown hts (mX8_projectOf lL G o (zu μ 4 0) σ φ κ β ω f hI (Or.inr (by omega))) (cwV 1 hts gX8_folder_X8_projectOf rfl rfl rfl vdX8_projectOf ⟨Nat.le_of_ble_eq_true rfl, Nat.le_of_ble_eq_true rfl⟩) (oB.recv hK hM.1 rfl) (W8.mu hM (by simp only [mV, zu, Int.reduceEq, reduceIte])) hK rfl hl.1 rfl dX8_folder_106 hcs (Nat.le_of_ble_eq_true rfl) ?_
          exact z_retWi E hr (congrArg iI (by have e0 : (kxFolder σ f w) = 0 := (by unfold kxFolder; (repeat' split) <;> first | rfl | omega | (exfalso; omega) | contradiction); rw [e0]; refine Eq.trans ?_ (if_pos rfl).symm; (unfold axFolder; (repeat' split) <;> first | rfl | omega | (exfalso; omega)))) (by have e0 : (kxFolder σ f w) = 0 := (by unfold kxFolder; (repeat' split) <;> first | rfl | omega | (exfalso; omega) | contradiction); rw [e0]; exact W8.mu hM (by simp only [mV, zu, Int.reduceEq, reduceIte])) hS hlocks dX8_folder_109
        by_cases hs43_3 : w = 3
        · refine z_tabIn (pc := 43) (k := 3) (tgt := 110) E hs43_3 (by decide) (by decide) (by decide) dX8_folder_43 rfl (by decide) ?_
          refine lv_aload_n (pc := 110) E.1 E.2 dX8_folder_110 rfl (lv_at hl 0 rfl) ?_
          refine lv_iload_n (pc := 111) E.1 E.2 dX8_folder_111 rfl (lv_at hl 1 rfl) ?_
          refine z_rVi (pc := 112) (As := [.int (iI f)]) (rest := []) E hml hown hts (mX8_childrenOf lL G o (zu μ 4 0) σ φ κ β ω f hI (by omega)) (cwV 1 hts gX8_folder_X8_childrenOf rfl rfl rfl vdX8_childrenOf ⟨Nat.le_of_ble_eq_true rfl, Nat.le_of_ble_eq_true rfl⟩) (oB.recv hK hM.1 rfl) (W8.mu hM (by simp only [mV, zu, Int.reduceEq, reduceIte])) hK rfl hl.1 rfl dX8_folder_112 hcs (Nat.le_of_ble_eq_true rfl) ?_
          exact z_retWi E hr (congrArg iI (by have e0 : (kxFolder σ f w) = 0 := (by unfold kxFolder; (repeat' split) <;> first | rfl | omega | (exfalso; omega) | contradiction); rw [e0]; refine Eq.trans ?_ (if_pos rfl).symm; (unfold axFolder; (repeat' split) <;> first | rfl | omega | (exfalso; omega)))) (by have e0 : (kxFolder σ f w) = 0 := (by unfold kxFolder; (repeat' split) <;> first | rfl | omega | (exfalso; omega) | contradiction); rw [e0]; exact W8.mu hM (by simp only [mV, zu, Int.reduceEq, reduceIte])) hS hlocks dX8_folder_115
        by_cases hs43_4 : w = 4
        · refine z_tabIn (pc := 43) (k := 4) (tgt := 116) E hs43_4 (by decide) (by decide) (by decide) dX8_folder_43 rfl (by decide) ?_
          refine lv_aload_n (pc := 116) E.1 E.2 dX8_folder_116 rfl (lv_at hl 0 rfl) ?_
          refine lv_iload_n (pc := 117) E.1 E.2 dX8_folder_117 rfl (lv_at hl 1 rfl) ?_
          refine z_rVi (pc := 118) (As := [.int (iI f)]) (rest := []) E hml hown hts (mX8_filesIn lL G o (zu μ 4 0) σ φ κ β ω f hI (by omega)) (cwV 1 hts gX8_folder_X8_filesIn rfl rfl rfl vdX8_filesIn ⟨Nat.le_of_ble_eq_true rfl, Nat.le_of_ble_eq_true rfl⟩) (oB.recv hK hM.1 rfl) (W8.mu hM (by simp only [mV, zu, Int.reduceEq, reduceIte])) hK rfl hl.1 rfl dX8_folder_118 hcs (Nat.le_of_ble_eq_true rfl) ?_
          exact z_retWi E hr (congrArg iI (by have e0 : (kxFolder σ f w) = 0 := (by unfold kxFolder; (repeat' split) <;> first | rfl | omega | (exfalso; omega) | contradiction); rw [e0]; refine Eq.trans ?_ (if_pos rfl).symm; (unfold axFolder; (repeat' split) <;> first | rfl | omega | (exfalso; omega)))) (by have e0 : (kxFolder σ f w) = 0 := (by unfold kxFolder; (repeat' split) <;> first | rfl | omega | (exfalso; omega) | contradiction); rw [e0]; exact W8.mu hM (by simp only [mV, zu, Int.reduceEq, reduceIte])) hS hlocks dX8_folder_121
        by_cases hs43_5 : w = 5
        · refine z_tabIn (pc := 43) (k := 5) (tgt := 122) E hs43_5 (by decide) (by decide) (by decide) dX8_folder_43 rfl (by decide) ?_
          refine lv_aload_n (pc := 122) E.1 E.2 dX8_folder_122 rfl (lv_at hl 0 rfl) ?_
          refine lv_iload_n (pc := 123) E.1 E.2 dX8_folder_123 rfl (lv_at hl 1 rfl) ?_
          refine z_rVi (pc := 124) (As := [.int (iI f)]) (rest := []) E hml hown hts (mX8_depthOf lL G o (zu μ 4 0) σ φ κ β ω f hI (by omega)) (cwV 1 hts gX8_folder_X8_depthOf rfl rfl rfl vdX8_depthOf ⟨Nat.le_of_ble_eq_true rfl, Nat.le_of_ble_eq_true rfl⟩) (oB.recv hK hM.1 rfl) (W8.mu hM (by simp only [mV, zu, Int.reduceEq, reduceIte])) hK rfl hl.1 rfl dX8_folder_124 hcs (Nat.le_of_ble_eq_true rfl) ?_
          exact z_retWi E hr (congrArg iI (by have e0 : (kxFolder σ f w) = 0 := (by unfold kxFolder; (repeat' split) <;> first | rfl | omega | (exfalso; omega) | contradiction); rw [e0]; refine Eq.trans ?_ (if_pos rfl).symm; (unfold axFolder; (repeat' split) <;> first | rfl | omega | (exfalso; omega)))) (by have e0 : (kxFolder σ f w) = 0 := (by unfold kxFolder; (repeat' split) <;> first | rfl | omega | (exfalso; omega) | contradiction); rw [e0]; exact W8.mu hM (by simp only [mV, zu, Int.reduceEq, reduceIte])) hS hlocks dX8_folder_127
        by_cases hs43_6 : w = 6
        · refine z_tabIn (pc := 43) (k := 6) (tgt := 128) E hs43_6 (by decide) (by decide) (by decide) dX8_folder_43 rfl (by decide) ?_
          refine lv_aload_n (pc := 128) E.1 E.2 dX8_folder_128 rfl (lv_at hl 0 rfl) ?_
          refine lv_iload_n (pc := 129) E.1 E.2 dX8_folder_129 rfl (lv_at hl 1 rfl) ?_
          refine z_rVi (pc := 130) (As := [.int (iI f)]) (rest := []) E hml hown hts (mX8_foldersBelow lL G o (zu μ 4 0) σ φ κ β ω f hI (by omega)) (cwV 1 hts gX8_folder_X8_foldersBelow rfl rfl rfl vdX8_foldersBelow ⟨Nat.le_of_ble_eq_true rfl, Nat.le_of_ble_eq_true rfl⟩) (oB.recv hK hM.1 rfl) (W8.mu hM (by simp only [mV, zu, Int.reduceEq, reduceIte])) hK rfl hl.1 rfl dX8_folder_130 hcs (Nat.le_of_ble_eq_true rfl) ?_
          exact z_retWi E hr (congrArg iI (by have e0 : (kxFolder σ f w) = 0 := (by unfold kxFolder; (repeat' split) <;> first | rfl | omega | (exfalso; omega) | contradiction); rw [e0]; refine Eq.trans ?_ (if_pos rfl).symm; (unfold axFolder; (repeat' split) <;> first | rfl | omega | (exfalso; omega)))) (by have e0 : (kxFolder σ f w) = 0 := (by unfold kxFolder; (repeat' split) <;> first | rfl | omega | (exfalso; omega) | contradiction); rw [e0]; exact W8.mu hM (by simp only [mV, zu, Int.reduceEq, reduceIte])) hS hlocks dX8_folder_133
        by_cases hs43_7 : w = 7
        · refine z_tabIn (pc := 43) (k := 7) (tgt := 134) E hs43_7 (by decide) (by decide) (by decide) dX8_folder_43 rfl (by decide) ?_
          refine lv_aload_n (pc := 134) E.1 E.2 dX8_folder_134 rfl (lv_at hl 0 rfl) ?_
          refine lv_iload_n (pc := 135) E.1 E.2 dX8_folder_135 rfl (lv_at hl 1 rfl) ?_
          refine z_iconst (pc := 136) E dX8_folder_136 ?_
          refine z_rVl (pc := 137) (As := [.int (iI f), .int (iI 0)]) (rest := []) E hml hown hts (mX8_filesBelow lL G o (zu μ 4 0) σ φ κ β ω f 0 hI (by omega) (Or.inl rfl)) (cwV 2 hts gX8_folder_X8_filesBelow rfl rfl rfl vdX8_filesBelow ⟨Nat.le_of_ble_eq_true rfl, Nat.le_of_ble_eq_true rfl⟩) (oB.recv hK hM.1 rfl) (W8.mu hM (by simp only [mV, zu, Int.reduceEq, reduceIte])) hK rfl hl.1 rfl dX8_folder_137 hcs (Nat.le_of_ble_eq_true rfl) ?_
          refine z_l2i (pc := 140) E dX8_folder_140 ?_
          exact z_retWi E hr (congrArg iI (by have e0 : (kxFolder σ f w) = 0 := (by unfold kxFolder; (repeat' split) <;> first | rfl | omega | (exfalso; omega) | contradiction); rw [e0]; refine Eq.trans ?_ (if_pos rfl).symm; (unfold axFolder; (repeat' split) <;> first | rfl | omega | (exfalso; omega)))) (by have e0 : (kxFolder σ f w) = 0 := (by unfold kxFolder; (repeat' split) <;> first | rfl | omega | (exfalso; omega) | contradiction); rw [e0]; exact W8.mu hM (by simp only [mV, zu, Int.reduceEq, reduceIte])) hS hlocks dX8_folder_141
        by_cases hs43_8 : w = 8
        · refine z_tabIn (pc := 43) (k := 8) (tgt := 142) E hs43_8 (by decide) (by decide) (by decide) dX8_folder_43 rfl (by decide) ?_
          refine lv_aload_n (pc := 142) E.1 E.2 dX8_folder_142 rfl (lv_at hl 0 rfl) ?_
          refine lv_iload_n (pc := 143) E.1 E.2 dX8_folder_143 rfl (lv_at hl 1 rfl) ?_
          refine z_iconst (pc := 144) E dX8_folder_144 ?_
          refine z_rVl (pc := 145) (As := [.int (iI f), .int (iI 1)]) (rest := []) E hml hown hts (mX8_filesBelow lL G o (zu μ 4 0) σ φ κ β ω f 1 hI (by omega) (Or.inr rfl)) (cwV 2 hts gX8_folder_X8_filesBelow rfl rfl rfl vdX8_filesBelow ⟨Nat.le_of_ble_eq_true rfl, Nat.le_of_ble_eq_true rfl⟩) (oB.recv hK hM.1 rfl) (W8.mu hM (by simp only [mV, zu, Int.reduceEq, reduceIte])) hK rfl hl.1 rfl dX8_folder_145 hcs (Nat.le_of_ble_eq_true rfl) ?_
          refine z_l2i (pc := 148) E dX8_folder_148 ?_
          exact z_retWi E hr (congrArg iI (by have e0 : (kxFolder σ f w) = 0 := (by unfold kxFolder; (repeat' split) <;> first | rfl | omega | (exfalso; omega) | contradiction); rw [e0]; refine Eq.trans ?_ (if_pos rfl).symm; (unfold axFolder; (repeat' split) <;> first | rfl | omega | (exfalso; omega)))) (by have e0 : (kxFolder σ f w) = 0 := (by unfold kxFolder; (repeat' split) <;> first | rfl | omega | (exfalso; omega) | contradiction); rw [e0]; exact W8.mu hM (by simp only [mV, zu, Int.reduceEq, reduceIte])) hS hlocks dX8_folder_149
        refine z_tabOut (pc := 43) (tgt := 150) E ⟨by omega, by omega⟩ (by omega) dX8_folder_43 (by decide) ?_
        refine lv_aload_n (pc := 150) E.1 E.2 dX8_folder_150 rfl (lv_at hl 0 rfl) ?_
        refine lv_iload_n (pc := 151) E.1 E.2 dX8_folder_151 rfl (lv_at hl 1 rfl) ?_
        refine z_iconst (pc := 152) E dX8_folder_152 ?_
        refine z_rVl (pc := 153) (As := [.int (iI f), .int (iI 0)]) (rest := []) E hml hown hts (mX8_openOf lL G o (zu μ 4 0) σ φ κ β ω f 0 hI (by omega) (Or.inl rfl)) (cwV 2 hts gX8_folder_X8_openOf rfl rfl rfl vdX8_openOf ⟨Nat.le_of_ble_eq_true rfl, Nat.le_of_ble_eq_true rfl⟩) (oB.recv hK hM.1 rfl) (W8.mu hM (by simp only [mV, zu, Int.reduceEq, reduceIte])) hK rfl hl.1 rfl dX8_folder_153 hcs (Nat.le_of_ble_eq_true rfl) ?_
        refine z_l2i (pc := 156) E dX8_folder_156 ?_
        exact z_retWi E hr (congrArg iI (by have e0 : (kxFolder σ f w) = 0 := (by unfold kxFolder; (repeat' split) <;> first | rfl | omega | (exfalso; omega) | contradiction); rw [e0]; refine Eq.trans ?_ (if_pos rfl).symm; (unfold axFolder; (repeat' split) <;> first | rfl | omega | (exfalso; omega)))) (by have e0 : (kxFolder σ f w) = 0 := (by unfold kxFolder; (repeat' split) <;> first | rfl | omega | (exfalso; omega) | contradiction); rw [e0]; exact W8.mu hM (by simp only [mV, zu, Int.reduceEq, reduceIte])) hS hlocks dX8_folder_157
      · exact absurd h37 (by decide)
  · refine z_iconst (pc := 9) E dX8_folder_9 ?_
    refine lv_goto (pc := 10) (tgt := 30) E.1 E.2 dX8_folder_10 (by decide) ?_
    refine p8_4 (pc := 30) E hts hin8 hown hK hM.1 hS (Ax.at 0 (by decide)) (hts _ (List.mem_of_getElem? (i := 2) rfl)) dX8_folder_30 (fun H locs hnew hoth hS => ?_)
    have hM := W8.p hM hnew (fun a _ h => hoth a h)
    refine lv_aload_n (pc := 33) E.1 E.2 dX8_folder_33 rfl (lv_at hl 0 rfl) ?_
    refine g8_4 (pc := 34) E hts hin8 hown hK hM.1 (hts _ (List.mem_of_getElem? (i := 2) rfl)) dX8_folder_34 ?_
    refine z_if_le (pc := 37) (tgt := 42) E (by decide) dX8_folder_37 (by decide) (fun h37 => ?_) (fun h37 => ?_)
    · exact absurd h37 (by decide)
    · refine z_iconst (pc := 40) E dX8_folder_40 ?_
      exact z_retWi E hr (congrArg iI (by have e0 : (kxFolder σ f w) = 1 := (by unfold kxFolder; (repeat' split) <;> first | rfl | omega | (exfalso; omega) | contradiction); rw [e0]; exact (if_neg (by decide)).symm)) (by have e0 : (kxFolder σ f w) = 1 := (by unfold kxFolder; (repeat' split) <;> first | rfl | omega | (exfalso; omega) | contradiction); rw [e0]; exact W8.mu hM (by simp only [mV, zu, Int.reduceEq, reduceIte])) hS hlocks dX8_folder_41
set_option maxHeartbeats 1000000 in
set_option maxRecDepth 100000 in
theorem mX8_file (lL : Launch) (G : GG) (o : Nat → Nat) (μ σ φ κ β ω : Int → Int) (k : Int) (w : Int) (hI : In σ) (hk : -2147483648 ≤ k ∧ k < 2147483648) (hw : -2147483648 ≤ w ∧ w < 2147483648) : Met lL yX8_file wsX8_file ({ frames := 2, cells := 0, slots := 0, locals := 46 } : Room) (va_Pc [.ref (o 0), .int (iI k), .int (iI w)] (fun U => W8 G o (mV o μ) σ φ κ β ω U.heap ∧ KK G U)) (va_Qi (fun r (_ : Unit) => r = (iI (if (kxFile σ k w) = 0 then axFile σ k w else 0))) (fun _ tZ => W8 G o (mV o (zu μ 4 (kxFile σ k w))) σ φ κ β ω tZ.heap) (Ax o 6)) 0 0 (Ax o 6) := by
  refine z_met (P := (fun H : Heap => W8 G o (mV o μ) σ φ κ β ω H)) (by decide) rfl (Nat.le_of_ble_eq_true rfl) (fun pp ee ss mm below meth cC E hr hml hown hts hlocks hM hK ls hl => ?_)
  have hl : lv_has ls 3 [(0, .ref (o 0)), (1, .int (iI k)), (2, .int (iI w))] := hl
  have hcs : 0 ≤ (({ frames := 2, cells := 0, slots := 0, locals := 46 } : Room)).cells ∧ 0 ≤ (({ frames := 2, cells := 0, slots := 0, locals := 46 } : Room)).slots := ⟨Nat.zero_le _, Nat.zero_le _⟩
  have hS : va_S (Ax o 6) ss.heap ss.heap [] := va_S.rf
  have hin8 : ∀ w ∈ wsX80, w ∈ wsX8_file := fun w h => List.mem_cons_of_mem _ (List.mem_append_right _ (h))
  have hF := hI.F
  have hMm := hI.M
  have hGn := hI.Gn
  have hTi := hI.ti
  have hGr := hI.gr
  refine lv_aload_n (pc := 0) E.1 E.2 dX8_file_0 rfl (lv_at hl 0 rfl) ?_
  refine lv_aload_n (pc := 1) E.1 E.2 dX8_file_1 rfl (lv_at hl 0 rfl) ?_
  refine lv_iload_n (pc := 2) E.1 E.2 dX8_file_2 rfl (lv_at hl 1 rfl) ?_
  refine z_rVi (pc := 3) (As := [.int (iI k)]) (rest := [.ref (o 0)]) E hml hown hts (mX8_isFile lL G o μ σ φ κ β ω k hI (by omega)) (cwV 1 hts gX8_file_X8_isFile rfl rfl rfl vdX8_isFile ⟨Nat.le_of_ble_eq_true rfl, Nat.le_of_ble_eq_true rfl⟩) (oB.recv hK hM.1 rfl) hM hK rfl hl.1 rfl dX8_file_3 hcs (Nat.le_of_ble_eq_true rfl) ?_
  refine z_ifb_ne (pc := 6) (tgt := 13) E dX8_file_6 (by decide) (fun h6 => ?_) (fun h6 => ?_)
  · refine lv_iload_n (pc := 13) E.1 E.2 dX8_file_13 rfl (lv_at hl 2 rfl) ?_
    refine z_i2l (pc := 14) E ⟨by omega, by omega⟩ dX8_file_14 ?_
    refine z_lconst (pc := 15) (v := 0) E (by decide) dX8_file_15 ?_
    refine lv_ldc2 (pc := 16) (v := iL (2)) E.1 E.2 hown (show (Jvm.Cond.constantLong RX8 313 (iL (2))).before _ ss = true from (hts _ (List.mem_of_getElem? (i := 1) rfl))) dX8_file_16 ?_
    refine z_rSi (pc := 19) (P := fun _ => True) (As := [.long (iL w), .long (iL 0), .long (iL 2)]) (rest := [.ref (o 0)]) E hml hown hts (mX8_isIn lL G w 0 2 ⟨by omega, by omega⟩ ⟨by omega, by omega⟩ ⟨by omega, by omega⟩) (va_cwS 3 hts gX8_file_X8_isIn rfl rfl rfl vdX8_isIn.2 ⟨Nat.le_of_ble_eq_true rfl, Nat.le_of_ble_eq_true rfl⟩) trivial hK rfl hl.1 rfl dX8_file_19 hcs (Nat.le_of_ble_eq_true rfl) ?_
    refine z_ifb_eq (pc := 22) (tgt := 29) E dX8_file_22 (by decide) (fun h22 => ?_) (fun h22 => ?_)
    · refine z_iconst (pc := 29) E dX8_file_29 ?_
      refine p8_4 (pc := 30) E hts hin8 hown hK hM.1 hS (Ax.at 0 (by decide)) (hts _ (List.mem_of_getElem? (i := 2) rfl)) dX8_file_30 (fun H locs hnew hoth hS => ?_)
      have hM := W8.p hM hnew (fun a _ h => hoth a h)
      refine lv_aload_n (pc := 33) E.1 E.2 dX8_file_33 rfl (lv_at hl 0 rfl) ?_
      refine g8_4 (pc := 34) E hts hin8 hown hK hM.1 (hts _ (List.mem_of_getElem? (i := 2) rfl)) dX8_file_34 ?_
      refine z_if_le (pc := 37) (tgt := 42) E (by decide) dX8_file_37 (by decide) (fun h37 => ?_) (fun h37 => ?_)
      · exact absurd h37 (by decide)
      · refine z_iconst (pc := 40) E dX8_file_40 ?_
        exact z_retWi E hr (congrArg iI (by have e0 : (kxFile σ k w) = 2 := (by unfold kxFile; (repeat' split) <;> first | rfl | omega | (exfalso; omega) | contradiction); rw [e0]; exact (if_neg (by decide)).symm)) (by have e0 : (kxFile σ k w) = 2 := (by unfold kxFile; (repeat' split) <;> first | rfl | omega | (exfalso; omega) | contradiction); rw [e0]; exact W8.mu hM (by simp only [mV, zu, Int.reduceEq, reduceIte])) hS hlocks dX8_file_41
    · refine z_iconst (pc := 25) E dX8_file_25 ?_
      refine lv_goto (pc := 26) (tgt := 30) E.1 E.2 dX8_file_26 (by decide) ?_
      refine p8_4 (pc := 30) E hts hin8 hown hK hM.1 hS (Ax.at 0 (by decide)) (hts _ (List.mem_of_getElem? (i := 2) rfl)) dX8_file_30 (fun H locs hnew hoth hS => ?_)
      have hM := W8.p hM hnew (fun a _ h => hoth a h)
      refine lv_aload_n (pc := 33) E.1 E.2 dX8_file_33 rfl (lv_at hl 0 rfl) ?_
      refine g8_4 (pc := 34) E hts hin8 hown hK hM.1 (hts _ (List.mem_of_getElem? (i := 2) rfl)) dX8_file_34 ?_
      refine z_if_le (pc := 37) (tgt := 42) E (by decide) dX8_file_37 (by decide) (fun h37 => ?_) (fun h37 => ?_)
      · have hfk := hI.fil (k := k) (by omega) (by omega)
        refine lv_iload_n (pc := 42) E.1 E.2 dX8_file_42 rfl (lv_at hl 2 rfl) ?_
        refine z_if_ne (pc := 43) (tgt := 54) E ⟨by omega, by omega⟩ dX8_file_43 (by decide) (fun h43 => ?_) (fun h43 => ?_)
        · refine lv_iload_n (pc := 54) E.1 E.2 dX8_file_54 rfl (lv_at hl 2 rfl) ?_
          refine z_iconst (pc := 55) E dX8_file_55 ?_
          refine z_icmp_ne (pc := 56) (tgt := 73) E ⟨by omega, by omega⟩ (by decide) dX8_file_56 (by decide) (fun h56 => ?_) (fun h56 => ?_)
          · refine lv_aload_n (pc := 73) E.1 E.2 dX8_file_73 rfl (lv_at hl 0 rfl) ?_
            refine lv_aload_n (pc := 74) E.1 E.2 dX8_file_74 rfl (lv_at hl 0 rfl) ?_
            refine lv_iload_n (pc := 75) E.1 E.2 dX8_file_75 rfl (lv_at hl 1 rfl) ?_
            refine z_rVi (pc := 76) (As := [.int (iI k)]) (rest := [.ref (o 0)]) E hml hown hts (mX8_folderOf lL G o (zu μ 4 0) σ φ κ β ω k (by omega)) (cwV 1 hts gX8_file_X8_folderOf rfl rfl rfl vdX8_folderOf ⟨Nat.le_of_ble_eq_true rfl, Nat.le_of_ble_eq_true rfl⟩) (oB.recv hK hM.1 rfl) (W8.mu hM (by simp only [mV, zu, Int.reduceEq, reduceIte])) hK rfl hl.1 rfl dX8_file_76 hcs (Nat.le_of_ble_eq_true rfl) ?_
            refine z_rVi (pc := 79) (As := [.int (iI (σ (189 + k)))]) (rest := []) E hml hown hts (mX8_projectOf lL G o (zu μ 4 0) σ φ κ β ω (σ (189 + k)) hI (Or.inr hfk.1)) (cwV 1 hts gX8_file_X8_projectOf rfl rfl rfl vdX8_projectOf ⟨Nat.le_of_ble_eq_true rfl, Nat.le_of_ble_eq_true rfl⟩) (oB.recv hK hM.1 rfl) (W8.mu hM (by simp only [mV, zu, Int.reduceEq, reduceIte])) hK rfl hl.1 rfl dX8_file_79 hcs (Nat.le_of_ble_eq_true rfl) ?_
            exact z_retWi E hr (congrArg iI (by have e0 : (kxFile σ k w) = 0 := (by unfold kxFile; (repeat' split) <;> first | rfl | omega | (exfalso; omega) | contradiction); rw [e0]; refine Eq.trans ?_ (if_pos rfl).symm; (unfold axFile; (repeat' split) <;> first | rfl | omega | (exfalso; omega)))) (by have e0 : (kxFile σ k w) = 0 := (by unfold kxFile; (repeat' split) <;> first | rfl | omega | (exfalso; omega) | contradiction); rw [e0]; exact W8.mu hM (by simp only [mV, zu, Int.reduceEq, reduceIte])) hS hlocks dX8_file_82
          · refine lv_aload_n (pc := 59) E.1 E.2 dX8_file_59 rfl (lv_at hl 0 rfl) ?_
            refine g8_0 (pc := 60) E hts hin8 hown hK hM.1 (hts _ (List.mem_of_getElem? (i := 3) rfl)) dX8_file_60 ?_
            refine z_sipush (pc := 63) E (by decide) dX8_file_63 ?_
            refine lv_iload_n (pc := 66) E.1 E.2 dX8_file_66 rfl (lv_at hl 1 rfl) ?_
            refine z_iadd (pc := 67) E dX8_file_67 ?_
            refine z_laload (pc := 68) E hK hM.2.1 ⟨by omega, by omega⟩ (by decide) dX8_file_68 ?_
            have hb68 := hI.bd (249 + k)
            refine z_l2i (pc := 69) E dX8_file_69 ?_
            refine lv_goto (pc := 70) (tgt := 82) E.1 E.2 dX8_file_70 (by decide) ?_
            exact z_retWi E hr (congrArg iI (by have e0 : (kxFile σ k w) = 0 := (by unfold kxFile; (repeat' split) <;> first | rfl | omega | (exfalso; omega) | contradiction); rw [e0]; refine Eq.trans ?_ (if_pos rfl).symm; (unfold axFile; (repeat' split) <;> first | rfl | omega | (exfalso; omega)))) (by have e0 : (kxFile σ k w) = 0 := (by unfold kxFile; (repeat' split) <;> first | rfl | omega | (exfalso; omega) | contradiction); rw [e0]; exact W8.mu hM (by simp only [mV, zu, Int.reduceEq, reduceIte])) hS hlocks dX8_file_82
        · refine lv_aload_n (pc := 46) E.1 E.2 dX8_file_46 rfl (lv_at hl 0 rfl) ?_
          refine lv_iload_n (pc := 47) E.1 E.2 dX8_file_47 rfl (lv_at hl 1 rfl) ?_
          refine z_rVi (pc := 48) (As := [.int (iI k)]) (rest := []) E hml hown hts (mX8_folderOf lL G o (zu μ 4 0) σ φ κ β ω k (by omega)) (cwV 1 hts gX8_file_X8_folderOf rfl rfl rfl vdX8_folderOf ⟨Nat.le_of_ble_eq_true rfl, Nat.le_of_ble_eq_true rfl⟩) (oB.recv hK hM.1 rfl) (W8.mu hM (by simp only [mV, zu, Int.reduceEq, reduceIte])) hK rfl hl.1 rfl dX8_file_48 hcs (Nat.le_of_ble_eq_true rfl) ?_
          refine lv_goto (pc := 51) (tgt := 82) E.1 E.2 dX8_file_51 (by decide) ?_
          exact z_retWi E hr (congrArg iI (by have e0 : (kxFile σ k w) = 0 := (by unfold kxFile; (repeat' split) <;> first | rfl | omega | (exfalso; omega) | contradiction); rw [e0]; refine Eq.trans ?_ (if_pos rfl).symm; (unfold axFile; (repeat' split) <;> first | rfl | omega | (exfalso; omega)))) (by have e0 : (kxFile σ k w) = 0 := (by unfold kxFile; (repeat' split) <;> first | rfl | omega | (exfalso; omega) | contradiction); rw [e0]; exact W8.mu hM (by simp only [mV, zu, Int.reduceEq, reduceIte])) hS hlocks dX8_file_82
      · exact absurd h37 (by decide)
  · refine z_iconst (pc := 9) E dX8_file_9 ?_
    refine lv_goto (pc := 10) (tgt := 30) E.1 E.2 dX8_file_10 (by decide) ?_
    refine p8_4 (pc := 30) E hts hin8 hown hK hM.1 hS (Ax.at 0 (by decide)) (hts _ (List.mem_of_getElem? (i := 2) rfl)) dX8_file_30 (fun H locs hnew hoth hS => ?_)
    have hM := W8.p hM hnew (fun a _ h => hoth a h)
    refine lv_aload_n (pc := 33) E.1 E.2 dX8_file_33 rfl (lv_at hl 0 rfl) ?_
    refine g8_4 (pc := 34) E hts hin8 hown hK hM.1 (hts _ (List.mem_of_getElem? (i := 2) rfl)) dX8_file_34 ?_
    refine z_if_le (pc := 37) (tgt := 42) E (by decide) dX8_file_37 (by decide) (fun h37 => ?_) (fun h37 => ?_)
    · exact absurd h37 (by decide)
    · refine z_iconst (pc := 40) E dX8_file_40 ?_
      exact z_retWi E hr (congrArg iI (by have e0 : (kxFile σ k w) = 1 := (by unfold kxFile; (repeat' split) <;> first | rfl | omega | (exfalso; omega) | contradiction); rw [e0]; exact (if_neg (by decide)).symm)) (by have e0 : (kxFile σ k w) = 1 := (by unfold kxFile; (repeat' split) <;> first | rfl | omega | (exfalso; omega) | contradiction); rw [e0]; exact W8.mu hM (by simp only [mV, zu, Int.reduceEq, reduceIte])) hS hlocks dX8_file_41
set_option maxHeartbeats 1000000 in
set_option maxRecDepth 100000 in
theorem mX8_writeReason (lL : Launch) (G : GG) (o : Nat → Nat) (μ σ φ κ β ω : Int → Int) (f : Int) (b : Int) (hI : In σ) (hf : -2147483648 ≤ f ∧ f < 2147483648) (hb : -2147483648 ≤ b ∧ b < 2147483648) : Met lL yX8_writeReason wsX8_writeReason ({ frames := 4, cells := 0, slots := 0, locals := 101 } : Room) (va_Pc [.ref (o 0), .int (iI f), .int (iI b)] (fun U => W8 G o (mV o μ) σ φ κ β ω U.heap ∧ KK G U)) (va_Qi (fun r (_ : Unit) => r = (iI (if (kxWriteR σ f b) = 0 then axWriteR σ f b else 0))) (fun _ tZ => W8 G o (mV o (zu μ 4 (kxWriteR σ f b))) σ φ κ β ω tZ.heap) (Ax o 6)) 0 0 (Ax o 6) := by
  refine z_met (P := (fun H : Heap => W8 G o (mV o μ) σ φ κ β ω H)) (by decide) rfl (Nat.le_of_ble_eq_true rfl) (fun pp ee ss mm below meth cC E hr hml hown hts hlocks hM hK ls hl => ?_)
  have hl : lv_has ls 3 [(0, .ref (o 0)), (1, .int (iI f)), (2, .int (iI b))] := hl
  have hcs : 0 ≤ (({ frames := 4, cells := 0, slots := 0, locals := 101 } : Room)).cells ∧ 0 ≤ (({ frames := 4, cells := 0, slots := 0, locals := 101 } : Room)).slots := ⟨Nat.zero_le _, Nat.zero_le _⟩
  have hS : va_S (Ax o 6) ss.heap ss.heap [] := va_S.rf
  have hin8 : ∀ w ∈ wsX80, w ∈ wsX8_writeReason := fun w h => List.mem_cons_of_mem _ (List.mem_append_right _ (h))
  have hF := hI.F
  have hMm := hI.M
  have hGn := hI.Gn
  have hTi := hI.ti
  have hGr := hI.gr
  refine lv_aload_n (pc := 0) E.1 E.2 dX8_writeReason_0 rfl (lv_at hl 0 rfl) ?_
  refine lv_aload_n (pc := 1) E.1 E.2 dX8_writeReason_1 rfl (lv_at hl 0 rfl) ?_
  refine lv_iload_n (pc := 2) E.1 E.2 dX8_writeReason_2 rfl (lv_at hl 1 rfl) ?_
  refine z_rVi (pc := 3) (As := [.int (iI f)]) (rest := [.ref (o 0)]) E hml hown hts (mX8_isFolder lL G o μ σ φ κ β ω f hI (by omega)) (cwV 1 hts gX8_writeReason_X8_isFolder rfl rfl rfl vdX8_isFolder ⟨Nat.le_of_ble_eq_true rfl, Nat.le_of_ble_eq_true rfl⟩) (oB.recv hK hM.1 rfl) hM hK rfl hl.1 rfl dX8_writeReason_3 hcs (Nat.le_of_ble_eq_true rfl) ?_
  refine z_ifb_ne (pc := 6) (tgt := 13) E dX8_writeReason_6 (by decide) (fun h6 => ?_) (fun h6 => ?_)
  · refine lv_iload_n (pc := 13) E.1 E.2 dX8_writeReason_13 rfl (lv_at hl 2 rfl) ?_
    refine z_i2l (pc := 14) E ⟨by omega, by omega⟩ dX8_writeReason_14 ?_
    refine z_lconst (pc := 15) (v := 0) E (by decide) dX8_writeReason_15 ?_
    refine lv_ldc2 (pc := 16) (v := iL (9999)) E.1 E.2 hown (show (Jvm.Cond.constantLong RX8 315 (iL (9999))).before _ ss = true from (hts _ (List.mem_of_getElem? (i := 1) rfl))) dX8_writeReason_16 ?_
    refine z_rSi (pc := 19) (P := fun _ => True) (As := [.long (iL b), .long (iL 0), .long (iL 9999)]) (rest := [.ref (o 0)]) E hml hown hts (mX8_isIn lL G b 0 9999 ⟨by omega, by omega⟩ ⟨by omega, by omega⟩ ⟨by omega, by omega⟩) (va_cwS 3 hts gX8_writeReason_X8_isIn rfl rfl rfl vdX8_isIn.2 ⟨Nat.le_of_ble_eq_true rfl, Nat.le_of_ble_eq_true rfl⟩) trivial hK rfl hl.1 rfl dX8_writeReason_19 hcs (Nat.le_of_ble_eq_true rfl) ?_
    refine z_ifb_eq (pc := 22) (tgt := 29) E dX8_writeReason_22 (by decide) (fun h22 => ?_) (fun h22 => ?_)
    · refine z_iconst (pc := 29) E dX8_writeReason_29 ?_
      refine p8_4 (pc := 30) E hts hin8 hown hK hM.1 hS (Ax.at 0 (by decide)) (hts _ (List.mem_of_getElem? (i := 2) rfl)) dX8_writeReason_30 (fun H locs hnew hoth hS => ?_)
      have hM := W8.p hM hnew (fun a _ h => hoth a h)
      refine lv_aload_n (pc := 33) E.1 E.2 dX8_writeReason_33 rfl (lv_at hl 0 rfl) ?_
      refine g8_4 (pc := 34) E hts hin8 hown hK hM.1 (hts _ (List.mem_of_getElem? (i := 2) rfl)) dX8_writeReason_34 ?_
      refine z_if_le (pc := 37) (tgt := 44) E (by decide) dX8_writeReason_37 (by decide) (fun h37 => ?_) (fun h37 => ?_)
      · exact absurd h37 (by decide)
      · refine z_iconst (pc := 40) E dX8_writeReason_40 ?_
        refine lv_goto (pc := 41) (tgt := 56) E.1 E.2 dX8_writeReason_41 (by decide) ?_
        exact z_retWi E hr (congrArg iI (by have e0 : (kxWriteR σ f b) = 2 := (by unfold kxWriteR; (repeat' split) <;> first | rfl | omega | (exfalso; omega) | contradiction); rw [e0]; exact (if_neg (by decide)).symm)) (by have e0 : (kxWriteR σ f b) = 2 := (by unfold kxWriteR; (repeat' split) <;> first | rfl | omega | (exfalso; omega) | contradiction); rw [e0]; exact W8.mu hM (by simp only [mV, zu, Int.reduceEq, reduceIte])) hS hlocks dX8_writeReason_56
    · refine z_iconst (pc := 25) E dX8_writeReason_25 ?_
      refine lv_goto (pc := 26) (tgt := 30) E.1 E.2 dX8_writeReason_26 (by decide) ?_
      refine p8_4 (pc := 30) E hts hin8 hown hK hM.1 hS (Ax.at 0 (by decide)) (hts _ (List.mem_of_getElem? (i := 2) rfl)) dX8_writeReason_30 (fun H locs hnew hoth hS => ?_)
      have hM := W8.p hM hnew (fun a _ h => hoth a h)
      refine lv_aload_n (pc := 33) E.1 E.2 dX8_writeReason_33 rfl (lv_at hl 0 rfl) ?_
      refine g8_4 (pc := 34) E hts hin8 hown hK hM.1 (hts _ (List.mem_of_getElem? (i := 2) rfl)) dX8_writeReason_34 ?_
      refine z_if_le (pc := 37) (tgt := 44) E (by decide) dX8_writeReason_37 (by decide) (fun h37 => ?_) (fun h37 => ?_)
      · refine lv_aload_n (pc := 44) E.1 E.2 dX8_writeReason_44 rfl (lv_at hl 0 rfl) ?_
        refine lv_aload_n (pc := 45) E.1 E.2 dX8_writeReason_45 rfl (lv_at hl 0 rfl) ?_
        refine lv_iload_n (pc := 46) E.1 E.2 dX8_writeReason_46 rfl (lv_at hl 1 rfl) ?_
        refine z_rVi (pc := 47) (As := [.int (iI f)]) (rest := [.ref (o 0)]) E hml hown hts (mX8_projectOf lL G o (zu μ 4 0) σ φ κ β ω f hI (Or.inr (by omega))) (cwV 1 hts gX8_writeReason_X8_projectOf rfl rfl rfl vdX8_projectOf ⟨Nat.le_of_ble_eq_true rfl, Nat.le_of_ble_eq_true rfl⟩) (oB.recv hK hM.1 rfl) (W8.mu hM (by simp only [mV, zu, Int.reduceEq, reduceIte])) hK rfl hl.1 rfl dX8_writeReason_47 hcs (Nat.le_of_ble_eq_true rfl) ?_
        have hpj := hI.pjr (f := f) (Or.inr (by omega))
        refine lv_iload_n (pc := 50) E.1 E.2 dX8_writeReason_50 rfl (lv_at hl 2 rfl) ?_
        refine z_i2l (pc := 51) E ⟨by omega, by omega⟩ dX8_writeReason_51 ?_
        refine z_lconst (pc := 52) (v := 1) E (by decide) dX8_writeReason_52 ?_
        refine z_rVi (pc := 53) (As := [.int (iI (pjF σ f)), .long (iL b), .long (iL 1)]) (rest := []) E hml hown hts (mX8_reasonFor lL G o (zu μ 4 0) σ φ κ β ω (pjF σ f) b 1 hI (by omega) (by omega) (by omega)) (cwV 3 hts gX8_writeReason_X8_reasonFor rfl rfl rfl vdX8_reasonFor ⟨Nat.le_of_ble_eq_true rfl, Nat.le_of_ble_eq_true rfl⟩) (oB.recv hK hM.1 rfl) (W8.mu hM (by simp only [mV, zu, Int.reduceEq, reduceIte])) hK rfl hl.1 rfl dX8_writeReason_53 hcs (Nat.le_of_ble_eq_true rfl) ?_
        exact z_retWi E hr (congrArg iI (by have e0 : (kxWriteR σ f b) = 0 := (by unfold kxWriteR; (repeat' split) <;> first | rfl | omega | (exfalso; omega) | contradiction); rw [e0]; refine Eq.trans ?_ (if_pos rfl).symm; rfl)) (by have e0 : (kxWriteR σ f b) = 0 := (by unfold kxWriteR; (repeat' split) <;> first | rfl | omega | (exfalso; omega) | contradiction); rw [e0]; exact W8.mu hM (by simp only [mV, zu, Int.reduceEq, reduceIte])) hS hlocks dX8_writeReason_56
      · exact absurd h37 (by decide)
  · refine z_iconst (pc := 9) E dX8_writeReason_9 ?_
    refine lv_goto (pc := 10) (tgt := 30) E.1 E.2 dX8_writeReason_10 (by decide) ?_
    refine p8_4 (pc := 30) E hts hin8 hown hK hM.1 hS (Ax.at 0 (by decide)) (hts _ (List.mem_of_getElem? (i := 2) rfl)) dX8_writeReason_30 (fun H locs hnew hoth hS => ?_)
    have hM := W8.p hM hnew (fun a _ h => hoth a h)
    refine lv_aload_n (pc := 33) E.1 E.2 dX8_writeReason_33 rfl (lv_at hl 0 rfl) ?_
    refine g8_4 (pc := 34) E hts hin8 hown hK hM.1 (hts _ (List.mem_of_getElem? (i := 2) rfl)) dX8_writeReason_34 ?_
    refine z_if_le (pc := 37) (tgt := 44) E (by decide) dX8_writeReason_37 (by decide) (fun h37 => ?_) (fun h37 => ?_)
    · exact absurd h37 (by decide)
    · refine z_iconst (pc := 40) E dX8_writeReason_40 ?_
      refine lv_goto (pc := 41) (tgt := 56) E.1 E.2 dX8_writeReason_41 (by decide) ?_
      exact z_retWi E hr (congrArg iI (by have e0 : (kxWriteR σ f b) = 1 := (by unfold kxWriteR; (repeat' split) <;> first | rfl | omega | (exfalso; omega) | contradiction); rw [e0]; exact (if_neg (by decide)).symm)) (by have e0 : (kxWriteR σ f b) = 1 := (by unfold kxWriteR; (repeat' split) <;> first | rfl | omega | (exfalso; omega) | contradiction); rw [e0]; exact W8.mu hM (by simp only [mV, zu, Int.reduceEq, reduceIte])) hS hlocks dX8_writeReason_56
set_option maxHeartbeats 1000000 in
set_option maxRecDepth 100000 in
theorem mX8_tagReason (lL : Launch) (G : GG) (o : Nat → Nat) (μ σ φ κ β ω : Int → Int) (f : Int) (t : Int) (hI : In σ) (hf : -2147483648 ≤ f ∧ f < 2147483648) (ht : -2147483648 ≤ t ∧ t < 2147483648) : Met lL yX8_tagReason wsX8_tagReason ({ frames := 6, cells := 0, slots := 0, locals := 146 } : Room) (va_Pc [.ref (o 0), .int (iI f), .int (iI t)] (fun U => W8 G o (mV o μ) σ φ κ β ω U.heap ∧ KK G U)) (va_Qi (fun r (_ : Unit) => r = (iI (if (kxTagR σ f t) = 0 then rtS σ f t else 0))) (fun _ tZ => W8 G o (mV o (zu μ 4 (kxTagR σ f t))) σ φ κ β ω tZ.heap) (Ax o 6)) 0 0 (Ax o 6) := by
  refine z_met (P := (fun H : Heap => W8 G o (mV o μ) σ φ κ β ω H)) (by decide) rfl (Nat.le_of_ble_eq_true rfl) (fun pp ee ss mm below meth cC E hr hml hown hts hlocks hM hK ls hl => ?_)
  have hl : lv_has ls 3 [(0, .ref (o 0)), (1, .int (iI f)), (2, .int (iI t))] := hl
  have hcs : 0 ≤ (({ frames := 6, cells := 0, slots := 0, locals := 146 } : Room)).cells ∧ 0 ≤ (({ frames := 6, cells := 0, slots := 0, locals := 146 } : Room)).slots := ⟨Nat.zero_le _, Nat.zero_le _⟩
  have hS : va_S (Ax o 6) ss.heap ss.heap [] := va_S.rf
  have hin8 : ∀ w ∈ wsX80, w ∈ wsX8_tagReason := fun w h => List.mem_cons_of_mem _ (List.mem_append_right _ (h))
  have hF := hI.F
  have hMm := hI.M
  have hGn := hI.Gn
  have hTi := hI.ti
  have hGr := hI.gr
  refine lv_aload_n (pc := 0) E.1 E.2 dX8_tagReason_0 rfl (lv_at hl 0 rfl) ?_
  refine lv_aload_n (pc := 1) E.1 E.2 dX8_tagReason_1 rfl (lv_at hl 0 rfl) ?_
  refine lv_iload_n (pc := 2) E.1 E.2 dX8_tagReason_2 rfl (lv_at hl 1 rfl) ?_
  refine z_rVi (pc := 3) (As := [.int (iI f)]) (rest := [.ref (o 0)]) E hml hown hts (mX8_isFolder lL G o μ σ φ κ β ω f hI (by omega)) (cwV 1 hts gX8_tagReason_X8_isFolder rfl rfl rfl vdX8_isFolder ⟨Nat.le_of_ble_eq_true rfl, Nat.le_of_ble_eq_true rfl⟩) (oB.recv hK hM.1 rfl) hM hK rfl hl.1 rfl dX8_tagReason_3 hcs (Nat.le_of_ble_eq_true rfl) ?_
  refine z_ifb_ne (pc := 6) (tgt := 13) E dX8_tagReason_6 (by decide) (fun h6 => ?_) (fun h6 => ?_)
  · refine lv_iload_n (pc := 13) E.1 E.2 dX8_tagReason_13 rfl (lv_at hl 2 rfl) ?_
    refine z_i2l (pc := 14) E ⟨by omega, by omega⟩ dX8_tagReason_14 ?_
    refine lv_ldc2 (pc := 15) (v := iL (-1)) E.1 E.2 hown (show (Jvm.Cond.constantLong RX8 37 (iL (-1))).before _ ss = true from (hts _ (List.mem_of_getElem? (i := 1) rfl))) dX8_tagReason_15 ?_
    refine lv_ldc2 (pc := 18) (v := iL (7)) E.1 E.2 hown (show (Jvm.Cond.constantLong RX8 189 (iL (7))).before _ ss = true from (hts _ (List.mem_of_getElem? (i := 2) rfl))) dX8_tagReason_18 ?_
    refine z_rSi (pc := 21) (P := fun _ => True) (As := [.long (iL t), .long (iL (-1)), .long (iL 7)]) (rest := [.ref (o 0)]) E hml hown hts (mX8_isIn lL G t (-1) 7 ⟨by omega, by omega⟩ ⟨by omega, by omega⟩ ⟨by omega, by omega⟩) (va_cwS 3 hts gX8_tagReason_X8_isIn rfl rfl rfl vdX8_isIn.2 ⟨Nat.le_of_ble_eq_true rfl, Nat.le_of_ble_eq_true rfl⟩) trivial hK rfl hl.1 rfl dX8_tagReason_21 hcs (Nat.le_of_ble_eq_true rfl) ?_
    refine z_ifb_eq (pc := 24) (tgt := 31) E dX8_tagReason_24 (by decide) (fun h24 => ?_) (fun h24 => ?_)
    · refine z_iconst (pc := 31) E dX8_tagReason_31 ?_
      refine p8_4 (pc := 32) E hts hin8 hown hK hM.1 hS (Ax.at 0 (by decide)) (hts _ (List.mem_of_getElem? (i := 3) rfl)) dX8_tagReason_32 (fun H locs hnew hoth hS => ?_)
      have hM := W8.p hM hnew (fun a _ h => hoth a h)
      refine lv_aload_n (pc := 35) E.1 E.2 dX8_tagReason_35 rfl (lv_at hl 0 rfl) ?_
      refine g8_4 (pc := 36) E hts hin8 hown hK hM.1 (hts _ (List.mem_of_getElem? (i := 3) rfl)) dX8_tagReason_36 ?_
      refine z_if_le (pc := 39) (tgt := 46) E (by decide) dX8_tagReason_39 (by decide) (fun h39 => ?_) (fun h39 => ?_)
      · exact absurd h39 (by decide)
      · refine z_iconst (pc := 42) E dX8_tagReason_42 ?_
        refine lv_goto (pc := 43) (tgt := 52) E.1 E.2 dX8_tagReason_43 (by decide) ?_
        exact z_retWi E hr (congrArg iI (by have e0 : (kxTagR σ f t) = 2 := (by unfold kxTagR; (repeat' split) <;> first | rfl | omega | (exfalso; omega) | contradiction); rw [e0]; exact (if_neg (by decide)).symm)) (by have e0 : (kxTagR σ f t) = 2 := (by unfold kxTagR; (repeat' split) <;> first | rfl | omega | (exfalso; omega) | contradiction); rw [e0]; exact W8.mu hM (by simp only [mV, zu, Int.reduceEq, reduceIte])) hS hlocks dX8_tagReason_52
    · refine z_iconst (pc := 27) E dX8_tagReason_27 ?_
      refine lv_goto (pc := 28) (tgt := 32) E.1 E.2 dX8_tagReason_28 (by decide) ?_
      refine p8_4 (pc := 32) E hts hin8 hown hK hM.1 hS (Ax.at 0 (by decide)) (hts _ (List.mem_of_getElem? (i := 3) rfl)) dX8_tagReason_32 (fun H locs hnew hoth hS => ?_)
      have hM := W8.p hM hnew (fun a _ h => hoth a h)
      refine lv_aload_n (pc := 35) E.1 E.2 dX8_tagReason_35 rfl (lv_at hl 0 rfl) ?_
      refine g8_4 (pc := 36) E hts hin8 hown hK hM.1 (hts _ (List.mem_of_getElem? (i := 3) rfl)) dX8_tagReason_36 ?_
      refine z_if_le (pc := 39) (tgt := 46) E (by decide) dX8_tagReason_39 (by decide) (fun h39 => ?_) (fun h39 => ?_)
      · refine lv_aload_n (pc := 46) E.1 E.2 dX8_tagReason_46 rfl (lv_at hl 0 rfl) ?_
        refine lv_iload_n (pc := 47) E.1 E.2 dX8_tagReason_47 rfl (lv_at hl 1 rfl) ?_
        refine lv_iload_n (pc := 48) E.1 E.2 dX8_tagReason_48 rfl (lv_at hl 2 rfl) ?_
        refine z_rVi (pc := 49) (As := [.int (iI f), .int (iI t)]) (rest := []) E hml hown hts (mX8_reasonToTag lL G o (zu μ 4 0) σ φ κ β ω f t hI (by omega) (by omega)) (cwV 2 hts gX8_tagReason_X8_reasonToTag rfl rfl rfl vdX8_reasonToTag ⟨Nat.le_of_ble_eq_true rfl, Nat.le_of_ble_eq_true rfl⟩) (oB.recv hK hM.1 rfl) (W8.mu hM (by simp only [mV, zu, Int.reduceEq, reduceIte])) hK rfl hl.1 rfl dX8_tagReason_49 hcs (Nat.le_of_ble_eq_true rfl) ?_
        exact z_retWi E hr (congrArg iI (by have e0 : (kxTagR σ f t) = 0 := (by unfold kxTagR; (repeat' split) <;> first | rfl | omega | (exfalso; omega) | contradiction); rw [e0]; refine Eq.trans ?_ (if_pos rfl).symm; rfl)) (by have e0 : (kxTagR σ f t) = 0 := (by unfold kxTagR; (repeat' split) <;> first | rfl | omega | (exfalso; omega) | contradiction); rw [e0]; exact W8.mu hM (by simp only [mV, zu, Int.reduceEq, reduceIte])) hS hlocks dX8_tagReason_52
      · exact absurd h39 (by decide)
  · refine z_iconst (pc := 9) E dX8_tagReason_9 ?_
    refine lv_goto (pc := 10) (tgt := 32) E.1 E.2 dX8_tagReason_10 (by decide) ?_
    refine p8_4 (pc := 32) E hts hin8 hown hK hM.1 hS (Ax.at 0 (by decide)) (hts _ (List.mem_of_getElem? (i := 3) rfl)) dX8_tagReason_32 (fun H locs hnew hoth hS => ?_)
    have hM := W8.p hM hnew (fun a _ h => hoth a h)
    refine lv_aload_n (pc := 35) E.1 E.2 dX8_tagReason_35 rfl (lv_at hl 0 rfl) ?_
    refine g8_4 (pc := 36) E hts hin8 hown hK hM.1 (hts _ (List.mem_of_getElem? (i := 3) rfl)) dX8_tagReason_36 ?_
    refine z_if_le (pc := 39) (tgt := 46) E (by decide) dX8_tagReason_39 (by decide) (fun h39 => ?_) (fun h39 => ?_)
    · exact absurd h39 (by decide)
    · refine z_iconst (pc := 42) E dX8_tagReason_42 ?_
      refine lv_goto (pc := 43) (tgt := 52) E.1 E.2 dX8_tagReason_43 (by decide) ?_
      exact z_retWi E hr (congrArg iI (by have e0 : (kxTagR σ f t) = 1 := (by unfold kxTagR; (repeat' split) <;> first | rfl | omega | (exfalso; omega) | contradiction); rw [e0]; exact (if_neg (by decide)).symm)) (by have e0 : (kxTagR σ f t) = 1 := (by unfold kxTagR; (repeat' split) <;> first | rfl | omega | (exfalso; omega) | contradiction); rw [e0]; exact W8.mu hM (by simp only [mV, zu, Int.reduceEq, reduceIte])) hS hlocks dX8_tagReason_52
set_option maxHeartbeats 1000000 in
set_option maxRecDepth 100000 in
theorem mX8_moveReason (lL : Launch) (G : GG) (o : Nat → Nat) (μ σ φ κ β ω : Int → Int) (f : Int) (q : Int) (hI : In σ) (hf : -2147483648 ≤ f ∧ f < 2147483648) (hq : -2147483648 ≤ q ∧ q < 2147483648) : Met lL yX8_moveReason wsX8_moveReason ({ frames := 6, cells := 0, slots := 0, locals := 146 } : Room) (va_Pc [.ref (o 0), .int (iI f), .int (iI q)] (fun U => W8 G o (mV o μ) σ φ κ β ω U.heap ∧ KK G U)) (va_Qi (fun r (_ : Unit) => r = (iI (if (kxMoveR σ f q) = 0 then rmS σ f q else 0))) (fun _ tZ => W8 G o (mV o (zu μ 4 (kxMoveR σ f q))) σ φ κ β ω tZ.heap) (Ax o 6)) 0 0 (Ax o 6) := by
  refine z_met (P := (fun H : Heap => W8 G o (mV o μ) σ φ κ β ω H)) (by decide) rfl (Nat.le_of_ble_eq_true rfl) (fun pp ee ss mm below meth cC E hr hml hown hts hlocks hM hK ls hl => ?_)
  have hl : lv_has ls 3 [(0, .ref (o 0)), (1, .int (iI f)), (2, .int (iI q))] := hl
  have hcs : 0 ≤ (({ frames := 6, cells := 0, slots := 0, locals := 146 } : Room)).cells ∧ 0 ≤ (({ frames := 6, cells := 0, slots := 0, locals := 146 } : Room)).slots := ⟨Nat.zero_le _, Nat.zero_le _⟩
  have hS : va_S (Ax o 6) ss.heap ss.heap [] := va_S.rf
  have hin8 : ∀ w ∈ wsX80, w ∈ wsX8_moveReason := fun w h => List.mem_cons_of_mem _ (List.mem_append_right _ (h))
  have hF := hI.F
  have hMm := hI.M
  have hGn := hI.Gn
  have hTi := hI.ti
  have hGr := hI.gr
  refine lv_aload_n (pc := 0) E.1 E.2 dX8_moveReason_0 rfl (lv_at hl 0 rfl) ?_
  refine lv_aload_n (pc := 1) E.1 E.2 dX8_moveReason_1 rfl (lv_at hl 0 rfl) ?_
  refine lv_iload_n (pc := 2) E.1 E.2 dX8_moveReason_2 rfl (lv_at hl 1 rfl) ?_
  refine z_rVi (pc := 3) (As := [.int (iI f)]) (rest := [.ref (o 0)]) E hml hown hts (mX8_isFolder lL G o μ σ φ κ β ω f hI (by omega)) (cwV 1 hts gX8_moveReason_X8_isFolder rfl rfl rfl vdX8_isFolder ⟨Nat.le_of_ble_eq_true rfl, Nat.le_of_ble_eq_true rfl⟩) (oB.recv hK hM.1 rfl) hM hK rfl hl.1 rfl dX8_moveReason_3 hcs (Nat.le_of_ble_eq_true rfl) ?_
  refine z_ifb_eq (pc := 6) (tgt := 21) E dX8_moveReason_6 (by decide) (fun h6 => ?_) (fun h6 => ?_)
  · refine z_iconst (pc := 21) E dX8_moveReason_21 ?_
    refine p8_4 (pc := 22) E hts hin8 hown hK hM.1 hS (Ax.at 0 (by decide)) (hts _ (List.mem_of_getElem? (i := 1) rfl)) dX8_moveReason_22 (fun H locs hnew hoth hS => ?_)
    have hM := W8.p hM hnew (fun a _ h => hoth a h)
    refine lv_aload_n (pc := 25) E.1 E.2 dX8_moveReason_25 rfl (lv_at hl 0 rfl) ?_
    refine g8_4 (pc := 26) E hts hin8 hown hK hM.1 (hts _ (List.mem_of_getElem? (i := 1) rfl)) dX8_moveReason_26 ?_
    refine z_if_le (pc := 29) (tgt := 36) E (by decide) dX8_moveReason_29 (by decide) (fun h29 => ?_) (fun h29 => ?_)
    · exact absurd h29 (by decide)
    · refine z_iconst (pc := 32) E dX8_moveReason_32 ?_
      refine lv_goto (pc := 33) (tgt := 42) E.1 E.2 dX8_moveReason_33 (by decide) ?_
      exact z_retWi E hr (congrArg iI (by have e0 : (kxMoveR σ f q) = 1 := (by unfold kxMoveR; (repeat' split) <;> first | rfl | omega | (exfalso; omega) | contradiction); rw [e0]; exact (if_neg (by decide)).symm)) (by have e0 : (kxMoveR σ f q) = 1 := (by unfold kxMoveR; (repeat' split) <;> first | rfl | omega | (exfalso; omega) | contradiction); rw [e0]; exact W8.mu hM (by simp only [mV, zu, Int.reduceEq, reduceIte])) hS hlocks dX8_moveReason_42
  · refine lv_aload_n (pc := 9) E.1 E.2 dX8_moveReason_9 rfl (lv_at hl 0 rfl) ?_
    refine lv_iload_n (pc := 10) E.1 E.2 dX8_moveReason_10 rfl (lv_at hl 2 rfl) ?_
    refine z_rVi (pc := 11) (As := [.int (iI q)]) (rest := [.ref (o 0)]) E hml hown hts (mX8_isFolder lL G o μ σ φ κ β ω q hI (by omega)) (cwV 1 hts gX8_moveReason_X8_isFolder rfl rfl rfl vdX8_isFolder ⟨Nat.le_of_ble_eq_true rfl, Nat.le_of_ble_eq_true rfl⟩) (oB.recv hK hM.1 rfl) hM hK rfl hl.1 rfl dX8_moveReason_11 hcs (Nat.le_of_ble_eq_true rfl) ?_
    refine z_ifb_eq (pc := 14) (tgt := 21) E dX8_moveReason_14 (by decide) (fun h14 => ?_) (fun h14 => ?_)
    · refine z_iconst (pc := 21) E dX8_moveReason_21 ?_
      refine p8_4 (pc := 22) E hts hin8 hown hK hM.1 hS (Ax.at 0 (by decide)) (hts _ (List.mem_of_getElem? (i := 1) rfl)) dX8_moveReason_22 (fun H locs hnew hoth hS => ?_)
      have hM := W8.p hM hnew (fun a _ h => hoth a h)
      refine lv_aload_n (pc := 25) E.1 E.2 dX8_moveReason_25 rfl (lv_at hl 0 rfl) ?_
      refine g8_4 (pc := 26) E hts hin8 hown hK hM.1 (hts _ (List.mem_of_getElem? (i := 1) rfl)) dX8_moveReason_26 ?_
      refine z_if_le (pc := 29) (tgt := 36) E (by decide) dX8_moveReason_29 (by decide) (fun h29 => ?_) (fun h29 => ?_)
      · exact absurd h29 (by decide)
      · refine z_iconst (pc := 32) E dX8_moveReason_32 ?_
        refine lv_goto (pc := 33) (tgt := 42) E.1 E.2 dX8_moveReason_33 (by decide) ?_
        exact z_retWi E hr (congrArg iI (by have e0 : (kxMoveR σ f q) = 1 := (by unfold kxMoveR; (repeat' split) <;> first | rfl | omega | (exfalso; omega) | contradiction); rw [e0]; exact (if_neg (by decide)).symm)) (by have e0 : (kxMoveR σ f q) = 1 := (by unfold kxMoveR; (repeat' split) <;> first | rfl | omega | (exfalso; omega) | contradiction); rw [e0]; exact W8.mu hM (by simp only [mV, zu, Int.reduceEq, reduceIte])) hS hlocks dX8_moveReason_42
    · refine z_iconst (pc := 17) E dX8_moveReason_17 ?_
      refine lv_goto (pc := 18) (tgt := 22) E.1 E.2 dX8_moveReason_18 (by decide) ?_
      refine p8_4 (pc := 22) E hts hin8 hown hK hM.1 hS (Ax.at 0 (by decide)) (hts _ (List.mem_of_getElem? (i := 1) rfl)) dX8_moveReason_22 (fun H locs hnew hoth hS => ?_)
      have hM := W8.p hM hnew (fun a _ h => hoth a h)
      refine lv_aload_n (pc := 25) E.1 E.2 dX8_moveReason_25 rfl (lv_at hl 0 rfl) ?_
      refine g8_4 (pc := 26) E hts hin8 hown hK hM.1 (hts _ (List.mem_of_getElem? (i := 1) rfl)) dX8_moveReason_26 ?_
      refine z_if_le (pc := 29) (tgt := 36) E (by decide) dX8_moveReason_29 (by decide) (fun h29 => ?_) (fun h29 => ?_)
      · refine lv_aload_n (pc := 36) E.1 E.2 dX8_moveReason_36 rfl (lv_at hl 0 rfl) ?_
        refine lv_iload_n (pc := 37) E.1 E.2 dX8_moveReason_37 rfl (lv_at hl 1 rfl) ?_
        refine lv_iload_n (pc := 38) E.1 E.2 dX8_moveReason_38 rfl (lv_at hl 2 rfl) ?_
        refine z_rVi (pc := 39) (As := [.int (iI f), .int (iI q)]) (rest := []) E hml hown hts (mX8_reasonToMove lL G o (zu μ 4 0) σ φ κ β ω f q hI (by omega) (by omega)) (cwV 2 hts gX8_moveReason_X8_reasonToMove rfl rfl rfl vdX8_reasonToMove ⟨Nat.le_of_ble_eq_true rfl, Nat.le_of_ble_eq_true rfl⟩) (oB.recv hK hM.1 rfl) (W8.mu hM (by simp only [mV, zu, Int.reduceEq, reduceIte])) hK rfl hl.1 rfl dX8_moveReason_39 hcs (Nat.le_of_ble_eq_true rfl) ?_
        exact z_retWi E hr (congrArg iI (by have e0 : (kxMoveR σ f q) = 0 := (by unfold kxMoveR; (repeat' split) <;> first | rfl | omega | (exfalso; omega) | contradiction); rw [e0]; refine Eq.trans ?_ (if_pos rfl).symm; rfl)) (by have e0 : (kxMoveR σ f q) = 0 := (by unfold kxMoveR; (repeat' split) <;> first | rfl | omega | (exfalso; omega) | contradiction); rw [e0]; exact W8.mu hM (by simp only [mV, zu, Int.reduceEq, reduceIte])) hS hlocks dX8_moveReason_42
      · exact absurd h29 (by decide)
set_option maxHeartbeats 1000000 in
set_option maxRecDepth 100000 in
theorem mX8_lacks (lL : Launch) (G : GG) (o : Nat → Nat) (μ σ φ κ β ω : Int → Int) (p : Int) (k : Int) (hp : -2147483648 ≤ p ∧ p < 2147483648) (hk : -2147483648 ≤ k ∧ k < 2147483648) : Met lL yX8_lacks wsX8_lacks ({ frames := 2, cells := 0, slots := 0, locals := 45 } : Room) (va_Pc [.ref (o 0), .int (iI p), .int (iI k)] (fun U => W8 G o (mV o μ) σ φ κ β ω U.heap ∧ KK G U)) (va_Qi (fun r (_ : Unit) => r = (iI (if kxPK p k = 1 then 1 else 0))) (fun _ tZ => W8 G o (mV o (zu μ 4 (kxPK p k))) σ φ κ β ω tZ.heap) (Ax o 6)) 0 0 (Ax o 6) := by
  refine z_met (P := (fun H : Heap => W8 G o (mV o μ) σ φ κ β ω H)) (by decide) rfl (Nat.le_of_ble_eq_true rfl) (fun pp ee ss mm below meth cC E hr hml hown hts hlocks hM hK ls hl => ?_)
  have hl : lv_has ls 3 [(0, .ref (o 0)), (1, .int (iI p)), (2, .int (iI k))] := hl
  have hcs : 0 ≤ (({ frames := 2, cells := 0, slots := 0, locals := 45 } : Room)).cells ∧ 0 ≤ (({ frames := 2, cells := 0, slots := 0, locals := 45 } : Room)).slots := ⟨Nat.zero_le _, Nat.zero_le _⟩
  have hS : va_S (Ax o 6) ss.heap ss.heap [] := va_S.rf
  have hin8 : ∀ w ∈ wsX80, w ∈ wsX8_lacks := fun w h => List.mem_cons_of_mem _ (List.mem_append_right _ (h))
  refine lv_aload_n (pc := 0) E.1 E.2 dX8_lacks_0 rfl (lv_at hl 0 rfl) ?_
  refine lv_iload_n (pc := 1) E.1 E.2 dX8_lacks_1 rfl (lv_at hl 1 rfl) ?_
  refine z_rSi (pc := 2) (P := fun _ => True) (As := [.int (iI p)]) (rest := [.ref (o 0)]) E hml hown hts (mX8_isProject lL G p ⟨by omega, by omega⟩) (va_cwS 1 hts gX8_lacks_X8_isProject rfl rfl rfl vdX8_isProject.2 ⟨Nat.le_of_ble_eq_true rfl, Nat.le_of_ble_eq_true rfl⟩) trivial hK rfl hl.1 rfl dX8_lacks_2 hcs (Nat.le_of_ble_eq_true rfl) ?_
  refine z_ifb_eq (pc := 5) (tgt := 19) E dX8_lacks_5 (by decide) (fun h5 => ?_) (fun h5 => ?_)
  · refine z_iconst (pc := 19) E dX8_lacks_19 ?_
    refine p8_4 (pc := 20) E hts hin8 hown hK hM.1 hS (Ax.at 0 (by decide)) (hts _ (List.mem_of_getElem? (i := 1) rfl)) dX8_lacks_20 (fun H locs hnew hoth hS => ?_)
    have hM := W8.p hM hnew (fun a _ h => hoth a h)
    refine lv_aload_n (pc := 23) E.1 E.2 dX8_lacks_23 rfl (lv_at hl 0 rfl) ?_
    refine g8_4 (pc := 24) E hts hin8 hown hK hM.1 (hts _ (List.mem_of_getElem? (i := 1) rfl)) dX8_lacks_24 ?_
    refine z_if_le (pc := 27) (tgt := 34) E (by decide) dX8_lacks_27 (by decide) (fun h27 => ?_) (fun h27 => ?_)
    · exact absurd h27 (by decide)
    · refine z_iconst (pc := 30) E dX8_lacks_30 ?_
      refine lv_goto (pc := 31) (tgt := 35) E.1 E.2 dX8_lacks_31 (by decide) ?_
      exact z_retWz E hr rfl (congrArg iI (by rw [show kxPK p k = 1 by unfold kxPK; (repeat' split) <;> first | rfl | omega | (exfalso; omega) | contradiction]; rfl)) (W8.mu hM (by rw [show kxPK p k = 1 by unfold kxPK; (repeat' split) <;> first | rfl | omega | (exfalso; omega) | contradiction]; simp only [mV, zu, Int.reduceEq, reduceIte])) hS hlocks dX8_lacks_35
  · refine lv_iload_n (pc := 8) E.1 E.2 dX8_lacks_8 rfl (lv_at hl 2 rfl) ?_
    refine z_rSi (pc := 9) (P := fun _ => True) (As := [.int (iI k)]) (rest := [.ref (o 0)]) E hml hown hts (mX8_isKind lL G k ⟨by omega, by omega⟩) (va_cwS 1 hts gX8_lacks_X8_isKind rfl rfl rfl vdX8_isKind.2 ⟨Nat.le_of_ble_eq_true rfl, Nat.le_of_ble_eq_true rfl⟩) trivial hK rfl hl.1 rfl dX8_lacks_9 hcs (Nat.le_of_ble_eq_true rfl) ?_
    refine z_ifb_eq (pc := 12) (tgt := 19) E dX8_lacks_12 (by decide) (fun h12 => ?_) (fun h12 => ?_)
    · refine z_iconst (pc := 19) E dX8_lacks_19 ?_
      refine p8_4 (pc := 20) E hts hin8 hown hK hM.1 hS (Ax.at 0 (by decide)) (hts _ (List.mem_of_getElem? (i := 1) rfl)) dX8_lacks_20 (fun H locs hnew hoth hS => ?_)
      have hM := W8.p hM hnew (fun a _ h => hoth a h)
      refine lv_aload_n (pc := 23) E.1 E.2 dX8_lacks_23 rfl (lv_at hl 0 rfl) ?_
      refine g8_4 (pc := 24) E hts hin8 hown hK hM.1 (hts _ (List.mem_of_getElem? (i := 1) rfl)) dX8_lacks_24 ?_
      refine z_if_le (pc := 27) (tgt := 34) E (by decide) dX8_lacks_27 (by decide) (fun h27 => ?_) (fun h27 => ?_)
      · exact absurd h27 (by decide)
      · refine z_iconst (pc := 30) E dX8_lacks_30 ?_
        refine lv_goto (pc := 31) (tgt := 35) E.1 E.2 dX8_lacks_31 (by decide) ?_
        exact z_retWz E hr rfl (congrArg iI (by rw [show kxPK p k = 1 by unfold kxPK; (repeat' split) <;> first | rfl | omega | (exfalso; omega) | contradiction]; rfl)) (W8.mu hM (by rw [show kxPK p k = 1 by unfold kxPK; (repeat' split) <;> first | rfl | omega | (exfalso; omega) | contradiction]; simp only [mV, zu, Int.reduceEq, reduceIte])) hS hlocks dX8_lacks_35
    · refine z_iconst (pc := 15) E dX8_lacks_15 ?_
      refine lv_goto (pc := 16) (tgt := 20) E.1 E.2 dX8_lacks_16 (by decide) ?_
      refine p8_4 (pc := 20) E hts hin8 hown hK hM.1 hS (Ax.at 0 (by decide)) (hts _ (List.mem_of_getElem? (i := 1) rfl)) dX8_lacks_20 (fun H locs hnew hoth hS => ?_)
      have hM := W8.p hM hnew (fun a _ h => hoth a h)
      refine lv_aload_n (pc := 23) E.1 E.2 dX8_lacks_23 rfl (lv_at hl 0 rfl) ?_
      refine g8_4 (pc := 24) E hts hin8 hown hK hM.1 (hts _ (List.mem_of_getElem? (i := 1) rfl)) dX8_lacks_24 ?_
      refine z_if_le (pc := 27) (tgt := 34) E (by decide) dX8_lacks_27 (by decide) (fun h27 => ?_) (fun h27 => ?_)
      · refine z_iconst (pc := 34) E dX8_lacks_34 ?_
        exact z_retWz E hr rfl (congrArg iI (by rw [show kxPK p k = 0 by unfold kxPK; (repeat' split) <;> first | rfl | omega | (exfalso; omega) | contradiction]; rfl)) (W8.mu hM (by rw [show kxPK p k = 0 by unfold kxPK; (repeat' split) <;> first | rfl | omega | (exfalso; omega) | contradiction]; simp only [mV, zu, Int.reduceEq, reduceIte])) hS hlocks dX8_lacks_35
      · exact absurd h27 (by decide)
set_option maxHeartbeats 1000000 in
set_option maxRecDepth 100000 in
theorem mX8_used (lL : Launch) (G : GG) (o : Nat → Nat) (μ σ φ κ β ω : Int → Int) (p : Int) (k : Int) (hI : In σ) (hp : -2147483648 ≤ p ∧ p < 2147483648) (hk : -2147483648 ≤ k ∧ k < 2147483648) : Met lL yX8_used wsX8_used ({ frames := 3, cells := 0, slots := 0, locals := 67 } : Room) (va_Pc [.ref (o 0), .int (iI p), .int (iI k)] (fun U => W8 G o (mV o μ) σ φ κ β ω U.heap ∧ KK G U)) (va_Qi (fun r (_ : Unit) => r = (iI (if (kxPK p k) = 0 then σ (37 + (2 * p + k)) else 0))) (fun _ tZ => W8 G o (mV o (zu μ 4 (kxPK p k))) σ φ κ β ω tZ.heap) (Ax o 6)) 0 0 (Ax o 6) := by
  refine z_met (P := (fun H : Heap => W8 G o (mV o μ) σ φ κ β ω H)) (by decide) rfl (Nat.le_of_ble_eq_true rfl) (fun pp ee ss mm below meth cC E hr hml hown hts hlocks hM hK ls hl => ?_)
  have hl : lv_has ls 3 [(0, .ref (o 0)), (1, .int (iI p)), (2, .int (iI k))] := hl
  have hcs : 0 ≤ (({ frames := 3, cells := 0, slots := 0, locals := 67 } : Room)).cells ∧ 0 ≤ (({ frames := 3, cells := 0, slots := 0, locals := 67 } : Room)).slots := ⟨Nat.zero_le _, Nat.zero_le _⟩
  have hS : va_S (Ax o 6) ss.heap ss.heap [] := va_S.rf
  have hF := hI.F
  have hMm := hI.M
  have hGn := hI.Gn
  have hTi := hI.ti
  have hGr := hI.gr
  refine lv_aload_n (pc := 0) E.1 E.2 dX8_used_0 rfl (lv_at hl 0 rfl) ?_
  refine lv_iload_n (pc := 1) E.1 E.2 dX8_used_1 rfl (lv_at hl 1 rfl) ?_
  refine lv_iload_n (pc := 2) E.1 E.2 dX8_used_2 rfl (lv_at hl 2 rfl) ?_
  refine z_wVi (pc := 3) (As := [.int (iI p), .int (iI k)]) (rest := []) E hml hown hts (mX8_lacks lL G o μ σ φ κ β ω p k (by omega) (by omega)) (cwV 2 hts gX8_used_X8_lacks rfl rfl rfl vdX8_lacks ⟨Nat.le_of_ble_eq_true rfl, Nat.le_of_ble_eq_true rfl⟩) (oB.recv hK hM.1 rfl) hM hK hS (fun _ h => h) rfl hl.1 rfl dX8_used_3 hcs (Nat.le_of_ble_eq_true rfl) (fun H locs hnew hsz hoth hS => ?_)
  have hM : W8 G o [.ref (o 1), .ref (o 2), .ref (o 3), .int (iI (μ 3)), .int (iI (kxPK p k)), .ref (o 4), .int (iI (μ 6)), .int (iI (μ 7)), .int (iI (μ 8)), .int (iI (μ 9)), .int (iI (μ 10)), .int (iI (μ 11)), .int (iI (μ 12)), .int (iI (μ 13)), .int (iI (μ 14)), .long (iL (μ 15)), .ref (o 5), .int (iI (μ 17))] σ φ κ β ω H := W8.eq hnew (by simp only [mV, zu, Int.reduceEq, reduceIte])
  refine z_ifb_eq (pc := 6) (tgt := 13) E dX8_used_6 (by decide) (fun h6 => ?_) (fun h6 => ?_)
  · have hz := kxPK_0 h6
    have hz1 := hz.1
    have hp7 := hz.2.1
    have hk1 := hz.2.2
    refine lv_aload_n (pc := 13) E.1 E.2 dX8_used_13 rfl (lv_at hl 0 rfl) ?_
    refine lv_iload_n (pc := 14) E.1 E.2 dX8_used_14 rfl (lv_at hl 1 rfl) ?_
    refine lv_iload_n (pc := 15) E.1 E.2 dX8_used_15 rfl (lv_at hl 2 rfl) ?_
    refine z_rVl (pc := 16) (As := [.int (iI p), .int (iI k)]) (rest := []) E hml hown hts (mX8_usedOf lL G o (zu μ 4 (kxPK p k)) σ φ κ β ω p k (by omega) (by omega)) (cwV 2 hts gX8_used_X8_usedOf rfl rfl rfl vdX8_usedOf ⟨Nat.le_of_ble_eq_true rfl, Nat.le_of_ble_eq_true rfl⟩) (oB.recv hK hM.1 rfl) (W8.mu hM (by simp only [mV, zu, Int.reduceEq, reduceIte])) hK rfl hl.1 rfl dX8_used_16 hcs (Nat.le_of_ble_eq_true rfl) ?_
    refine z_l2i (pc := 19) E dX8_used_19 ?_
    exact z_retWi E hr (congrArg iI (by first | exact (if_pos hz1).symm | (refine Eq.trans ?_ (if_pos hz1).symm; rfl) | exact (if_neg (show ¬ kxPK p k = 0 by omega)).symm)) (W8.mu hM (by simp only [mV, zu, Int.reduceEq, reduceIte])) hS hlocks dX8_used_20
  · refine z_iconst (pc := 9) E dX8_used_9 ?_
    refine lv_goto (pc := 10) (tgt := 20) E.1 E.2 dX8_used_10 (by decide) ?_
    exact z_retWi E hr (congrArg iI (by first | exact (if_pos hz1).symm | (refine Eq.trans ?_ (if_pos hz1).symm; rfl) | exact (if_neg (show ¬ kxPK p k = 0 by omega)).symm)) (W8.mu hM (by simp only [mV, zu, Int.reduceEq, reduceIte])) hS hlocks dX8_used_20
set_option maxHeartbeats 1000000 in
set_option maxRecDepth 100000 in
theorem mX8_counted (lL : Launch) (G : GG) (o : Nat → Nat) (μ σ φ κ β ω : Int → Int) (p : Int) (k : Int) (hI : In σ) (hp : -2147483648 ≤ p ∧ p < 2147483648) (hk : -2147483648 ≤ k ∧ k < 2147483648) : Met lL yX8_counted wsX8_counted ({ frames := 3, cells := 0, slots := 0, locals := 68 } : Room) (va_Pc [.ref (o 0), .int (iI p), .int (iI k)] (fun U => W8 G o (mV o μ) σ φ κ β ω U.heap ∧ KK G U)) (va_Qi (fun r (_ : Unit) => r = (iI (if (kxPK p k) = 0 then coS σ p k else 0))) (fun _ tZ => W8 G o (mV o (zu μ 4 (kxPK p k))) σ φ κ β ω tZ.heap) (Ax o 6)) 0 0 (Ax o 6) := by
  refine z_met (P := (fun H : Heap => W8 G o (mV o μ) σ φ κ β ω H)) (by decide) rfl (Nat.le_of_ble_eq_true rfl) (fun pp ee ss mm below meth cC E hr hml hown hts hlocks hM hK ls hl => ?_)
  have hl : lv_has ls 3 [(0, .ref (o 0)), (1, .int (iI p)), (2, .int (iI k))] := hl
  have hcs : 0 ≤ (({ frames := 3, cells := 0, slots := 0, locals := 68 } : Room)).cells ∧ 0 ≤ (({ frames := 3, cells := 0, slots := 0, locals := 68 } : Room)).slots := ⟨Nat.zero_le _, Nat.zero_le _⟩
  have hS : va_S (Ax o 6) ss.heap ss.heap [] := va_S.rf
  have hF := hI.F
  have hMm := hI.M
  have hGn := hI.Gn
  have hTi := hI.ti
  have hGr := hI.gr
  refine lv_aload_n (pc := 0) E.1 E.2 dX8_counted_0 rfl (lv_at hl 0 rfl) ?_
  refine lv_iload_n (pc := 1) E.1 E.2 dX8_counted_1 rfl (lv_at hl 1 rfl) ?_
  refine lv_iload_n (pc := 2) E.1 E.2 dX8_counted_2 rfl (lv_at hl 2 rfl) ?_
  refine z_wVi (pc := 3) (As := [.int (iI p), .int (iI k)]) (rest := []) E hml hown hts (mX8_lacks lL G o μ σ φ κ β ω p k (by omega) (by omega)) (cwV 2 hts gX8_counted_X8_lacks rfl rfl rfl vdX8_lacks ⟨Nat.le_of_ble_eq_true rfl, Nat.le_of_ble_eq_true rfl⟩) (oB.recv hK hM.1 rfl) hM hK hS (fun _ h => h) rfl hl.1 rfl dX8_counted_3 hcs (Nat.le_of_ble_eq_true rfl) (fun H locs hnew hsz hoth hS => ?_)
  have hM : W8 G o [.ref (o 1), .ref (o 2), .ref (o 3), .int (iI (μ 3)), .int (iI (kxPK p k)), .ref (o 4), .int (iI (μ 6)), .int (iI (μ 7)), .int (iI (μ 8)), .int (iI (μ 9)), .int (iI (μ 10)), .int (iI (μ 11)), .int (iI (μ 12)), .int (iI (μ 13)), .int (iI (μ 14)), .long (iL (μ 15)), .ref (o 5), .int (iI (μ 17))] σ φ κ β ω H := W8.eq hnew (by simp only [mV, zu, Int.reduceEq, reduceIte])
  refine z_ifb_eq (pc := 6) (tgt := 13) E dX8_counted_6 (by decide) (fun h6 => ?_) (fun h6 => ?_)
  · have hz := kxPK_0 h6
    have hz1 := hz.1
    have hp7 := hz.2.1
    have hk1 := hz.2.2
    refine lv_aload_n (pc := 13) E.1 E.2 dX8_counted_13 rfl (lv_at hl 0 rfl) ?_
    refine lv_iload_n (pc := 14) E.1 E.2 dX8_counted_14 rfl (lv_at hl 1 rfl) ?_
    refine lv_iload_n (pc := 15) E.1 E.2 dX8_counted_15 rfl (lv_at hl 2 rfl) ?_
    refine z_rVl (pc := 16) (As := [.int (iI p), .int (iI k)]) (rest := []) E hml hown hts (mX8_countedOf lL G o (zu μ 4 (kxPK p k)) σ φ κ β ω p k hI (by omega) (by omega)) (cwV 2 hts gX8_counted_X8_countedOf rfl rfl rfl vdX8_countedOf ⟨Nat.le_of_ble_eq_true rfl, Nat.le_of_ble_eq_true rfl⟩) (oB.recv hK hM.1 rfl) (W8.mu hM (by simp only [mV, zu, Int.reduceEq, reduceIte])) hK rfl hl.1 rfl dX8_counted_16 hcs (Nat.le_of_ble_eq_true rfl) ?_
    refine z_l2i (pc := 19) E dX8_counted_19 ?_
    exact z_retWi E hr (congrArg iI (by first | exact (if_pos hz1).symm | (refine Eq.trans ?_ (if_pos hz1).symm; rfl) | exact (if_neg (show ¬ kxPK p k = 0 by omega)).symm)) (W8.mu hM (by simp only [mV, zu, Int.reduceEq, reduceIte])) hS hlocks dX8_counted_20
  · refine z_iconst (pc := 9) E dX8_counted_9 ?_
    refine lv_goto (pc := 10) (tgt := 20) E.1 E.2 dX8_counted_10 (by decide) ?_
    exact z_retWi E hr (congrArg iI (by first | exact (if_pos hz1).symm | (refine Eq.trans ?_ (if_pos hz1).symm; rfl) | exact (if_neg (show ¬ kxPK p k = 0 by omega)).symm)) (W8.mu hM (by simp only [mV, zu, Int.reduceEq, reduceIte])) hS hlocks dX8_counted_20
set_option maxHeartbeats 1000000 in
set_option maxRecDepth 100000 in
theorem mX8_limit (lL : Launch) (G : GG) (o : Nat → Nat) (μ σ φ κ β ω : Int → Int) (p : Int) (k : Int) (h : Int) (hI : In σ) (hp : -2147483648 ≤ p ∧ p < 2147483648) (hk : -2147483648 ≤ k ∧ k < 2147483648) (hh : h = 0 ∨ h = 1) : Met lL yX8_limit wsX8_limit ({ frames := 3, cells := 0, slots := 0, locals := 67 } : Room) (va_Pc [.ref (o 0), .int (iI p), .int (iI k), .int (iI h)] (fun U => W8 G o (mV o μ) σ φ κ β ω U.heap ∧ KK G U)) (va_Qi (fun r (_ : Unit) => r = (iI (if (kxPK p k) = 0 then lmS σ (if h = 0 then 5 else 21) p k else 0))) (fun _ tZ => W8 G o (mV o (zu μ 4 (kxPK p k))) σ φ κ β ω tZ.heap) (Ax o 6)) 0 0 (Ax o 6) := by
  refine z_met (P := (fun H : Heap => W8 G o (mV o μ) σ φ κ β ω H)) (by decide) rfl (Nat.le_of_ble_eq_true rfl) (fun pp ee ss mm below meth cC E hr hml hown hts hlocks hM hK ls hl => ?_)
  have hl : lv_has ls 4 [(0, .ref (o 0)), (1, .int (iI p)), (2, .int (iI k)), (3, .int (iI h))] := hl
  have hcs : 0 ≤ (({ frames := 3, cells := 0, slots := 0, locals := 67 } : Room)).cells ∧ 0 ≤ (({ frames := 3, cells := 0, slots := 0, locals := 67 } : Room)).slots := ⟨Nat.zero_le _, Nat.zero_le _⟩
  have hS : va_S (Ax o 6) ss.heap ss.heap [] := va_S.rf
  have hF := hI.F
  have hMm := hI.M
  have hGn := hI.Gn
  have hTi := hI.ti
  have hGr := hI.gr
  refine lv_aload_n (pc := 0) E.1 E.2 dX8_limit_0 rfl (lv_at hl 0 rfl) ?_
  refine lv_iload_n (pc := 1) E.1 E.2 dX8_limit_1 rfl (lv_at hl 1 rfl) ?_
  refine lv_iload_n (pc := 2) E.1 E.2 dX8_limit_2 rfl (lv_at hl 2 rfl) ?_
  refine z_wVi (pc := 3) (As := [.int (iI p), .int (iI k)]) (rest := []) E hml hown hts (mX8_lacks lL G o μ σ φ κ β ω p k (by omega) (by omega)) (cwV 2 hts gX8_limit_X8_lacks rfl rfl rfl vdX8_lacks ⟨Nat.le_of_ble_eq_true rfl, Nat.le_of_ble_eq_true rfl⟩) (oB.recv hK hM.1 rfl) hM hK hS (fun _ h => h) rfl hl.1 rfl dX8_limit_3 hcs (Nat.le_of_ble_eq_true rfl) (fun H locs hnew hsz hoth hS => ?_)
  have hM : W8 G o [.ref (o 1), .ref (o 2), .ref (o 3), .int (iI (μ 3)), .int (iI (kxPK p k)), .ref (o 4), .int (iI (μ 6)), .int (iI (μ 7)), .int (iI (μ 8)), .int (iI (μ 9)), .int (iI (μ 10)), .int (iI (μ 11)), .int (iI (μ 12)), .int (iI (μ 13)), .int (iI (μ 14)), .long (iL (μ 15)), .ref (o 5), .int (iI (μ 17))] σ φ κ β ω H := W8.eq hnew (by simp only [mV, zu, Int.reduceEq, reduceIte])
  refine z_ifb_eq (pc := 6) (tgt := 13) E dX8_limit_6 (by decide) (fun h6 => ?_) (fun h6 => ?_)
  · have hz := kxPK_0 h6
    have hz1 := hz.1
    have hp7 := hz.2.1
    have hk1 := hz.2.2
    refine lv_aload_n (pc := 13) E.1 E.2 dX8_limit_13 rfl (lv_at hl 0 rfl) ?_
    refine lv_iload_n (pc := 14) E.1 E.2 dX8_limit_14 rfl (lv_at hl 1 rfl) ?_
    refine lv_iload_n (pc := 15) E.1 E.2 dX8_limit_15 rfl (lv_at hl 2 rfl) ?_
    refine lv_iload_n (pc := 16) E.1 E.2 dX8_limit_16 rfl (lv_at hl 3 rfl) ?_
    refine z_rVl (pc := 17) (As := [.int (iI p), .int (iI k), .int (iI h)]) (rest := []) E hml hown hts (mX8_limitOf lL G o (zu μ 4 (kxPK p k)) σ φ κ β ω p k h hI (by omega) (by omega) (by omega)) (cwV 3 hts gX8_limit_X8_limitOf rfl rfl rfl vdX8_limitOf ⟨Nat.le_of_ble_eq_true rfl, Nat.le_of_ble_eq_true rfl⟩) (oB.recv hK hM.1 rfl) (W8.mu hM (by simp only [mV, zu, Int.reduceEq, reduceIte])) hK rfl hl.1 rfl dX8_limit_17 hcs (Nat.le_of_ble_eq_true rfl) ?_
    refine z_l2i (pc := 20) E dX8_limit_20 ?_
    exact z_retWi E hr (congrArg iI (by first | exact (if_pos hz1).symm | (refine Eq.trans ?_ (if_pos hz1).symm; rfl) | exact (if_neg (show ¬ kxPK p k = 0 by omega)).symm)) (W8.mu hM (by simp only [mV, zu, Int.reduceEq, reduceIte])) hS hlocks dX8_limit_21
  · refine z_iconst (pc := 9) E dX8_limit_9 ?_
    refine lv_goto (pc := 10) (tgt := 21) E.1 E.2 dX8_limit_10 (by decide) ?_
    exact z_retWi E hr (congrArg iI (by first | exact (if_pos hz1).symm | (refine Eq.trans ?_ (if_pos hz1).symm; rfl) | exact (if_neg (show ¬ kxPK p k = 0 by omega)).symm)) (W8.mu hM (by simp only [mV, zu, Int.reduceEq, reduceIte])) hS hlocks dX8_limit_21
set_option maxHeartbeats 1000000 in
set_option maxRecDepth 100000 in
theorem mX8_state (lL : Launch) (G : GG) (o : Nat → Nat) (μ σ φ κ β ω : Int → Int) (p : Int) (k : Int) (hI : In σ) (hp : -2147483648 ≤ p ∧ p < 2147483648) (hk : -2147483648 ≤ k ∧ k < 2147483648) : Met lL yX8_state wsX8_state ({ frames := 4, cells := 0, slots := 0, locals := 98 } : Room) (va_Pc [.ref (o 0), .int (iI p), .int (iI k)] (fun U => W8 G o (mV o μ) σ φ κ β ω U.heap ∧ KK G U)) (va_Qi (fun r (_ : Unit) => r = (iI (if (kxPK p k) = 0 then stS σ p k else 0))) (fun _ tZ => W8 G o (mV o (zu μ 4 (kxPK p k))) σ φ κ β ω tZ.heap) (Ax o 6)) 0 0 (Ax o 6) := by
  refine z_met (P := (fun H : Heap => W8 G o (mV o μ) σ φ κ β ω H)) (by decide) rfl (Nat.le_of_ble_eq_true rfl) (fun pp ee ss mm below meth cC E hr hml hown hts hlocks hM hK ls hl => ?_)
  have hl : lv_has ls 3 [(0, .ref (o 0)), (1, .int (iI p)), (2, .int (iI k))] := hl
  have hcs : 0 ≤ (({ frames := 4, cells := 0, slots := 0, locals := 98 } : Room)).cells ∧ 0 ≤ (({ frames := 4, cells := 0, slots := 0, locals := 98 } : Room)).slots := ⟨Nat.zero_le _, Nat.zero_le _⟩
  have hS : va_S (Ax o 6) ss.heap ss.heap [] := va_S.rf
  have hF := hI.F
  have hMm := hI.M
  have hGn := hI.Gn
  have hTi := hI.ti
  have hGr := hI.gr
  refine lv_aload_n (pc := 0) E.1 E.2 dX8_state_0 rfl (lv_at hl 0 rfl) ?_
  refine lv_iload_n (pc := 1) E.1 E.2 dX8_state_1 rfl (lv_at hl 1 rfl) ?_
  refine lv_iload_n (pc := 2) E.1 E.2 dX8_state_2 rfl (lv_at hl 2 rfl) ?_
  refine z_wVi (pc := 3) (As := [.int (iI p), .int (iI k)]) (rest := []) E hml hown hts (mX8_lacks lL G o μ σ φ κ β ω p k (by omega) (by omega)) (cwV 2 hts gX8_state_X8_lacks rfl rfl rfl vdX8_lacks ⟨Nat.le_of_ble_eq_true rfl, Nat.le_of_ble_eq_true rfl⟩) (oB.recv hK hM.1 rfl) hM hK hS (fun _ h => h) rfl hl.1 rfl dX8_state_3 hcs (Nat.le_of_ble_eq_true rfl) (fun H locs hnew hsz hoth hS => ?_)
  have hM : W8 G o [.ref (o 1), .ref (o 2), .ref (o 3), .int (iI (μ 3)), .int (iI (kxPK p k)), .ref (o 4), .int (iI (μ 6)), .int (iI (μ 7)), .int (iI (μ 8)), .int (iI (μ 9)), .int (iI (μ 10)), .int (iI (μ 11)), .int (iI (μ 12)), .int (iI (μ 13)), .int (iI (μ 14)), .long (iL (μ 15)), .ref (o 5), .int (iI (μ 17))] σ φ κ β ω H := W8.eq hnew (by simp only [mV, zu, Int.reduceEq, reduceIte])
  refine z_ifb_eq (pc := 6) (tgt := 13) E dX8_state_6 (by decide) (fun h6 => ?_) (fun h6 => ?_)
  · have hz := kxPK_0 h6
    have hz1 := hz.1
    have hp7 := hz.2.1
    have hk1 := hz.2.2
    refine lv_aload_n (pc := 13) E.1 E.2 dX8_state_13 rfl (lv_at hl 0 rfl) ?_
    refine lv_iload_n (pc := 14) E.1 E.2 dX8_state_14 rfl (lv_at hl 1 rfl) ?_
    refine lv_iload_n (pc := 15) E.1 E.2 dX8_state_15 rfl (lv_at hl 2 rfl) ?_
    refine z_rVi (pc := 16) (As := [.int (iI p), .int (iI k)]) (rest := []) E hml hown hts (mX8_stateOf lL G o (zu μ 4 (kxPK p k)) σ φ κ β ω p k hI (by omega) (by omega)) (cwV 2 hts gX8_state_X8_stateOf rfl rfl rfl vdX8_stateOf ⟨Nat.le_of_ble_eq_true rfl, Nat.le_of_ble_eq_true rfl⟩) (oB.recv hK hM.1 rfl) (W8.mu hM (by simp only [mV, zu, Int.reduceEq, reduceIte])) hK rfl hl.1 rfl dX8_state_16 hcs (Nat.le_of_ble_eq_true rfl) ?_
    exact z_retWi E hr (congrArg iI (by first | exact (if_pos hz1).symm | (refine Eq.trans ?_ (if_pos hz1).symm; rfl) | exact (if_neg (show ¬ kxPK p k = 0 by omega)).symm)) (W8.mu hM (by simp only [mV, zu, Int.reduceEq, reduceIte])) hS hlocks dX8_state_19
  · refine z_iconst (pc := 9) E dX8_state_9 ?_
    refine lv_goto (pc := 10) (tgt := 19) E.1 E.2 dX8_state_10 (by decide) ?_
    exact z_retWi E hr (congrArg iI (by first | exact (if_pos hz1).symm | (refine Eq.trans ?_ (if_pos hz1).symm; rfl) | exact (if_neg (show ¬ kxPK p k = 0 by omega)).symm)) (W8.mu hM (by simp only [mV, zu, Int.reduceEq, reduceIte])) hS hlocks dX8_state_19
set_option maxHeartbeats 1000000 in
set_option maxRecDepth 100000 in
theorem mX8_graceLeft (lL : Launch) (G : GG) (o : Nat → Nat) (μ σ φ κ β ω : Int → Int) (p : Int) (k : Int) (hI : In σ) (hp : -2147483648 ≤ p ∧ p < 2147483648) (hk : -2147483648 ≤ k ∧ k < 2147483648) : Met lL yX8_graceLeft wsX8_graceLeft ({ frames := 3, cells := 0, slots := 0, locals := 67 } : Room) (va_Pc [.ref (o 0), .int (iI p), .int (iI k)] (fun U => W8 G o (mV o μ) σ φ κ β ω U.heap ∧ KK G U)) (va_Qi (fun r (_ : Unit) => r = (iI (if (kxPK p k) = 0 then axGrace σ p k else 0))) (fun _ tZ => W8 G o (mV o (zu μ 4 (kxPK p k))) σ φ κ β ω tZ.heap) (Ax o 6)) 0 0 (Ax o 6) := by
  refine z_met (P := (fun H : Heap => W8 G o (mV o μ) σ φ κ β ω H)) (by decide) rfl (Nat.le_of_ble_eq_true rfl) (fun pp ee ss mm below meth cC E hr hml hown hts hlocks hM hK ls hl => ?_)
  have hl : lv_has ls 3 [(0, .ref (o 0)), (1, .int (iI p)), (2, .int (iI k))] := hl
  have hcs : 0 ≤ (({ frames := 3, cells := 0, slots := 0, locals := 67 } : Room)).cells ∧ 0 ≤ (({ frames := 3, cells := 0, slots := 0, locals := 67 } : Room)).slots := ⟨Nat.zero_le _, Nat.zero_le _⟩
  have hS : va_S (Ax o 6) ss.heap ss.heap [] := va_S.rf
  have hin8 : ∀ w ∈ wsX80, w ∈ wsX8_graceLeft := fun w h => List.mem_cons_of_mem _ (List.mem_append_right _ (h))
  have hF := hI.F
  have hMm := hI.M
  have hGn := hI.Gn
  have hTi := hI.ti
  have hGr := hI.gr
  refine lv_aload_n (pc := 0) E.1 E.2 dX8_graceLeft_0 rfl (lv_at hl 0 rfl) ?_
  refine lv_iload_n (pc := 1) E.1 E.2 dX8_graceLeft_1 rfl (lv_at hl 1 rfl) ?_
  refine lv_iload_n (pc := 2) E.1 E.2 dX8_graceLeft_2 rfl (lv_at hl 2 rfl) ?_
  refine z_wVi (pc := 3) (As := [.int (iI p), .int (iI k)]) (rest := []) E hml hown hts (mX8_lacks lL G o μ σ φ κ β ω p k (by omega) (by omega)) (cwV 2 hts gX8_graceLeft_X8_lacks rfl rfl rfl vdX8_lacks ⟨Nat.le_of_ble_eq_true rfl, Nat.le_of_ble_eq_true rfl⟩) (oB.recv hK hM.1 rfl) hM hK hS (fun _ h => h) rfl hl.1 rfl dX8_graceLeft_3 hcs (Nat.le_of_ble_eq_true rfl) (fun H locs hnew hsz hoth hS => ?_)
  have hM : W8 G o [.ref (o 1), .ref (o 2), .ref (o 3), .int (iI (μ 3)), .int (iI (kxPK p k)), .ref (o 4), .int (iI (μ 6)), .int (iI (μ 7)), .int (iI (μ 8)), .int (iI (μ 9)), .int (iI (μ 10)), .int (iI (μ 11)), .int (iI (μ 12)), .int (iI (μ 13)), .int (iI (μ 14)), .long (iL (μ 15)), .ref (o 5), .int (iI (μ 17))] σ φ κ β ω H := W8.eq hnew (by simp only [mV, zu, Int.reduceEq, reduceIte])
  refine z_ifb_eq (pc := 6) (tgt := 11) E dX8_graceLeft_6 (by decide) (fun h6 => ?_) (fun h6 => ?_)
  · have hz := kxPK_0 h6
    have hz1 := hz.1
    have hp7 := hz.2.1
    have hk1 := hz.2.2
    refine lv_aload_n (pc := 11) E.1 E.2 dX8_graceLeft_11 rfl (lv_at hl 0 rfl) ?_
    refine lv_iload_n (pc := 12) E.1 E.2 dX8_graceLeft_12 rfl (lv_at hl 1 rfl) ?_
    refine lv_iload_n (pc := 13) E.1 E.2 dX8_graceLeft_13 rfl (lv_at hl 2 rfl) ?_
    refine z_rVi (pc := 14) (As := [.int (iI p), .int (iI k)]) (rest := []) E hml hown hts (mX8_doesRun lL G o (zu μ 4 (kxPK p k)) σ φ κ β ω p k hI (by omega) (by omega)) (cwV 2 hts gX8_graceLeft_X8_doesRun rfl rfl rfl vdX8_doesRun ⟨Nat.le_of_ble_eq_true rfl, Nat.le_of_ble_eq_true rfl⟩) (oB.recv hK hM.1 rfl) (W8.mu hM (by simp only [mV, zu, Int.reduceEq, reduceIte])) hK rfl hl.1 rfl dX8_graceLeft_14 hcs (Nat.le_of_ble_eq_true rfl) ?_
    refine z_ifb_eq (pc := 17) (tgt := 55) E dX8_graceLeft_17 (by decide) (fun h17 => ?_) (fun h17 => ?_)
    · refine z_iconst (pc := 55) E dX8_graceLeft_55 ?_
      exact z_retWi E hr (congrArg iI (by first | exact (if_pos hz1).symm | (refine Eq.trans ?_ (if_pos hz1).symm; unfold axGrace; (repeat' split) <;> first | rfl | omega | (exfalso; omega)) | exact (if_neg (show ¬ kxPK p k = 0 by omega)).symm)) (W8.mu hM (by simp only [mV, zu, Int.reduceEq, reduceIte])) hS hlocks dX8_graceLeft_56
    · refine z_lconst (pc := 20) (v := 0) E (by decide) dX8_graceLeft_20 ?_
      refine lv_aload_n (pc := 21) E.1 E.2 dX8_graceLeft_21 rfl (lv_at hl 0 rfl) ?_
      refine g8_0 (pc := 22) E hts hin8 hown hK hM.1 (hts _ (List.mem_of_getElem? (i := 1) rfl)) dX8_graceLeft_22 ?_
      refine z_bipush (pc := 25) E (by decide) dX8_graceLeft_25 ?_
      refine lv_iload_n (pc := 27) E.1 E.2 dX8_graceLeft_27 rfl (lv_at hl 1 rfl) ?_
      refine lv_iload_n (pc := 28) E.1 E.2 dX8_graceLeft_28 rfl (lv_at hl 2 rfl) ?_
      refine z_rSi (pc := 29) (P := fun _ => True) (As := [.int (iI p), .int (iI k)]) (rest := [.int (iI 53), .ref (o 1), .long (iL 0)]) E hml hown hts (mX8_place lL G p k) (va_cwS 2 hts gX8_graceLeft_X8_place rfl rfl rfl vdX8_place.2 ⟨Nat.le_of_ble_eq_true rfl, Nat.le_of_ble_eq_true rfl⟩) trivial hK rfl hl.1 rfl dX8_graceLeft_29 hcs (Nat.le_of_ble_eq_true rfl) ?_
      have hac := hI.acc (k := 2 * p + k) (by omega) (by omega)
      refine z_iadd (pc := 32) E dX8_graceLeft_32 ?_
      refine z_laload (pc := 33) E hK hM.2.1 ⟨by omega, by omega⟩ (by decide) dX8_graceLeft_33 ?_
      have hb33 := hI.bd (53 + (2 * p + k))
      refine lv_aload_n (pc := 34) E.1 E.2 dX8_graceLeft_34 rfl (lv_at hl 0 rfl) ?_
      refine g8_0 (pc := 35) E hts hin8 hown hK hM.1 (hts _ (List.mem_of_getElem? (i := 1) rfl)) dX8_graceLeft_35 ?_
      refine z_iconst (pc := 38) E dX8_graceLeft_38 ?_
      refine z_laload (pc := 39) E hK hM.2.1 ⟨by omega, by omega⟩ (by decide) dX8_graceLeft_39 ?_
      have hb39 := hI.bd 1
      refine z_ladd (pc := 40) E dX8_graceLeft_40 ?_
      refine lv_aload_n (pc := 41) E.1 E.2 dX8_graceLeft_41 rfl (lv_at hl 0 rfl) ?_
      refine g8_0 (pc := 42) E hts hin8 hown hK hM.1 (hts _ (List.mem_of_getElem? (i := 1) rfl)) dX8_graceLeft_42 ?_
      refine z_iconst (pc := 45) E dX8_graceLeft_45 ?_
      refine z_laload (pc := 46) E hK hM.2.1 ⟨by omega, by omega⟩ (by decide) dX8_graceLeft_46 ?_
      have hb46 := hI.bd 0
      refine z_lsub (pc := 47) E dX8_graceLeft_47 ?_
      refine z_rSl (pc := 48) (P := fun _ => True) (As := [.long (iL 0), .long (iL (((σ (53 + (2 * p + k))) + (σ 1)) - (σ 0)))]) (rest := []) E hml hown hts (mX8_greater lL G 0 (((σ (53 + (2 * p + k))) + (σ 1)) - (σ 0)) ⟨by omega, by omega⟩ ⟨by omega, by omega⟩) (va_cwS 2 hts gX8_graceLeft_X8_greater rfl rfl rfl vdX8_greater.2 ⟨Nat.le_of_ble_eq_true rfl, Nat.le_of_ble_eq_true rfl⟩) trivial hK rfl hl.1 rfl dX8_graceLeft_48 hcs (Nat.le_of_ble_eq_true rfl) ?_
      refine z_l2i (pc := 51) E dX8_graceLeft_51 ?_
      refine lv_goto (pc := 52) (tgt := 56) E.1 E.2 dX8_graceLeft_52 (by decide) ?_
      exact z_retWi E hr (congrArg iI (by first | exact (if_pos hz1).symm | (refine Eq.trans ?_ (if_pos hz1).symm; unfold axGrace; (repeat' split) <;> first | rfl | omega | (exfalso; omega)) | exact (if_neg (show ¬ kxPK p k = 0 by omega)).symm)) (W8.mu hM (by simp only [mV, zu, Int.reduceEq, reduceIte])) hS hlocks dX8_graceLeft_56
  · refine z_iconst (pc := 9) E dX8_graceLeft_9 ?_
    exact z_retWi E hr (congrArg iI (by first | exact (if_pos hz1).symm | (refine Eq.trans ?_ (if_pos hz1).symm; unfold axGrace; (repeat' split) <;> first | rfl | omega | (exfalso; omega)) | exact (if_neg (show ¬ kxPK p k = 0 by omega)).symm)) (W8.mu hM (by simp only [mV, zu, Int.reduceEq, reduceIte])) hS hlocks dX8_graceLeft_10
set_option maxHeartbeats 1000000 in
set_option maxRecDepth 100000 in
theorem mX8_giftOf (lL : Launch) (G : GG) (o : Nat → Nat) (μ σ φ κ β ω : Int → Int) (g : Int) (w : Int) (hI : In σ) (hg : -2147483648 ≤ g ∧ g < 2147483648) (hw : -2147483648 ≤ w ∧ w < 2147483648) : Met lL yX8_giftOf wsX8_giftOf ({ frames := 2, cells := 0, slots := 0, locals := 46 } : Room) (va_Pc [.ref (o 0), .int (iI g), .int (iI w)] (fun U => W8 G o (mV o μ) σ φ κ β ω U.heap ∧ KK G U)) (va_Qi (fun r (_ : Unit) => r = (iI (if (kxGiftO σ g w) = 0 then σ (309 + 4 * g + w) else 0))) (fun _ tZ => W8 G o (mV o (zu μ 4 (kxGiftO σ g w))) σ φ κ β ω tZ.heap) (Ax o 6)) 0 0 (Ax o 6) := by
  refine z_met (P := (fun H : Heap => W8 G o (mV o μ) σ φ κ β ω H)) (by decide) rfl (Nat.le_of_ble_eq_true rfl) (fun pp ee ss mm below meth cC E hr hml hown hts hlocks hM hK ls hl => ?_)
  have hl : lv_has ls 3 [(0, .ref (o 0)), (1, .int (iI g)), (2, .int (iI w))] := hl
  have hcs : 0 ≤ (({ frames := 2, cells := 0, slots := 0, locals := 46 } : Room)).cells ∧ 0 ≤ (({ frames := 2, cells := 0, slots := 0, locals := 46 } : Room)).slots := ⟨Nat.zero_le _, Nat.zero_le _⟩
  have hS : va_S (Ax o 6) ss.heap ss.heap [] := va_S.rf
  have hin8 : ∀ w ∈ wsX80, w ∈ wsX8_giftOf := fun w h => List.mem_cons_of_mem _ (List.mem_append_right _ (h))
  have hF := hI.F
  have hMm := hI.M
  have hGn := hI.Gn
  have hTi := hI.ti
  have hGr := hI.gr
  refine lv_aload_n (pc := 0) E.1 E.2 dX8_giftOf_0 rfl (lv_at hl 0 rfl) ?_
  refine lv_aload_n (pc := 1) E.1 E.2 dX8_giftOf_1 rfl (lv_at hl 0 rfl) ?_
  refine lv_iload_n (pc := 2) E.1 E.2 dX8_giftOf_2 rfl (lv_at hl 1 rfl) ?_
  refine z_rVi (pc := 3) (As := [.int (iI g)]) (rest := [.ref (o 0)]) E hml hown hts (mX8_isGift lL G o μ σ φ κ β ω g hI (by omega)) (cwV 1 hts gX8_giftOf_X8_isGift rfl rfl rfl vdX8_isGift ⟨Nat.le_of_ble_eq_true rfl, Nat.le_of_ble_eq_true rfl⟩) (oB.recv hK hM.1 rfl) hM hK rfl hl.1 rfl dX8_giftOf_3 hcs (Nat.le_of_ble_eq_true rfl) ?_
  refine z_ifb_ne (pc := 6) (tgt := 13) E dX8_giftOf_6 (by decide) (fun h6 => ?_) (fun h6 => ?_)
  · refine lv_iload_n (pc := 13) E.1 E.2 dX8_giftOf_13 rfl (lv_at hl 2 rfl) ?_
    refine z_i2l (pc := 14) E ⟨by omega, by omega⟩ dX8_giftOf_14 ?_
    refine z_lconst (pc := 15) (v := 0) E (by decide) dX8_giftOf_15 ?_
    refine lv_ldc2 (pc := 16) (v := iL (3)) E.1 E.2 hown (show (Jvm.Cond.constantLong RX8 360 (iL (3))).before _ ss = true from (hts _ (List.mem_of_getElem? (i := 1) rfl))) dX8_giftOf_16 ?_
    refine z_rSi (pc := 19) (P := fun _ => True) (As := [.long (iL w), .long (iL 0), .long (iL 3)]) (rest := [.ref (o 0)]) E hml hown hts (mX8_isIn lL G w 0 3 ⟨by omega, by omega⟩ ⟨by omega, by omega⟩ ⟨by omega, by omega⟩) (va_cwS 3 hts gX8_giftOf_X8_isIn rfl rfl rfl vdX8_isIn.2 ⟨Nat.le_of_ble_eq_true rfl, Nat.le_of_ble_eq_true rfl⟩) trivial hK rfl hl.1 rfl dX8_giftOf_19 hcs (Nat.le_of_ble_eq_true rfl) ?_
    refine z_ifb_eq (pc := 22) (tgt := 29) E dX8_giftOf_22 (by decide) (fun h22 => ?_) (fun h22 => ?_)
    · refine z_iconst (pc := 29) E dX8_giftOf_29 ?_
      refine p8_4 (pc := 30) E hts hin8 hown hK hM.1 hS (Ax.at 0 (by decide)) (hts _ (List.mem_of_getElem? (i := 2) rfl)) dX8_giftOf_30 (fun H locs hnew hoth hS => ?_)
      have hM := W8.p hM hnew (fun a _ h => hoth a h)
      refine lv_aload_n (pc := 33) E.1 E.2 dX8_giftOf_33 rfl (lv_at hl 0 rfl) ?_
      refine g8_4 (pc := 34) E hts hin8 hown hK hM.1 (hts _ (List.mem_of_getElem? (i := 2) rfl)) dX8_giftOf_34 ?_
      refine z_if_le (pc := 37) (tgt := 44) E (by decide) dX8_giftOf_37 (by decide) (fun h37 => ?_) (fun h37 => ?_)
      · exact absurd h37 (by decide)
      · refine z_iconst (pc := 40) E dX8_giftOf_40 ?_
        refine lv_goto (pc := 41) (tgt := 59) E.1 E.2 dX8_giftOf_41 (by decide) ?_
        exact z_retWi E hr (congrArg iI (by have e0 : (kxGiftO σ g w) = 2 := (by unfold kxGiftO; (repeat' split) <;> first | rfl | omega | (exfalso; omega) | contradiction); rw [e0]; exact (if_neg (by decide)).symm)) (by have e0 : (kxGiftO σ g w) = 2 := (by unfold kxGiftO; (repeat' split) <;> first | rfl | omega | (exfalso; omega) | contradiction); rw [e0]; exact W8.mu hM (by simp only [mV, zu, Int.reduceEq, reduceIte])) hS hlocks dX8_giftOf_59
    · refine z_iconst (pc := 25) E dX8_giftOf_25 ?_
      refine lv_goto (pc := 26) (tgt := 30) E.1 E.2 dX8_giftOf_26 (by decide) ?_
      refine p8_4 (pc := 30) E hts hin8 hown hK hM.1 hS (Ax.at 0 (by decide)) (hts _ (List.mem_of_getElem? (i := 2) rfl)) dX8_giftOf_30 (fun H locs hnew hoth hS => ?_)
      have hM := W8.p hM hnew (fun a _ h => hoth a h)
      refine lv_aload_n (pc := 33) E.1 E.2 dX8_giftOf_33 rfl (lv_at hl 0 rfl) ?_
      refine g8_4 (pc := 34) E hts hin8 hown hK hM.1 (hts _ (List.mem_of_getElem? (i := 2) rfl)) dX8_giftOf_34 ?_
      refine z_if_le (pc := 37) (tgt := 44) E (by decide) dX8_giftOf_37 (by decide) (fun h37 => ?_) (fun h37 => ?_)
      · refine lv_aload_n (pc := 44) E.1 E.2 dX8_giftOf_44 rfl (lv_at hl 0 rfl) ?_
        refine g8_0 (pc := 45) E hts hin8 hown hK hM.1 (hts _ (List.mem_of_getElem? (i := 3) rfl)) dX8_giftOf_45 ?_
        refine z_sipush (pc := 48) E (by decide) dX8_giftOf_48 ?_
        refine z_iconst (pc := 51) E dX8_giftOf_51 ?_
        refine lv_iload_n (pc := 52) E.1 E.2 dX8_giftOf_52 rfl (lv_at hl 1 rfl) ?_
        refine z_imul (pc := 53) E dX8_giftOf_53 ?_
        refine z_iadd (pc := 54) E dX8_giftOf_54 ?_
        refine lv_iload_n (pc := 55) E.1 E.2 dX8_giftOf_55 rfl (lv_at hl 2 rfl) ?_
        refine z_iadd (pc := 56) E dX8_giftOf_56 ?_
        refine z_laload (pc := 57) E hK hM.2.1 ⟨by omega, by omega⟩ (by decide) dX8_giftOf_57 ?_
        have hb57 := hI.bd ((309 + (4 * g)) + w)
        refine z_l2i (pc := 58) E dX8_giftOf_58 ?_
        exact z_retWi E hr (congrArg iI (by have e0 : (kxGiftO σ g w) = 0 := (by unfold kxGiftO; (repeat' split) <;> first | rfl | omega | (exfalso; omega) | contradiction); rw [e0]; refine Eq.trans ?_ (if_pos rfl).symm; rfl)) (by have e0 : (kxGiftO σ g w) = 0 := (by unfold kxGiftO; (repeat' split) <;> first | rfl | omega | (exfalso; omega) | contradiction); rw [e0]; exact W8.mu hM (by simp only [mV, zu, Int.reduceEq, reduceIte])) hS hlocks dX8_giftOf_59
      · exact absurd h37 (by decide)
  · refine z_iconst (pc := 9) E dX8_giftOf_9 ?_
    refine lv_goto (pc := 10) (tgt := 30) E.1 E.2 dX8_giftOf_10 (by decide) ?_
    refine p8_4 (pc := 30) E hts hin8 hown hK hM.1 hS (Ax.at 0 (by decide)) (hts _ (List.mem_of_getElem? (i := 2) rfl)) dX8_giftOf_30 (fun H locs hnew hoth hS => ?_)
    have hM := W8.p hM hnew (fun a _ h => hoth a h)
    refine lv_aload_n (pc := 33) E.1 E.2 dX8_giftOf_33 rfl (lv_at hl 0 rfl) ?_
    refine g8_4 (pc := 34) E hts hin8 hown hK hM.1 (hts _ (List.mem_of_getElem? (i := 2) rfl)) dX8_giftOf_34 ?_
    refine z_if_le (pc := 37) (tgt := 44) E (by decide) dX8_giftOf_37 (by decide) (fun h37 => ?_) (fun h37 => ?_)
    · exact absurd h37 (by decide)
    · refine z_iconst (pc := 40) E dX8_giftOf_40 ?_
      refine lv_goto (pc := 41) (tgt := 59) E.1 E.2 dX8_giftOf_41 (by decide) ?_
      exact z_retWi E hr (congrArg iI (by have e0 : (kxGiftO σ g w) = 1 := (by unfold kxGiftO; (repeat' split) <;> first | rfl | omega | (exfalso; omega) | contradiction); rw [e0]; exact (if_neg (by decide)).symm)) (by have e0 : (kxGiftO σ g w) = 1 := (by unfold kxGiftO; (repeat' split) <;> first | rfl | omega | (exfalso; omega) | contradiction); rw [e0]; exact W8.mu hM (by simp only [mV, zu, Int.reduceEq, reduceIte])) hS hlocks dX8_giftOf_59
