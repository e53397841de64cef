theorem vdX8_setsClocks : yX8_setsClocks.cls = RX8 ∧ yX8_setsClocks.cls ≠ "java/lang/invoke/MethodHandle" ∧ yX8_setsClocks.cls ≠ "java/lang/invoke/VarHandle" ∧ (parseMethodDescriptor yX8_setsClocks.desc).map (fun d => d.parameters.length) = some 0 := by decide +kernel
set_option maxHeartbeats 1000000 in
set_option maxRecDepth 100000 in
theorem mX8_setsClocks (lL : Launch) (G : GG) (o : Nat → Nat) (μ σ φ κ β ω : Int → Int) (hI : In σ) : Met lL yX8_setsClocks wsX8_setsClocks ({ frames := 2, cells := 0, slots := 0, locals := 50 } : Room) (va_Pc [.ref (o 0)] (fun U => W8 G o (mV o μ) σ φ κ β ω U.heap ∧ KK G U)) (va_Qv (fun _ : Unit => True) (fun _ tZ => W8 G o (mV o μ) (scA σ 16) φ κ β ω tZ.heap) (Ax o 6)) 0 0 (Ax o 6) := by
  refine z_met (P := (fun H : Heap => W8 G o (mV o μ) σ φ κ β ω H)) (by decide) rfl (Nat.le_of_ble_eq_true rfl) (fun pp ee ss mm below meth cC E hr hml hown hts hlocks hM hK ls hl => ?_)
  have hl : lv_has ls 5 [(0, .ref (o 0))] := hl
  have hcs : 0 ≤ (({ frames := 2, cells := 0, slots := 0, locals := 50 } : Room)).cells ∧ 0 ≤ (({ frames := 2, cells := 0, slots := 0, locals := 50 } : Room)).slots := ⟨Nat.zero_le _, Nat.zero_le _⟩
  have hS : va_S (Ax o 6) ss.heap ss.heap [] := va_S.rf
  have hin8 : ∀ w ∈ wsX80, w ∈ wsX8_setsClocks := fun w h => List.mem_cons_of_mem _ (List.mem_append_right _ (h))
  have hF := hI.F
  have hMm := hI.M
  have hGn := hI.Gn
  refine z_iconst (pc := 0) E dX8_setsClocks_0 ?_
  refine lv_istore_n (pc := 1) (lv' := [(1, .int (iI 0)), (0, .ref (o 0))]) E.1 E.2 dX8_setsClocks_1 rfl hl (by decide) rfl (fun ls hl => ?_)
  suffices L2 : ∀ (nf : Nat), ∀ (i : Int), (0 ≤ i ∧ i ≤ 16) → ((16 - i).toNat) < nf → ∀  (H : Heap) (locs : List Loc), W8 G o [.ref (o 1), .ref (o 2), .ref (o 3), .int (iI (μ 3)), .int (iI (μ 4)), .ref (o 4), .int (iI (μ 6)), .int (iI (μ 7)), .int (iI (μ 8)), .int (iI (μ 9)), .int (iI (μ 10)), .int (iI (μ 11)), .int (iI (μ 12)), .int (iI (μ 13)), .int (iI (μ 14)), .long (iL (μ 15)), .ref (o 5), .int (iI (μ 17))] (scA σ i) φ κ β ω H → va_S (Ax o 6) ss.heap H locs → ∀ ls : Array Slot, lv_has ls 5 [(1, .int (iI i)), (0, .ref (o 0))] → W pp lL ee ({ frames := 2, cells := 0, slots := 0, locals := 50 } : Room) ss mm [.ref (o 0)].toArray below meth cC H locs 0 0 (MQ below (va_Qv (fun _ : Unit => True) (fun _ tZ => W8 G o (mV o μ) (scA σ 16) φ κ β ω tZ.heap) (Ax o 6)) [.ref (o 0)].toArray ss 0 0 (Ax o 6)) (F0 mm 2 ls []) from L2 _ 0 (by omega) (Nat.lt_succ_self _)  _ _ (by rw [scA_0]; exact hM) hS ls (lv_sub hl [0, 1] rfl)
  intro nfL2
  induction nfL2 with
  | zero => intro i hi hmzL2; exact absurd hmzL2 (Nat.not_lt_zero _)
  | succ nfL2 ihL2 =>
    intro i hi hmzL2  H locs hM hS ls hl
    refine lv_iload_n (pc := 2) E.1 E.2 dX8_setsClocks_2 rfl (lv_at hl 0 rfl) ?_
    refine z_bipush (pc := 3) E (by decide) dX8_setsClocks_3 ?_
    refine z_icmp_ge (pc := 5) (tgt := 109) E ⟨by omega, by omega⟩ (by decide) dX8_setsClocks_5 (by decide) (fun h5 => ?_) (fun h5 => ?_)
    · have ei : i = 16 := by omega
      subst ei
      exact z_retWv E hr hM hS hlocks dX8_setsClocks_109
    · have hI2 := hI.sc hi
      have hac := hI.acc hi.1 (by omega)
      have hl5 := hI.lmb (t := 5) (p := i / 2) (k := i % 2) (Or.inl rfl) (by omega) (by omega)
      refine lv_aload_n (pc := 8) E.1 E.2 dX8_setsClocks_8 rfl (lv_at hl 1 rfl) ?_
      refine lv_iload_n (pc := 9) E.1 E.2 dX8_setsClocks_9 rfl (lv_at hl 0 rfl) ?_
      refine z_iconst (pc := 10) E dX8_setsClocks_10 ?_
      refine z_idivN (pc := 11) E ⟨by omega, by omega⟩ ⟨by omega, by omega⟩ dX8_setsClocks_11 ?_
      refine lv_iload_n (pc := 12) E.1 E.2 dX8_setsClocks_12 rfl (lv_at hl 0 rfl) ?_
      refine z_iconst (pc := 13) E dX8_setsClocks_13 ?_
      refine z_iremN (pc := 14) E ⟨by omega, by omega⟩ ⟨by omega, by omega⟩ dX8_setsClocks_14 ?_
      refine z_iconst (pc := 15) E dX8_setsClocks_15 ?_
      refine z_rVl (pc := 16) (As := [.int (iI (i / 2)), .int (iI (i % 2)), .int (iI 0)]) (rest := []) E hml hown hts (mX8_limitOf lL G o μ (scA σ i) φ κ β ω (i / 2) (i % 2) 0 hI2 (by omega) (by omega) (Or.inl rfl)) (cwV 3 hts gX8_setsClocks_X8_limitOf rfl rfl rfl vdX8_limitOf ⟨Nat.le_of_ble_eq_true rfl, Nat.le_of_ble_eq_true rfl⟩) (oB.recv hK hM.1 rfl) hM hK rfl hl.1 rfl dX8_setsClocks_16 hcs (Nat.le_of_ble_eq_true rfl) ?_
      rw [show (lmS (scA σ i) (if (0 : Int) = 0 then 5 else 21) (i / 2) (i % 2)) = (lmS σ 5 (i / 2) (i % 2)) from (by rw [if_pos rfl]; exact lmS_sc σ hi (Or.inl rfl) (by omega) (by omega))]
      refine lv_lstore_n (pc := 19) (lv' := [(2, .long (iL (lmS σ 5 (i / 2) (i % 2)))), (1, .int (iI i)), (0, .ref (o 0))]) E.1 E.2 dX8_setsClocks_19 rfl hl (by decide) rfl (fun ls hl => ?_)
      refine lv_lload_n (pc := 20) E.1 E.2 dX8_setsClocks_20 rfl (lv_at hl 0 rfl) ?_
      refine lv_ldc2 (pc := 21) (v := iL (-1)) E.1 E.2 hown (show (Jvm.Cond.constantLong RX8 37 (iL (-1))).before _ ss = true from (hts _ (List.mem_of_getElem? (i := 1) rfl))) dX8_setsClocks_21 ?_
      refine z_lcmp_eq (pc := 24) (tgt := 46) E ⟨by omega, by omega⟩ (by decide) dX8_setsClocks_24 dX8_setsClocks_25 (by decide) (fun h24 => ?_) (fun h24 => ?_)
      · refine z_iconst (pc := 46) E dX8_setsClocks_46 ?_
        refine lv_istore (pc := 47) (lv' := [(4, .int (iI 0)), (2, .long (iL (lmS σ 5 (i / 2) (i % 2)))), (1, .int (iI i)), (0, .ref (o 0))]) E.1 E.2 dX8_setsClocks_47 hl (by decide) rfl (fun ls hl => ?_)
        refine lv_aload_n (pc := 49) E.1 E.2 dX8_setsClocks_49 rfl (lv_at hl 3 rfl) ?_
        refine g8_0 (pc := 50) E hts hin8 hown hK hM.1 (hts _ (List.mem_of_getElem? (i := 2) rfl)) dX8_setsClocks_50 ?_
        refine z_bipush (pc := 53) E (by decide) dX8_setsClocks_53 ?_
        refine lv_iload_n (pc := 55) E.1 E.2 dX8_setsClocks_55 rfl (lv_at hl 2 rfl) ?_
        refine z_iadd (pc := 56) E dX8_setsClocks_56 ?_
        refine lv_iload (pc := 57) E.1 E.2 dX8_setsClocks_57 (lv_at hl 0 rfl) ?_
        refine z_if_ne (pc := 59) (tgt := 68) E (by decide) dX8_setsClocks_59 (by decide) (fun h59 => ?_) (fun h59 => ?_)
        · exact absurd h59 (by decide)
        · refine lv_ldc2 (pc := 62) (v := iL (-1)) E.1 E.2 hown (show (Jvm.Cond.constantLong RX8 37 (iL (-1))).before _ ss = true from (hts _ (List.mem_of_getElem? (i := 1) rfl))) dX8_setsClocks_62 ?_
          refine lv_goto (pc := 65) (tgt := 102) E.1 E.2 dX8_setsClocks_65 (by decide) ?_
          refine z_lastore (pc := 102) E hK hM.2.1 hS (Ax.at 1 (by decide)) ⟨by omega, by omega⟩ (by decide) dX8_setsClocks_102 (fun H locs hnew hoth hS => ?_)
          have hM := W8.a1 hM hnew (fun a _ h => hoth a h)
          refine lv_iinc (pc := 103) (v := iI (i + 1)) (lv' := [(1, .int (iI (i + 1))), (4, .int (iI 0)), (2, .long (iL (lmS σ 5 (i / 2) (i % 2)))), (0, .ref (o 0))]) E.1 E.2 dX8_setsClocks_103 hl (k := 2) rfl (iI_add _ _) (by decide) rfl (fun ls hl => ?_)
          refine lv_goto (pc := 106) (tgt := 2) E.1 E.2 dX8_setsClocks_106 (by decide) ?_
          exact ihL2 (i + 1) (by omega) (by omega)  _ _ (by rw [← scA_s σ hi.1]; unfold ckS; first | (rw [if_pos ⟨h24, h38⟩, if_pos h80]; exact hM) | (rw [if_pos ⟨h24, h38⟩, if_neg h80]; exact hM) | (rw [if_neg (fun q => h24x q.1)]; exact hM) | (rw [if_neg (fun q => by have := q.2; omega)]; exact hM) | (rw [if_neg (fun q => q.1 h24)]; exact hM)) hS ls (lv_sub hl [0, 3] rfl)
      · refine lv_aload_n (pc := 28) E.1 E.2 dX8_setsClocks_28 rfl (lv_at hl 2 rfl) ?_
        refine g8_0 (pc := 29) E hts hin8 hown hK hM.1 (hts _ (List.mem_of_getElem? (i := 2) rfl)) dX8_setsClocks_29 ?_
        refine z_bipush (pc := 32) E (by decide) dX8_setsClocks_32 ?_
        refine lv_iload_n (pc := 34) E.1 E.2 dX8_setsClocks_34 rfl (lv_at hl 1 rfl) ?_
        refine z_iadd (pc := 35) E dX8_setsClocks_35 ?_
        refine z_laload (pc := 36) E hK hM.2.1 ⟨by omega, by omega⟩ (by decide) dX8_setsClocks_36 ?_
        rw [show ((scA σ i) (37 + i)) = (σ (37 + i)) from (scA_n σ i (by omega))]
        refine lv_lload_n (pc := 37) E.1 E.2 dX8_setsClocks_37 rfl (lv_at hl 0 rfl) ?_
        refine z_lcmp_le (pc := 38) (tgt := 46) E ⟨by omega, by omega⟩ ⟨by omega, by omega⟩ dX8_setsClocks_38 dX8_setsClocks_39 (by decide) (fun h38 => ?_) (fun h38 => ?_)
        · refine z_iconst (pc := 46) E dX8_setsClocks_46 ?_
          refine lv_istore (pc := 47) (lv' := [(4, .int (iI 0)), (2, .long (iL (lmS σ 5 (i / 2) (i % 2)))), (1, .int (iI i)), (0, .ref (o 0))]) E.1 E.2 dX8_setsClocks_47 hl (by decide) rfl (fun ls hl => ?_)
          refine lv_aload_n (pc := 49) E.1 E.2 dX8_setsClocks_49 rfl (lv_at hl 3 rfl) ?_
          refine g8_0 (pc := 50) E hts hin8 hown hK hM.1 (hts _ (List.mem_of_getElem? (i := 2) rfl)) dX8_setsClocks_50 ?_
          refine z_bipush (pc := 53) E (by decide) dX8_setsClocks_53 ?_
          refine lv_iload_n (pc := 55) E.1 E.2 dX8_setsClocks_55 rfl (lv_at hl 2 rfl) ?_
          refine z_iadd (pc := 56) E dX8_setsClocks_56 ?_
          refine lv_iload (pc := 57) E.1 E.2 dX8_setsClocks_57 (lv_at hl 0 rfl) ?_
          refine z_if_ne (pc := 59) (tgt := 68) E (by decide) dX8_setsClocks_59 (by decide) (fun h59 => ?_) (fun h59 => ?_)
          · exact absurd h59 (by decide)
          · refine lv_ldc2 (pc := 62) (v := iL (-1)) E.1 E.2 hown (show (Jvm.Cond.constantLong RX8 37 (iL (-1))).before _ ss = true from (hts _ (List.mem_of_getElem? (i := 1) rfl))) dX8_setsClocks_62 ?_
            refine lv_goto (pc := 65) (tgt := 102) E.1 E.2 dX8_setsClocks_65 (by decide) ?_
            refine z_lastore (pc := 102) E hK hM.2.1 hS (Ax.at 1 (by decide)) ⟨by omega, by omega⟩ (by decide) dX8_setsClocks_102 (fun H locs hnew hoth hS => ?_)
            have hM := W8.a1 hM hnew (fun a _ h => hoth a h)
            refine lv_iinc (pc := 103) (v := iI (i + 1)) (lv' := [(1, .int (iI (i + 1))), (4, .int (iI 0)), (2, .long (iL (lmS σ 5 (i / 2) (i % 2)))), (0, .ref (o 0))]) E.1 E.2 dX8_setsClocks_103 hl (k := 2) rfl (iI_add _ _) (by decide) rfl (fun ls hl => ?_)
            refine lv_goto (pc := 106) (tgt := 2) E.1 E.2 dX8_setsClocks_106 (by decide) ?_
            exact ihL2 (i + 1) (by omega) (by omega)  _ _ (by rw [← scA_s σ hi.1]; unfold ckS; first | (rw [if_pos ⟨h24, h38⟩, if_pos h80]; exact hM) | (rw [if_pos ⟨h24, h38⟩, if_neg h80]; exact hM) | (rw [if_neg (fun q => h24x q.1)]; exact hM) | (rw [if_neg (fun q => by have := q.2; omega)]; exact hM) | (rw [if_neg (fun q => q.1 h24)]; exact hM)) hS ls (lv_sub hl [0, 3] rfl)
        · refine z_iconst (pc := 42) E dX8_setsClocks_42 ?_
          refine lv_goto (pc := 43) (tgt := 47) E.1 E.2 dX8_setsClocks_43 (by decide) ?_
          refine lv_istore (pc := 47) (lv' := [(4, .int (iI 1)), (2, .long (iL (lmS σ 5 (i / 2) (i % 2)))), (1, .int (iI i)), (0, .ref (o 0))]) E.1 E.2 dX8_setsClocks_47 hl (by decide) rfl (fun ls hl => ?_)
          refine lv_aload_n (pc := 49) E.1 E.2 dX8_setsClocks_49 rfl (lv_at hl 3 rfl) ?_
          refine g8_0 (pc := 50) E hts hin8 hown hK hM.1 (hts _ (List.mem_of_getElem? (i := 2) rfl)) dX8_setsClocks_50 ?_
          refine z_bipush (pc := 53) E (by decide) dX8_setsClocks_53 ?_
          refine lv_iload_n (pc := 55) E.1 E.2 dX8_setsClocks_55 rfl (lv_at hl 2 rfl) ?_
          refine z_iadd (pc := 56) E dX8_setsClocks_56 ?_
          refine lv_iload (pc := 57) E.1 E.2 dX8_setsClocks_57 (lv_at hl 0 rfl) ?_
          refine z_if_ne (pc := 59) (tgt := 68) E (by decide) dX8_setsClocks_59 (by decide) (fun h59 => ?_) (fun h59 => ?_)
          · refine lv_aload_n (pc := 68) E.1 E.2 dX8_setsClocks_68 rfl (lv_at hl 3 rfl) ?_
            refine g8_0 (pc := 69) E hts hin8 hown hK hM.1 (hts _ (List.mem_of_getElem? (i := 2) rfl)) dX8_setsClocks_69 ?_
            refine z_bipush (pc := 72) E (by decide) dX8_setsClocks_72 ?_
            refine lv_iload_n (pc := 74) E.1 E.2 dX8_setsClocks_74 rfl (lv_at hl 2 rfl) ?_
            refine z_iadd (pc := 75) E dX8_setsClocks_75 ?_
            refine z_laload (pc := 76) E hK hM.2.1 ⟨by omega, by omega⟩ (by decide) dX8_setsClocks_76 ?_
            rw [show ((scA σ i) (53 + i)) = (σ (53 + i)) from (scA_n σ i (by omega))]
            refine lv_ldc2 (pc := 77) (v := iL (-1)) E.1 E.2 hown (show (Jvm.Cond.constantLong RX8 37 (iL (-1))).before _ ss = true from (hts _ (List.mem_of_getElem? (i := 1) rfl))) dX8_setsClocks_77 ?_
            refine z_lcmp_ne (pc := 80) (tgt := 93) E ⟨by omega, by omega⟩ (by decide) dX8_setsClocks_80 dX8_setsClocks_81 (by decide) (fun h80 => ?_) (fun h80 => ?_)
            · refine lv_aload_n (pc := 93) E.1 E.2 dX8_setsClocks_93 rfl (lv_at hl 3 rfl) ?_
              refine g8_0 (pc := 94) E hts hin8 hown hK hM.1 (hts _ (List.mem_of_getElem? (i := 2) rfl)) dX8_setsClocks_94 ?_
              refine z_bipush (pc := 97) E (by decide) dX8_setsClocks_97 ?_
              refine lv_iload_n (pc := 99) E.1 E.2 dX8_setsClocks_99 rfl (lv_at hl 2 rfl) ?_
              refine z_iadd (pc := 100) E dX8_setsClocks_100 ?_
              refine z_laload (pc := 101) E hK hM.2.1 ⟨by omega, by omega⟩ (by decide) dX8_setsClocks_101 ?_
              rw [show ((scA σ i) (53 + i)) = (σ (53 + i)) from (scA_n σ i (by omega))]
              refine z_lastore (pc := 102) E hK hM.2.1 hS (Ax.at 1 (by decide)) ⟨by omega, by omega⟩ (by decide) dX8_setsClocks_102 (fun H locs hnew hoth hS => ?_)
              have hM := W8.a1 hM hnew (fun a _ h => hoth a h)
              refine lv_iinc (pc := 103) (v := iI (i + 1)) (lv' := [(1, .int (iI (i + 1))), (4, .int (iI 1)), (2, .long (iL (lmS σ 5 (i / 2) (i % 2)))), (0, .ref (o 0))]) E.1 E.2 dX8_setsClocks_103 hl (k := 2) rfl (iI_add _ _) (by decide) rfl (fun ls hl => ?_)
              refine lv_goto (pc := 106) (tgt := 2) E.1 E.2 dX8_setsClocks_106 (by decide) ?_
              exact ihL2 (i + 1) (by omega) (by omega)  _ _ (by rw [← scA_s σ hi.1]; unfold ckS; first | (rw [if_pos ⟨h24, h38⟩, if_pos h80]; exact hM) | (rw [if_pos ⟨h24, h38⟩, if_neg h80]; exact hM) | (rw [if_neg (fun q => h24x q.1)]; exact hM) | (rw [if_neg (fun q => by have := q.2; omega)]; exact hM) | (rw [if_neg (fun q => q.1 h24)]; exact hM)) hS ls (lv_sub hl [0, 3] rfl)
            · refine lv_aload_n (pc := 84) E.1 E.2 dX8_setsClocks_84 rfl (lv_at hl 3 rfl) ?_
              refine g8_0 (pc := 85) E hts hin8 hown hK hM.1 (hts _ (List.mem_of_getElem? (i := 2) rfl)) dX8_setsClocks_85 ?_
              refine z_iconst (pc := 88) E dX8_setsClocks_88 ?_
              refine z_laload (pc := 89) E hK hM.2.1 ⟨by omega, by omega⟩ (by decide) dX8_setsClocks_89 ?_
              rw [show ((scA σ i) 0) = (σ 0) from (scA_n σ i (by omega))]
              refine lv_goto (pc := 90) (tgt := 102) E.1 E.2 dX8_setsClocks_90 (by decide) ?_
              refine z_lastore (pc := 102) E hK hM.2.1 hS (Ax.at 1 (by decide)) ⟨by omega, by omega⟩ (by decide) dX8_setsClocks_102 (fun H locs hnew hoth hS => ?_)
              have hM := W8.a1 hM hnew (fun a _ h => hoth a h)
              refine lv_iinc (pc := 103) (v := iI (i + 1)) (lv' := [(1, .int (iI (i + 1))), (4, .int (iI 1)), (2, .long (iL (lmS σ 5 (i / 2) (i % 2)))), (0, .ref (o 0))]) E.1 E.2 dX8_setsClocks_103 hl (k := 2) rfl (iI_add _ _) (by decide) rfl (fun ls hl => ?_)
              refine lv_goto (pc := 106) (tgt := 2) E.1 E.2 dX8_setsClocks_106 (by decide) ?_
              exact ihL2 (i + 1) (by omega) (by omega)  _ _ (by rw [← scA_s σ hi.1]; unfold ckS; first | (rw [if_pos ⟨h24, h38⟩, if_pos h80]; exact hM) | (rw [if_pos ⟨h24, h38⟩, if_neg h80]; exact hM) | (rw [if_neg (fun q => h24x q.1)]; exact hM) | (rw [if_neg (fun q => by have := q.2; omega)]; exact hM) | (rw [if_neg (fun q => q.1 h24)]; exact hM)) hS ls (lv_sub hl [0, 3] rfl)
          · exact absurd h59 (by decide)
