theorem vdX8_isName : yX8_isName.cls = RX8 ∧ yX8_isName.cls ≠ "java/lang/invoke/MethodHandle" ∧ yX8_isName.cls ≠ "java/lang/invoke/VarHandle" ∧ (parseMethodDescriptor yX8_isName.desc).map (fun d => d.parameters.length) = some 1 := by decide +kernel
theorem vdX8_addFolder : yX8_addFolder.cls = RX8 ∧ yX8_addFolder.cls ≠ "java/lang/invoke/MethodHandle" ∧ yX8_addFolder.cls ≠ "java/lang/invoke/VarHandle" ∧ (parseMethodDescriptor yX8_addFolder.desc).map (fun d => d.parameters.length) = some 2 := by decide +kernel
theorem vdX8_removeFolder : yX8_removeFolder.cls = RX8 ∧ yX8_removeFolder.cls ≠ "java/lang/invoke/MethodHandle" ∧ yX8_removeFolder.cls ≠ "java/lang/invoke/VarHandle" ∧ (parseMethodDescriptor yX8_removeFolder.desc).map (fun d => d.parameters.length) = some 1 := by decide +kernel
theorem vdX8_tag : yX8_tag.cls = RX8 ∧ yX8_tag.cls ≠ "java/lang/invoke/MethodHandle" ∧ yX8_tag.cls ≠ "java/lang/invoke/VarHandle" ∧ (parseMethodDescriptor yX8_tag.desc).map (fun d => d.parameters.length) = some 2 := by decide +kernel
theorem vdX8_moveFolder : yX8_moveFolder.cls = RX8 ∧ yX8_moveFolder.cls ≠ "java/lang/invoke/MethodHandle" ∧ yX8_moveFolder.cls ≠ "java/lang/invoke/VarHandle" ∧ (parseMethodDescriptor yX8_moveFolder.desc).map (fun d => d.parameters.length) = some 2 := by decide +kernel
theorem vdX8_write : yX8_write.cls = RX8 ∧ yX8_write.cls ≠ "java/lang/invoke/MethodHandle" ∧ yX8_write.cls ≠ "java/lang/invoke/VarHandle" ∧ (parseMethodDescriptor yX8_write.desc).map (fun d => d.parameters.length) = some 2 := by decide +kernel
theorem vdX8_resize : yX8_resize.cls = RX8 ∧ yX8_resize.cls ≠ "java/lang/invoke/MethodHandle" ∧ yX8_resize.cls ≠ "java/lang/invoke/VarHandle" ∧ (parseMethodDescriptor yX8_resize.desc).map (fun d => d.parameters.length) = some 2 := by decide +kernel
theorem vdX8_delete : yX8_delete.cls = RX8 ∧ yX8_delete.cls ≠ "java/lang/invoke/MethodHandle" ∧ yX8_delete.cls ≠ "java/lang/invoke/VarHandle" ∧ (parseMethodDescriptor yX8_delete.desc).map (fun d => d.parameters.length) = some 1 := by decide +kernel
set_option maxHeartbeats 1000000 in
set_option maxRecDepth 100000 in
theorem mX8_isName (lL : Launch) (G : GG) (x : Int) (hx : -9223372036854775808 ≤ x ∧ x < 9223372036854775808) : Met lL yX8_isName wsX8_isName ({ frames := 1, cells := 0, slots := 0, locals := 25 } : Room) (va_Pc [.long (iL x)] (fun U => True ∧ KK G U)) (vp_Si (fun r => r = (iI (if nkB x = true then 1 else 0)))) 0 0 (fun _ => False) := by
  refine z_met (P := (fun H : Heap => True)) (by decide) rfl (Nat.le_of_ble_eq_true rfl) (fun pp ee ss mm below meth cC E hr hml hown hts hlocks hM hK ls hl => ?_)
  have hl : lv_has ls 5 [(0, .long (iL x))] := hl
  have hcs : 0 ≤ (({ frames := 1, cells := 0, slots := 0, locals := 25 } : Room)).cells ∧ 0 ≤ (({ frames := 1, cells := 0, slots := 0, locals := 25 } : Room)).slots := ⟨Nat.zero_le _, Nat.zero_le _⟩
  refine lv_lload_n (pc := 0) E.1 E.2 dX8_isName_0 rfl (lv_at hl 0 rfl) ?_
  refine lv_lstore_n (pc := 1) (lv' := [(2, .long (iL x)), (0, .long (iL x))]) E.1 E.2 dX8_isName_1 rfl hl (by decide) rfl (fun ls hl => ?_)
  refine z_iconst (pc := 2) E dX8_isName_2 ?_
  refine lv_istore (pc := 3) (lv' := [(4, .int (iI 0)), (2, .long (iL x)), (0, .long (iL x))]) E.1 E.2 dX8_isName_3 hl (by decide) rfl (fun ls hl => ?_)
  suffices L5 : ∀ (nf : Nat), ∀ (y n : Int), (0 ≤ n ∧ n ≤ 8) → (-9223372036854775808 ≤ y ∧ y < 9223372036854775808) → (nkB x = true ↔ (0 ≤ y ∧ nmo (8 - n).toNat y ∧ (0 < n ∨ 0 < y))) → ((8 - n).toNat) < nf → ∀ ls : Array Slot, lv_has ls 5 [(4, .int (iI n)), (2, .long (iL y)), (0, .long (iL x))] → W pp lL ee ({ frames := 1, cells := 0, slots := 0, locals := 25 } : Room) ss mm [.long (iL x)].toArray below meth cC ss.heap [] 0 0 (MQ below (vp_Si (fun r => r = (iI (if nkB x = true then 1 else 0)))) [.long (iL x)].toArray ss 0 0 (fun _ => False)) (F0 mm 5 ls []) from L5 _ x 0 (by omega) hx (nkI_0 x) (Nat.lt_succ_self _) ls (lv_sub hl [0, 1, 2] rfl)
  intro nfL5
  induction nfL5 with
  | zero => intro y n hn hy he hmzL5; exact absurd hmzL5 (Nat.not_lt_zero _)
  | succ nfL5 ihL5 =>
    intro y n hn hy he hmzL5 ls hl
    refine lv_lload_n (pc := 5) E.1 E.2 dX8_isName_5 rfl (lv_at hl 1 rfl) ?_
    refine lv_ldc2 (pc := 6) (v := iL (31)) E.1 E.2 hown (show (Jvm.Cond.constantLong RX8 243 (iL (31))).before _ ss = true from (hts _ (List.mem_of_getElem? (i := 1) rfl))) dX8_isName_6 ?_
    refine z_land31 (pc := 9) E dX8_isName_9 ?_
    refine z_lconst (pc := 10) (v := 1) E (by decide) dX8_isName_10 ?_
    refine lv_ldc2 (pc := 11) (v := iL (26)) E.1 E.2 hown (show (Jvm.Cond.constantLong RX8 245 (iL (26))).before _ ss = true from (hts _ (List.mem_of_getElem? (i := 2) rfl))) dX8_isName_11 ?_
    refine z_rSi (pc := 14) (P := fun _ => True) (As := [.long (iL (y % 32)), .long (iL 1), .long (iL 26)]) (rest := []) E hml hown hts (mX8_isIn lL G (y % 32) 1 26 ⟨by omega, by omega⟩ ⟨by omega, by omega⟩ ⟨by omega, by omega⟩) (va_cwS 3 hts gX8_isName_X8_isIn rfl rfl rfl vdX8_isIn.2 ⟨Nat.le_of_ble_eq_true rfl, Nat.le_of_ble_eq_true rfl⟩) trivial hK rfl hl.1 rfl dX8_isName_14 hcs (Nat.le_of_ble_eq_true rfl) ?_
    refine z_ifb_eq (pc := 17) (tgt := 37) E dX8_isName_17 (by decide) (fun h17 => ?_) (fun h17 => ?_)
    · refine lv_lload_n (pc := 37) E.1 E.2 dX8_isName_37 rfl (lv_at hl 1 rfl) ?_
      refine z_lconst (pc := 38) (v := 0) E (by decide) dX8_isName_38 ?_
      refine z_lcmp_ne (pc := 39) (tgt := 52) E ⟨by omega, by omega⟩ (by decide) dX8_isName_39 dX8_isName_40 (by decide) (fun h39 => ?_) (fun h39 => ?_)
      · refine z_iconst (pc := 52) E dX8_isName_52 ?_
        exact z_retRz E hr rfl (congrArg iI (by first | (refine (if_pos ?_).symm; exact he.mpr (nkI_y (by omega) (by omega))) | (refine (if_neg (fun z => ?_)).symm; have z2 := he.mp z; first | omega | exact nkI_n z2 (by omega) (by first | exact Or.inl (by omega) | exact Or.inr (by omega))))) hlocks dX8_isName_53
      · refine lv_iload (pc := 43) E.1 E.2 dX8_isName_43 (lv_at hl 0 rfl) ?_
        refine z_if_le (pc := 45) (tgt := 52) E ⟨by omega, by omega⟩ dX8_isName_45 (by decide) (fun h45 => ?_) (fun h45 => ?_)
        · refine z_iconst (pc := 52) E dX8_isName_52 ?_
          exact z_retRz E hr rfl (congrArg iI (by first | (refine (if_pos ?_).symm; exact he.mpr (nkI_y (by omega) (by omega))) | (refine (if_neg (fun z => ?_)).symm; have z2 := he.mp z; first | omega | exact nkI_n z2 (by omega) (by first | exact Or.inl (by omega) | exact Or.inr (by omega))))) hlocks dX8_isName_53
        · refine z_iconst (pc := 48) E dX8_isName_48 ?_
          refine lv_goto (pc := 49) (tgt := 53) E.1 E.2 dX8_isName_49 (by decide) ?_
          exact z_retRz E hr rfl (congrArg iI (by first | (refine (if_pos ?_).symm; exact he.mpr (nkI_y (by omega) (by omega))) | (refine (if_neg (fun z => ?_)).symm; have z2 := he.mp z; first | omega | exact nkI_n z2 (by omega) (by first | exact Or.inl (by omega) | exact Or.inr (by omega))))) hlocks dX8_isName_53
    · refine lv_iload (pc := 20) E.1 E.2 dX8_isName_20 (lv_at hl 0 rfl) ?_
      refine z_bipush (pc := 22) E (by decide) dX8_isName_22 ?_
      refine z_icmp_ge (pc := 24) (tgt := 37) E ⟨by omega, by omega⟩ (by decide) dX8_isName_24 (by decide) (fun h24 => ?_) (fun h24 => ?_)
      · refine lv_lload_n (pc := 37) E.1 E.2 dX8_isName_37 rfl (lv_at hl 1 rfl) ?_
        refine z_lconst (pc := 38) (v := 0) E (by decide) dX8_isName_38 ?_
        refine z_lcmp_ne (pc := 39) (tgt := 52) E ⟨by omega, by omega⟩ (by decide) dX8_isName_39 dX8_isName_40 (by decide) (fun h39 => ?_) (fun h39 => ?_)
        · refine z_iconst (pc := 52) E dX8_isName_52 ?_
          exact z_retRz E hr rfl (congrArg iI (by first | (refine (if_pos ?_).symm; exact he.mpr (nkI_y (by omega) (by omega))) | (refine (if_neg (fun z => ?_)).symm; have z2 := he.mp z; first | omega | exact nkI_n z2 (by omega) (by first | exact Or.inl (by omega) | exact Or.inr (by omega))))) hlocks dX8_isName_53
        · refine lv_iload (pc := 43) E.1 E.2 dX8_isName_43 (lv_at hl 0 rfl) ?_
          refine z_if_le (pc := 45) (tgt := 52) E ⟨by omega, by omega⟩ dX8_isName_45 (by decide) (fun h45 => ?_) (fun h45 => ?_)
          · refine z_iconst (pc := 52) E dX8_isName_52 ?_
            exact z_retRz E hr rfl (congrArg iI (by first | (refine (if_pos ?_).symm; exact he.mpr (nkI_y (by omega) (by omega))) | (refine (if_neg (fun z => ?_)).symm; have z2 := he.mp z; first | omega | exact nkI_n z2 (by omega) (by first | exact Or.inl (by omega) | exact Or.inr (by omega))))) hlocks dX8_isName_53
          · refine z_iconst (pc := 48) E dX8_isName_48 ?_
            refine lv_goto (pc := 49) (tgt := 53) E.1 E.2 dX8_isName_49 (by decide) ?_
            exact z_retRz E hr rfl (congrArg iI (by first | (refine (if_pos ?_).symm; exact he.mpr (nkI_y (by omega) (by omega))) | (refine (if_neg (fun z => ?_)).symm; have z2 := he.mp z; first | omega | exact nkI_n z2 (by omega) (by first | exact Or.inl (by omega) | exact Or.inr (by omega))))) hlocks dX8_isName_53
      · refine lv_lload_n (pc := 27) E.1 E.2 dX8_isName_27 rfl (lv_at hl 1 rfl) ?_
        refine z_iconst (pc := 28) E dX8_isName_28 ?_
        refine z_lshr (pc := 29) (n := 5) E ⟨by omega, by omega⟩ (by decide) dX8_isName_29 ?_
        rw [show y / ((2 ^ 5 : Nat) : Int) = y / 32 from rfl]
        refine lv_lstore_n (pc := 30) (lv' := [(2, .long (iL (y / 32))), (4, .int (iI n)), (0, .long (iL x))]) E.1 E.2 dX8_isName_30 rfl hl (by decide) rfl (fun ls hl => ?_)
        refine lv_iinc (pc := 31) (v := iI (n + 1)) (lv' := [(4, .int (iI (n + 1))), (2, .long (iL (y / 32))), (0, .long (iL x))]) E.1 E.2 dX8_isName_31 hl (k := 1) rfl (iI_add _ _) (by decide) rfl (fun ls hl => ?_)
        refine lv_goto (pc := 34) (tgt := 5) E.1 E.2 dX8_isName_34 (by decide) ?_
        exact ihL5 (y / 32) (n + 1) (by omega) ⟨by omega, by omega⟩ (he.trans (nkI_s (by omega) h17)) (by omega) ls (lv_sub hl [0, 1, 2] rfl)
set_option maxHeartbeats 1000000 in
set_option maxRecDepth 100000 in
theorem mX8_addFolder (lL : Launch) (G : GG) (o : Nat → Nat) (μ σ φ κ β ω : Int → Int) (p : Int) (x : Int) (hI : In σ) (hp : -2147483648 ≤ p ∧ p < 2147483648) (hx : -9223372036854775808 ≤ x ∧ x < 9223372036854775808) (hk8 : 0 ≤ μ 3 ∧ μ 3 ≤ 8) : Met lL yX8_addFolder wsX8_addFolder ({ frames := 3, cells := 0, slots := 0, locals := 74 } : Room) (va_Pc [.ref (o 0), .int (iI p), .long (iL x)] (fun U => W8 G o (mV o μ) σ φ κ β ω U.heap ∧ KK G U)) (va_Qi (fun r (_ : Unit) => r = (iI (if (kxAddF σ p x) = 0 then σ 2 else 0))) (fun _ tZ => W8 G o (mV o (zu (zu μ 4 (kxAddF σ p x)) 3 (if (kxAddF σ p x) = 0 then keM (μ 3) else μ 3))) (if (kxAddF σ p x) = 0 then nxAddF σ p x else σ) φ (if (kxAddF σ p x) = 0 then keK κ σ (μ 3) else κ) β ω tZ.heap) (Ax o 6)) 0 0 (Ax o 6) := by
  refine z_met (P := (fun H : Heap => W8 G o (mV o μ) σ φ κ β ω H)) (by decide) rfl (Nat.le_of_ble_eq_true rfl) (fun pp ee ss mm below meth cC E hr hml hown hts hlocks hM hK ls hl => ?_)
  have hl : lv_has ls 4 [(0, .ref (o 0)), (1, .int (iI p)), (2, .long (iL x))] := hl
  have hcs : 0 ≤ (({ frames := 3, cells := 0, slots := 0, locals := 74 } : Room)).cells ∧ 0 ≤ (({ frames := 3, cells := 0, slots := 0, locals := 74 } : Room)).slots := ⟨Nat.zero_le _, Nat.zero_le _⟩
  have hS : va_S (Ax o 6) ss.heap ss.heap [] := va_S.rf
  have hin8 : ∀ w ∈ wsX80, w ∈ wsX8_addFolder := fun w h => List.mem_cons_of_mem _ (List.mem_append_right _ (h))
  have hF := hI.F
  have hMm := hI.M
  have hGn := hI.Gn
  have hTi := hI.ti
  have hGr := hI.gr
  refine lv_aload_n (pc := 0) E.1 E.2 dX8_addFolder_0 rfl (lv_at hl 0 rfl) ?_
  refine lv_aload_n (pc := 1) E.1 E.2 dX8_addFolder_1 rfl (lv_at hl 0 rfl) ?_
  refine lv_iload_n (pc := 2) E.1 E.2 dX8_addFolder_2 rfl (lv_at hl 1 rfl) ?_
  refine z_rVi (pc := 3) (As := [.int (iI p)]) (rest := [.ref (o 0)]) E hml hown hts (mX8_isFolder lL G o μ σ φ κ β ω p hI (by omega)) (cwV 1 hts gX8_addFolder_X8_isFolder rfl rfl rfl vdX8_isFolder ⟨Nat.le_of_ble_eq_true rfl, Nat.le_of_ble_eq_true rfl⟩) (oB.recv hK hM.1 rfl) hM hK rfl hl.1 rfl dX8_addFolder_3 hcs (Nat.le_of_ble_eq_true rfl) ?_
  refine z_ifb_ne (pc := 6) (tgt := 13) E dX8_addFolder_6 (by decide) (fun h6 => ?_) (fun h6 => ?_)
  · refine lv_lload_n (pc := 13) E.1 E.2 dX8_addFolder_13 rfl (lv_at hl 2 rfl) ?_
    refine z_rSi (pc := 14) (P := fun _ => True) (As := [.long (iL x)]) (rest := [.ref (o 0)]) E hml hown hts (mX8_isName lL G x ⟨by omega, by omega⟩) (va_cwS 1 hts gX8_addFolder_X8_isName rfl rfl rfl vdX8_isName.2 ⟨Nat.le_of_ble_eq_true rfl, Nat.le_of_ble_eq_true rfl⟩) trivial hK rfl hl.1 rfl dX8_addFolder_14 hcs (Nat.le_of_ble_eq_true rfl) ?_
    refine z_ifb_eq (pc := 17) (tgt := 32) E dX8_addFolder_17 (by decide) (fun h17 => ?_) (fun h17 => ?_)
    · refine z_iconst (pc := 32) E dX8_addFolder_32 ?_
      refine lv_goto (pc := 33) (tgt := 54) E.1 E.2 dX8_addFolder_33 (by decide) ?_
      refine p8_4 (pc := 54) E hts hin8 hown hK hM.1 hS (Ax.at 0 (by decide)) (hts _ (List.mem_of_getElem? (i := 3) rfl)) dX8_addFolder_54 (fun H locs hnew hoth hS => ?_)
      have hM := W8.p hM hnew (fun a _ h => hoth a h)
      refine lv_aload_n (pc := 57) E.1 E.2 dX8_addFolder_57 rfl (lv_at hl 0 rfl) ?_
      refine g8_4 (pc := 58) E hts hin8 hown hK hM.1 (hts _ (List.mem_of_getElem? (i := 3) rfl)) dX8_addFolder_58 ?_
      refine z_if_le (pc := 61) (tgt := 66) E (by decide) dX8_addFolder_61 (by decide) (fun h61 => ?_) (fun h61 => ?_)
      · exact absurd h61 (by decide)
      · refine z_iconst (pc := 64) E dX8_addFolder_64 ?_
        exact z_retWi E hr (congrArg iI (by have e0 : (kxAddF σ p x) = 2 := (by unfold kxAddF; (repeat' split) <;> first | rfl | omega | (exfalso; omega) | contradiction | grind); rw [e0]; exact (if_neg (by decide)).symm)) (by have e0 : (kxAddF σ p x) = 2 := (by unfold kxAddF; (repeat' split) <;> first | rfl | omega | (exfalso; omega) | contradiction | grind); rw [e0]; rw [if_neg (by decide), if_neg (by decide), if_neg (by decide)]; exact W8.mu hM (by simp only [mV, zu, Int.reduceEq, reduceIte])) hS hlocks dX8_addFolder_65
    · refine lv_aload_n (pc := 20) E.1 E.2 dX8_addFolder_20 rfl (lv_at hl 0 rfl) ?_
      refine g8_0 (pc := 21) E hts hin8 hown hK hM.1 (hts _ (List.mem_of_getElem? (i := 1) rfl)) dX8_addFolder_21 ?_
      refine lv_lload_n (pc := 24) E.1 E.2 dX8_addFolder_24 rfl (lv_at hl 2 rfl) ?_
      refine z_rSi (pc := 25) (As := [.ref (o 1), .long (iL x)]) (rest := [.ref (o 0)]) E hml hown hts (mX8_named lL G (o 1) σ x (by omega) hI.bd (by omega)) (va_cwS 2 hts gX8_addFolder_X8_named rfl rfl rfl vdX8_named.2 ⟨Nat.le_of_ble_eq_true rfl, Nat.le_of_ble_eq_true rfl⟩) hM.2.1 hK rfl hl.1 rfl dX8_addFolder_25 hcs (Nat.le_of_ble_eq_true rfl) ?_
      have hfn := fnS_r hI x
      refine z_iconst (pc := 28) E dX8_addFolder_28 ?_
      refine z_icmp_eq (pc := 29) (tgt := 36) E ⟨by omega, by omega⟩ (by decide) dX8_addFolder_29 (by decide) (fun h29 => ?_) (fun h29 => ?_)
      · refine lv_aload_n (pc := 36) E.1 E.2 dX8_addFolder_36 rfl (lv_at hl 0 rfl) ?_
        refine g8_0 (pc := 37) E hts hin8 hown hK hM.1 (hts _ (List.mem_of_getElem? (i := 1) rfl)) dX8_addFolder_37 ?_
        refine z_iconst (pc := 40) E dX8_addFolder_40 ?_
        refine z_laload (pc := 41) E hK hM.2.1 ⟨by omega, by omega⟩ (by decide) dX8_addFolder_41 ?_
        have hb41 := hI.bd 2
        refine lv_ldc2 (pc := 42) (v := iL (40)) E.1 E.2 hown (show (Jvm.Cond.constantLong RX8 135 (iL (40))).before _ ss = true from (hts _ (List.mem_of_getElem? (i := 2) rfl))) dX8_addFolder_42 ?_
        refine z_lcmp_ne (pc := 45) (tgt := 53) E ⟨by omega, by omega⟩ (by decide) dX8_addFolder_45 dX8_addFolder_46 (by decide) (fun h45 => ?_) (fun h45 => ?_)
        · refine z_iconst (pc := 53) E dX8_addFolder_53 ?_
          refine p8_4 (pc := 54) E hts hin8 hown hK hM.1 hS (Ax.at 0 (by decide)) (hts _ (List.mem_of_getElem? (i := 3) rfl)) dX8_addFolder_54 (fun H locs hnew hoth hS => ?_)
          have hM := W8.p hM hnew (fun a _ h => hoth a h)
          refine lv_aload_n (pc := 57) E.1 E.2 dX8_addFolder_57 rfl (lv_at hl 0 rfl) ?_
          refine g8_4 (pc := 58) E hts hin8 hown hK hM.1 (hts _ (List.mem_of_getElem? (i := 3) rfl)) dX8_addFolder_58 ?_
          refine z_if_le (pc := 61) (tgt := 66) E (by decide) dX8_addFolder_61 (by decide) (fun h61 => ?_) (fun h61 => ?_)
          · have hnk : nmk x := (nkB_i x).mp (by first | assumption | (simpa using (by assumption)))
            refine lv_aload_n (pc := 66) E.1 E.2 dX8_addFolder_66 rfl (lv_at hl 0 rfl) ?_
            refine z_wVv (pc := 67) (As := []) (rest := []) E hml hown hts (mX8_keeps lL G o (zu μ 4 0) σ φ κ β ω  (by simpa only [zu, Int.reduceEq, reduceIte] using hk8)) (cwV 0 hts gX8_addFolder_X8_keeps rfl rfl rfl vdX8_keeps ⟨Nat.le_of_ble_eq_true rfl, Nat.le_of_ble_eq_true rfl⟩) (oB.recv hK hM.1 rfl) (W8.mu hM (by simp only [mV, zu, Int.reduceEq, reduceIte])) hK hS (fun _ h => h) rfl hl.1 rfl dX8_addFolder_67 hcs (Nat.le_of_ble_eq_true rfl) (fun H locs hnew hsz hoth hS => ?_)
            have hM : W8 G o [.ref (o 1), .ref (o 2), .ref (o 3), .int (iI (keM ((μ 3)))), .int (iI 0), .ref (o 4), .int (iI (μ 6)), .int (iI (μ 7)), .int (iI (μ 8)), .int (iI (μ 9)), .int (iI (μ 10)), .int (iI (μ 11)), .int (iI (μ 12)), .int (iI (μ 13)), .int (iI (μ 14)), .long (iL (μ 15)), .ref (o 5), .int (iI (μ 17))] σ φ (keK κ σ ((μ 3))) β ω H := W8.eq hnew (by simp only [mV, zu, Int.reduceEq, reduceIte])
            have hI2 : In (adF σ p x) := hI.adFI (by omega) (by omega) hnk
            refine lv_aload_n (pc := 70) E.1 E.2 dX8_addFolder_70 rfl (lv_at hl 0 rfl) ?_
            refine g8_0 (pc := 71) E hts hin8 hown hK hM.1 (hts _ (List.mem_of_getElem? (i := 1) rfl)) dX8_addFolder_71 ?_
            refine lv_iload_n (pc := 74) E.1 E.2 dX8_addFolder_74 rfl (lv_at hl 1 rfl) ?_
            refine lv_lload_n (pc := 75) E.1 E.2 dX8_addFolder_75 rfl (lv_at hl 2 rfl) ?_
            refine z_wSv (pc := 76) (As := [.ref (o 1), .int (iI p), .long (iL x)]) (rest := []) E hml hown hts (mX8_addsFolder lL G (o 1) σ p x (by omega) (by omega)) (va_cwS 3 hts gX8_addFolder_X8_addsFolder rfl rfl rfl vdX8_addsFolder.2 ⟨Nat.le_of_ble_eq_true rfl, Nat.le_of_ble_eq_true rfl⟩) hM.2.1 hK hS (fun _ h => by rw [h]; exact Ax.at 1 (by decide)) rfl hl.1 rfl dX8_addFolder_76 hcs (Nat.le_of_ble_eq_true rfl) (fun H locs hnew hsz hoth hS => ?_)
            have hM := W8.a1 hM hnew hoth
            refine lv_aload_n (pc := 79) E.1 E.2 dX8_addFolder_79 rfl (lv_at hl 0 rfl) ?_
            refine z_wVv (pc := 80) (As := []) (rest := []) E hml hown hts (mX8_setsClocks lL G o (zu (zu μ 4 0) 3 (keM ((μ 3)))) (adF σ p x) φ (keK κ σ ((μ 3))) β ω  hI2) (cwV 0 hts gX8_addFolder_X8_setsClocks rfl rfl rfl vdX8_setsClocks ⟨Nat.le_of_ble_eq_true rfl, Nat.le_of_ble_eq_true rfl⟩) (oB.recv hK hM.1 rfl) (W8.mu hM (by simp only [mV, zu, Int.reduceEq, reduceIte])) hK hS (fun _ h => h) rfl hl.1 rfl dX8_addFolder_80 hcs (Nat.le_of_ble_eq_true rfl) (fun H locs hnew hsz hoth hS => ?_)
            have hM : W8 G o [.ref (o 1), .ref (o 2), .ref (o 3), .int (iI (keM ((μ 3)))), .int (iI 0), .ref (o 4), .int (iI (μ 6)), .int (iI (μ 7)), .int (iI (μ 8)), .int (iI (μ 9)), .int (iI (μ 10)), .int (iI (μ 11)), .int (iI (μ 12)), .int (iI (μ 13)), .int (iI (μ 14)), .long (iL (μ 15)), .ref (o 5), .int (iI (μ 17))] (scA (adF σ p x) 16) φ (keK κ σ ((μ 3))) β ω H := W8.eq hnew (by simp only [mV, zu, Int.reduceEq, reduceIte])
            refine lv_aload_n (pc := 83) E.1 E.2 dX8_addFolder_83 rfl (lv_at hl 0 rfl) ?_
            refine g8_0 (pc := 84) E hts hin8 hown hK hM.1 (hts _ (List.mem_of_getElem? (i := 1) rfl)) dX8_addFolder_84 ?_
            refine z_iconst (pc := 87) E dX8_addFolder_87 ?_
            refine z_laload (pc := 88) E hK hM.2.1 ⟨by omega, by omega⟩ (by decide) dX8_addFolder_88 ?_
            rw [show ((scA (adF σ p x) 16) 2) = (σ 2 + 1) from (by rw [scA_n _ _ (by omega)]; exact zu_s _ _ _)]
            refine z_l2i (pc := 89) E dX8_addFolder_89 ?_
            refine z_iconst (pc := 90) E dX8_addFolder_90 ?_
            refine z_isub (pc := 91) E dX8_addFolder_91 ?_
            exact z_retWi E hr (congrArg iI (by have e0 : (kxAddF σ p x) = 0 := (by unfold kxAddF; (repeat' split) <;> first | rfl | omega | (exfalso; omega) | contradiction | grind); rw [e0]; refine Eq.trans ?_ (if_pos rfl).symm; omega)) (by have e0 : (kxAddF σ p x) = 0 := (by unfold kxAddF; (repeat' split) <;> first | rfl | omega | (exfalso; omega) | contradiction | grind); rw [e0]; rw [if_pos rfl, if_pos rfl, if_pos rfl]; unfold nxAddF; exact W8.mu hM (by simp only [mV, zu, Int.reduceEq, reduceIte])) hS hlocks dX8_addFolder_92
          · exact absurd h61 (by decide)
        · refine z_iconst (pc := 49) E dX8_addFolder_49 ?_
          refine lv_goto (pc := 50) (tgt := 54) E.1 E.2 dX8_addFolder_50 (by decide) ?_
          refine p8_4 (pc := 54) E hts hin8 hown hK hM.1 hS (Ax.at 0 (by decide)) (hts _ (List.mem_of_getElem? (i := 3) rfl)) dX8_addFolder_54 (fun H locs hnew hoth hS => ?_)
          have hM := W8.p hM hnew (fun a _ h => hoth a h)
          refine lv_aload_n (pc := 57) E.1 E.2 dX8_addFolder_57 rfl (lv_at hl 0 rfl) ?_
          refine g8_4 (pc := 58) E hts hin8 hown hK hM.1 (hts _ (List.mem_of_getElem? (i := 3) rfl)) dX8_addFolder_58 ?_
          refine z_if_le (pc := 61) (tgt := 66) E (by decide) dX8_addFolder_61 (by decide) (fun h61 => ?_) (fun h61 => ?_)
          · exact absurd h61 (by decide)
          · refine z_iconst (pc := 64) E dX8_addFolder_64 ?_
            exact z_retWi E hr (congrArg iI (by have e0 : (kxAddF σ p x) = 3 := (by unfold kxAddF; (repeat' split) <;> first | rfl | omega | (exfalso; omega) | contradiction | grind); rw [e0]; exact (if_neg (by decide)).symm)) (by have e0 : (kxAddF σ p x) = 3 := (by unfold kxAddF; (repeat' split) <;> first | rfl | omega | (exfalso; omega) | contradiction | grind); rw [e0]; rw [if_neg (by decide), if_neg (by decide), if_neg (by decide)]; exact W8.mu hM (by simp only [mV, zu, Int.reduceEq, reduceIte])) hS hlocks dX8_addFolder_65
      · refine z_iconst (pc := 32) E dX8_addFolder_32 ?_
        refine lv_goto (pc := 33) (tgt := 54) E.1 E.2 dX8_addFolder_33 (by decide) ?_
        refine p8_4 (pc := 54) E hts hin8 hown hK hM.1 hS (Ax.at 0 (by decide)) (hts _ (List.mem_of_getElem? (i := 3) rfl)) dX8_addFolder_54 (fun H locs hnew hoth hS => ?_)
        have hM := W8.p hM hnew (fun a _ h => hoth a h)
        refine lv_aload_n (pc := 57) E.1 E.2 dX8_addFolder_57 rfl (lv_at hl 0 rfl) ?_
        refine g8_4 (pc := 58) E hts hin8 hown hK hM.1 (hts _ (List.mem_of_getElem? (i := 3) rfl)) dX8_addFolder_58 ?_
        refine z_if_le (pc := 61) (tgt := 66) E (by decide) dX8_addFolder_61 (by decide) (fun h61 => ?_) (fun h61 => ?_)
        · exact absurd h61 (by decide)
        · refine z_iconst (pc := 64) E dX8_addFolder_64 ?_
          exact z_retWi E hr (congrArg iI (by have e0 : (kxAddF σ p x) = 2 := (by unfold kxAddF; (repeat' split) <;> first | rfl | omega | (exfalso; omega) | contradiction | grind); rw [e0]; exact (if_neg (by decide)).symm)) (by have e0 : (kxAddF σ p x) = 2 := (by unfold kxAddF; (repeat' split) <;> first | rfl | omega | (exfalso; omega) | contradiction | grind); rw [e0]; rw [if_neg (by decide), if_neg (by decide), if_neg (by decide)]; exact W8.mu hM (by simp only [mV, zu, Int.reduceEq, reduceIte])) hS hlocks dX8_addFolder_65
  · refine z_iconst (pc := 9) E dX8_addFolder_9 ?_
    refine lv_goto (pc := 10) (tgt := 54) E.1 E.2 dX8_addFolder_10 (by decide) ?_
    refine p8_4 (pc := 54) E hts hin8 hown hK hM.1 hS (Ax.at 0 (by decide)) (hts _ (List.mem_of_getElem? (i := 3) rfl)) dX8_addFolder_54 (fun H locs hnew hoth hS => ?_)
    have hM := W8.p hM hnew (fun a _ h => hoth a h)
    refine lv_aload_n (pc := 57) E.1 E.2 dX8_addFolder_57 rfl (lv_at hl 0 rfl) ?_
    refine g8_4 (pc := 58) E hts hin8 hown hK hM.1 (hts _ (List.mem_of_getElem? (i := 3) rfl)) dX8_addFolder_58 ?_
    refine z_if_le (pc := 61) (tgt := 66) E (by decide) dX8_addFolder_61 (by decide) (fun h61 => ?_) (fun h61 => ?_)
    · exact absurd h61 (by decide)
    · refine z_iconst (pc := 64) E dX8_addFolder_64 ?_
      exact z_retWi E hr (congrArg iI (by have e0 : (kxAddF σ p x) = 1 := (by unfold kxAddF; (repeat' split) <;> first | rfl | omega | (exfalso; omega) | contradiction | grind); rw [e0]; exact (if_neg (by decide)).symm)) (by have e0 : (kxAddF σ p x) = 1 := (by unfold kxAddF; (repeat' split) <;> first | rfl | omega | (exfalso; omega) | contradiction | grind); rw [e0]; rw [if_neg (by decide), if_neg (by decide), if_neg (by decide)]; exact W8.mu hM (by simp only [mV, zu, Int.reduceEq, reduceIte])) hS hlocks dX8_addFolder_65
set_option maxHeartbeats 1000000 in
set_option maxRecDepth 100000 in
theorem mX8_removeFolder (lL : Launch) (G : GG) (o : Nat → Nat) (μ σ φ κ β ω : Int → Int) (f : Int) (hI : In σ) (hf : -2147483648 ≤ f ∧ f < 2147483648) (hk8 : 0 ≤ μ 3 ∧ μ 3 ≤ 8) : Met lL yX8_removeFolder wsX8_removeFolder ({ frames := 3, cells := 0, slots := 0, locals := 74 } : Room) (va_Pc [.ref (o 0), .int (iI f)] (fun U => W8 G o (mV o μ) σ φ κ β ω U.heap ∧ KK G U)) (va_Qi (fun r (_ : Unit) => r = (iI (if (kxRemF σ f) = 0 then σ 2 - 1 else 0))) (fun _ tZ => W8 G o (mV o (zu (zu μ 4 (kxRemF σ f)) 3 (if (kxRemF σ f) = 0 then keM (μ 3) else μ 3))) (if (kxRemF σ f) = 0 then nxRemF σ f else σ) φ (if (kxRemF σ f) = 0 then keK κ σ (μ 3) else κ) β ω tZ.heap) (Ax o 6)) 0 0 (Ax o 6) := by
  refine z_met (P := (fun H : Heap => W8 G o (mV o μ) σ φ κ β ω H)) (by decide) rfl (Nat.le_of_ble_eq_true rfl) (fun pp ee ss mm below meth cC E hr hml hown hts hlocks hM hK ls hl => ?_)
  have hl : lv_has ls 4 [(0, .ref (o 0)), (1, .int (iI f))] := hl
  have hcs : 0 ≤ (({ frames := 3, cells := 0, slots := 0, locals := 74 } : Room)).cells ∧ 0 ≤ (({ frames := 3, cells := 0, slots := 0, locals := 74 } : Room)).slots := ⟨Nat.zero_le _, Nat.zero_le _⟩
  have hS : va_S (Ax o 6) ss.heap ss.heap [] := va_S.rf
  have hin8 : ∀ w ∈ wsX80, w ∈ wsX8_removeFolder := fun w h => List.mem_cons_of_mem _ (List.mem_append_right _ (h))
  have hF := hI.F
  have hMm := hI.M
  have hGn := hI.Gn
  have hTi := hI.ti
  have hGr := hI.gr
  refine lv_aload_n (pc := 0) E.1 E.2 dX8_removeFolder_0 rfl (lv_at hl 0 rfl) ?_
  refine lv_aload_n (pc := 1) E.1 E.2 dX8_removeFolder_1 rfl (lv_at hl 0 rfl) ?_
  refine lv_iload_n (pc := 2) E.1 E.2 dX8_removeFolder_2 rfl (lv_at hl 1 rfl) ?_
  refine z_rVi (pc := 3) (As := [.int (iI f)]) (rest := [.ref (o 0)]) E hml hown hts (mX8_isFolder lL G o μ σ φ κ β ω f hI (by omega)) (cwV 1 hts gX8_removeFolder_X8_isFolder rfl rfl rfl vdX8_isFolder ⟨Nat.le_of_ble_eq_true rfl, Nat.le_of_ble_eq_true rfl⟩) (oB.recv hK hM.1 rfl) hM hK rfl hl.1 rfl dX8_removeFolder_3 hcs (Nat.le_of_ble_eq_true rfl) ?_
  refine z_ifb_ne (pc := 6) (tgt := 13) E dX8_removeFolder_6 (by decide) (fun h6 => ?_) (fun h6 => ?_)
  · refine lv_iload_n (pc := 13) E.1 E.2 dX8_removeFolder_13 rfl (lv_at hl 1 rfl) ?_
    refine z_if_eq (pc := 14) (tgt := 33) E ⟨by omega, by omega⟩ dX8_removeFolder_14 (by decide) (fun h14 => ?_) (fun h14 => ?_)
    · refine z_iconst (pc := 33) E dX8_removeFolder_33 ?_
      refine lv_goto (pc := 34) (tgt := 38) E.1 E.2 dX8_removeFolder_34 (by decide) ?_
      refine p8_4 (pc := 38) E hts hin8 hown hK hM.1 hS (Ax.at 0 (by decide)) (hts _ (List.mem_of_getElem? (i := 1) rfl)) dX8_removeFolder_38 (fun H locs hnew hoth hS => ?_)
      have hM := W8.p hM hnew (fun a _ h => hoth a h)
      refine lv_aload_n (pc := 41) E.1 E.2 dX8_removeFolder_41 rfl (lv_at hl 0 rfl) ?_
      refine g8_4 (pc := 42) E hts hin8 hown hK hM.1 (hts _ (List.mem_of_getElem? (i := 1) rfl)) dX8_removeFolder_42 ?_
      refine z_if_le (pc := 45) (tgt := 50) E (by decide) dX8_removeFolder_45 (by decide) (fun h45 => ?_) (fun h45 => ?_)
      · exact absurd h45 (by decide)
      · refine z_iconst (pc := 48) E dX8_removeFolder_48 ?_
        exact z_retWi E hr (congrArg iI (by have e0 : (kxRemF σ f) = 2 := (by unfold kxRemF; (repeat' split) <;> first | rfl | omega | (exfalso; omega) | contradiction | grind); rw [e0]; exact (if_neg (by decide)).symm)) (by have e0 : (kxRemF σ f) = 2 := (by unfold kxRemF; (repeat' split) <;> first | rfl | omega | (exfalso; omega) | contradiction | grind); rw [e0]; rw [if_neg (by decide), if_neg (by decide), if_neg (by decide)]; exact W8.mu hM (by simp only [mV, zu, Int.reduceEq, reduceIte])) hS hlocks dX8_removeFolder_49
    · refine lv_aload_n (pc := 17) E.1 E.2 dX8_removeFolder_17 rfl (lv_at hl 0 rfl) ?_
      refine lv_iload_n (pc := 18) E.1 E.2 dX8_removeFolder_18 rfl (lv_at hl 1 rfl) ?_
      refine z_rVi (pc := 19) (As := [.int (iI f)]) (rest := [.ref (o 0)]) E hml hown hts (mX8_childrenOf lL G o μ σ φ κ β ω f hI (by omega)) (cwV 1 hts gX8_removeFolder_X8_childrenOf rfl rfl rfl vdX8_childrenOf ⟨Nat.le_of_ble_eq_true rfl, Nat.le_of_ble_eq_true rfl⟩) (oB.recv hK hM.1 rfl) hM hK rfl hl.1 rfl dX8_removeFolder_19 hcs (Nat.le_of_ble_eq_true rfl) ?_
      have hbb := hI.biSb f
      refine z_if_gt (pc := 22) (tgt := 33) E ⟨by omega, by omega⟩ dX8_removeFolder_22 (by decide) (fun h22 => ?_) (fun h22 => ?_)
      · refine z_iconst (pc := 33) E dX8_removeFolder_33 ?_
        refine lv_goto (pc := 34) (tgt := 38) E.1 E.2 dX8_removeFolder_34 (by decide) ?_
        refine p8_4 (pc := 38) E hts hin8 hown hK hM.1 hS (Ax.at 0 (by decide)) (hts _ (List.mem_of_getElem? (i := 1) rfl)) dX8_removeFolder_38 (fun H locs hnew hoth hS => ?_)
        have hM := W8.p hM hnew (fun a _ h => hoth a h)
        refine lv_aload_n (pc := 41) E.1 E.2 dX8_removeFolder_41 rfl (lv_at hl 0 rfl) ?_
        refine g8_4 (pc := 42) E hts hin8 hown hK hM.1 (hts _ (List.mem_of_getElem? (i := 1) rfl)) dX8_removeFolder_42 ?_
        refine z_if_le (pc := 45) (tgt := 50) E (by decide) dX8_removeFolder_45 (by decide) (fun h45 => ?_) (fun h45 => ?_)
        · exact absurd h45 (by decide)
        · refine z_iconst (pc := 48) E dX8_removeFolder_48 ?_
          exact z_retWi E hr (congrArg iI (by have e0 : (kxRemF σ f) = 2 := (by unfold kxRemF; (repeat' split) <;> first | rfl | omega | (exfalso; omega) | contradiction | grind); rw [e0]; exact (if_neg (by decide)).symm)) (by have e0 : (kxRemF σ f) = 2 := (by unfold kxRemF; (repeat' split) <;> first | rfl | omega | (exfalso; omega) | contradiction | grind); rw [e0]; rw [if_neg (by decide), if_neg (by decide), if_neg (by decide)]; exact W8.mu hM (by simp only [mV, zu, Int.reduceEq, reduceIte])) hS hlocks dX8_removeFolder_49
      · refine lv_aload_n (pc := 25) E.1 E.2 dX8_removeFolder_25 rfl (lv_at hl 0 rfl) ?_
        refine lv_iload_n (pc := 26) E.1 E.2 dX8_removeFolder_26 rfl (lv_at hl 1 rfl) ?_
        refine z_rVi (pc := 27) (As := [.int (iI f)]) (rest := [.ref (o 0)]) E hml hown hts (mX8_filesIn lL G o μ σ φ κ β ω f hI (by omega)) (cwV 1 hts gX8_removeFolder_X8_filesIn rfl rfl rfl vdX8_filesIn ⟨Nat.le_of_ble_eq_true rfl, Nat.le_of_ble_eq_true rfl⟩) (oB.recv hK hM.1 rfl) hM hK rfl hl.1 rfl dX8_removeFolder_27 hcs (Nat.le_of_ble_eq_true rfl) ?_
        have hfb := hI.fiSb f
        refine z_if_le (pc := 30) (tgt := 37) E ⟨by omega, by omega⟩ dX8_removeFolder_30 (by decide) (fun h30 => ?_) (fun h30 => ?_)
        · refine z_iconst (pc := 37) E dX8_removeFolder_37 ?_
          refine p8_4 (pc := 38) E hts hin8 hown hK hM.1 hS (Ax.at 0 (by decide)) (hts _ (List.mem_of_getElem? (i := 1) rfl)) dX8_removeFolder_38 (fun H locs hnew hoth hS => ?_)
          have hM := W8.p hM hnew (fun a _ h => hoth a h)
          refine lv_aload_n (pc := 41) E.1 E.2 dX8_removeFolder_41 rfl (lv_at hl 0 rfl) ?_
          refine g8_4 (pc := 42) E hts hin8 hown hK hM.1 (hts _ (List.mem_of_getElem? (i := 1) rfl)) dX8_removeFolder_42 ?_
          refine z_if_le (pc := 45) (tgt := 50) E (by decide) dX8_removeFolder_45 (by decide) (fun h45 => ?_) (fun h45 => ?_)
          · have hf1 : 1 ≤ f ∧ f < σ 2 := by omega
            have hb0 : biS σ f = 0 := by omega
            have hl0 : fiS σ f = 0 := by omega
            have hIr := hI.rfAI hf1 hb0 hl0
            refine lv_aload_n (pc := 50) E.1 E.2 dX8_removeFolder_50 rfl (lv_at hl 0 rfl) ?_
            refine z_wVv (pc := 51) (As := []) (rest := []) E hml hown hts (mX8_keeps lL G o (zu μ 4 0) σ φ κ β ω  (by simpa only [zu, Int.reduceEq, reduceIte] using hk8)) (cwV 0 hts gX8_removeFolder_X8_keeps rfl rfl rfl vdX8_keeps ⟨Nat.le_of_ble_eq_true rfl, Nat.le_of_ble_eq_true rfl⟩) (oB.recv hK hM.1 rfl) (W8.mu hM (by simp only [mV, zu, Int.reduceEq, reduceIte])) hK hS (fun _ h => h) rfl hl.1 rfl dX8_removeFolder_51 hcs (Nat.le_of_ble_eq_true rfl) (fun H locs hnew hsz hoth hS => ?_)
            have hM : W8 G o [.ref (o 1), .ref (o 2), .ref (o 3), .int (iI (keM ((μ 3)))), .int (iI 0), .ref (o 4), .int (iI (μ 6)), .int (iI (μ 7)), .int (iI (μ 8)), .int (iI (μ 9)), .int (iI (μ 10)), .int (iI (μ 11)), .int (iI (μ 12)), .int (iI (μ 13)), .int (iI (μ 14)), .long (iL (μ 15)), .ref (o 5), .int (iI (μ 17))] σ φ (keK κ σ ((μ 3))) β ω H := W8.eq hnew (by simp only [mV, zu, Int.reduceEq, reduceIte])
            refine lv_aload_n (pc := 54) E.1 E.2 dX8_removeFolder_54 rfl (lv_at hl 0 rfl) ?_
            refine g8_0 (pc := 55) E hts hin8 hown hK hM.1 (hts _ (List.mem_of_getElem? (i := 2) rfl)) dX8_removeFolder_55 ?_
            refine z_iconst (pc := 58) E dX8_removeFolder_58 ?_
            refine lv_dup2_11 (pc := 59) E.1 E.2 dX8_removeFolder_59 rfl rfl ?_
            refine z_laload (pc := 60) E hK hM.2.1 ⟨by omega, by omega⟩ (by decide) dX8_removeFolder_60 ?_
            have hb60 := hI.bd 2
            refine z_lconst (pc := 61) (v := 1) E (by decide) dX8_removeFolder_61 ?_
            refine z_lsub (pc := 62) E dX8_removeFolder_62 ?_
            refine z_lastore (pc := 63) E hK hM.2.1 hS (Ax.at 1 (by decide)) ⟨by omega, by omega⟩ (by decide) dX8_removeFolder_63 (fun H locs hnew hoth hS => ?_)
            have hM := W8.a1 hM hnew (fun a _ h => hoth a h)
            refine lv_aload_n (pc := 64) E.1 E.2 dX8_removeFolder_64 rfl (lv_at hl 0 rfl) ?_
            refine g8_0 (pc := 65) E hts hin8 hown hK hM.1 (hts _ (List.mem_of_getElem? (i := 2) rfl)) dX8_removeFolder_65 ?_
            refine z_iconst (pc := 68) E dX8_removeFolder_68 ?_
            refine z_laload (pc := 69) E hK hM.2.1 ⟨by omega, by omega⟩ (by decide) dX8_removeFolder_69 ?_
            rw [show ((zu σ 2 ((σ 2) - 1)) 2) = (σ 2 - 1) from (zu_s _ _ _)]
            refine z_l2i (pc := 70) E dX8_removeFolder_70 ?_
            refine lv_istore_n (pc := 71) (lv' := [(2, .int (iI (σ 2 - 1))), (0, .ref (o 0)), (1, .int (iI f))]) E.1 E.2 dX8_removeFolder_71 rfl hl (by decide) rfl (fun ls hl => ?_)
            refine lv_aload_n (pc := 72) E.1 E.2 dX8_removeFolder_72 rfl (lv_at hl 1 rfl) ?_
            refine z_bipush (pc := 73) E (by decide) dX8_removeFolder_73 ?_
            refine lv_iload_n (pc := 75) E.1 E.2 dX8_removeFolder_75 rfl (lv_at hl 2 rfl) ?_
            refine lv_iload_n (pc := 76) E.1 E.2 dX8_removeFolder_76 rfl (lv_at hl 0 rfl) ?_
            refine z_wVv (pc := 77) (As := [.int (iI 69), .int (iI f), .int (iI (σ 2 - 1))]) (rest := []) E hml hown hts (mX8_closesUp lL G o (zu (zu μ 4 0) 3 (keM ((μ 3)))) (zu σ 2 ((σ 2) - 1)) φ (keK κ σ ((μ 3))) β ω 69 f (σ 2 - 1) (by omega) (by omega) (by omega)) (cwV 3 hts gX8_removeFolder_X8_closesUp rfl rfl rfl vdX8_closesUp ⟨Nat.le_of_ble_eq_true rfl, Nat.le_of_ble_eq_true rfl⟩) (oB.recv hK hM.1 rfl) (W8.mu hM (by simp only [mV, zu, Int.reduceEq, reduceIte])) hK hS (fun _ h => h) rfl hl.1 rfl dX8_removeFolder_77 hcs (Nat.le_of_ble_eq_true rfl) (fun H locs hnew hsz hoth hS => ?_)
            have hM : W8 G o [.ref (o 1), .ref (o 2), .ref (o 3), .int (iI (keM ((μ 3)))), .int (iI 0), .ref (o 4), .int (iI (μ 6)), .int (iI (μ 7)), .int (iI (μ 8)), .int (iI (μ 9)), .int (iI (μ 10)), .int (iI (μ 11)), .int (iI (μ 12)), .int (iI (μ 13)), .int (iI (μ 14)), .long (iL (μ 15)), .ref (o 5), .int (iI (μ 17))] (clA (zu σ 2 ((σ 2) - 1)) 69 f (σ 2 - 1)) φ (keK κ σ ((μ 3))) β ω H := W8.eq hnew (by simp only [mV, zu, Int.reduceEq, reduceIte])
            refine lv_aload_n (pc := 80) E.1 E.2 dX8_removeFolder_80 rfl (lv_at hl 1 rfl) ?_
            refine z_bipush (pc := 81) E (by decide) dX8_removeFolder_81 ?_
            refine lv_iload_n (pc := 83) E.1 E.2 dX8_removeFolder_83 rfl (lv_at hl 2 rfl) ?_
            refine lv_iload_n (pc := 84) E.1 E.2 dX8_removeFolder_84 rfl (lv_at hl 0 rfl) ?_
            refine z_wVv (pc := 85) (As := [.int (iI 109), .int (iI f), .int (iI (σ 2 - 1))]) (rest := []) E hml hown hts (mX8_closesUp lL G o (zu (zu μ 4 0) 3 (keM ((μ 3)))) (clA (zu σ 2 ((σ 2) - 1)) 69 f (σ 2 - 1)) φ (keK κ σ ((μ 3))) β ω 109 f (σ 2 - 1) (by omega) (by omega) (by omega)) (cwV 3 hts gX8_removeFolder_X8_closesUp rfl rfl rfl vdX8_closesUp ⟨Nat.le_of_ble_eq_true rfl, Nat.le_of_ble_eq_true rfl⟩) (oB.recv hK hM.1 rfl) (W8.mu hM (by simp only [mV, zu, Int.reduceEq, reduceIte])) hK hS (fun _ h => h) rfl hl.1 rfl dX8_removeFolder_85 hcs (Nat.le_of_ble_eq_true rfl) (fun H locs hnew hsz hoth hS => ?_)
            have hM : W8 G o [.ref (o 1), .ref (o 2), .ref (o 3), .int (iI (keM ((μ 3)))), .int (iI 0), .ref (o 4), .int (iI (μ 6)), .int (iI (μ 7)), .int (iI (μ 8)), .int (iI (μ 9)), .int (iI (μ 10)), .int (iI (μ 11)), .int (iI (μ 12)), .int (iI (μ 13)), .int (iI (μ 14)), .long (iL (μ 15)), .ref (o 5), .int (iI (μ 17))] (clA (clA (zu σ 2 ((σ 2) - 1)) 69 f (σ 2 - 1)) 109 f (σ 2 - 1)) φ (keK κ σ ((μ 3))) β ω H := W8.eq hnew (by simp only [mV, zu, Int.reduceEq, reduceIte])
            refine lv_aload_n (pc := 88) E.1 E.2 dX8_removeFolder_88 rfl (lv_at hl 1 rfl) ?_
            refine z_sipush (pc := 89) E (by decide) dX8_removeFolder_89 ?_
            refine lv_iload_n (pc := 92) E.1 E.2 dX8_removeFolder_92 rfl (lv_at hl 2 rfl) ?_
            refine lv_iload_n (pc := 93) E.1 E.2 dX8_removeFolder_93 rfl (lv_at hl 0 rfl) ?_
            refine z_wVv (pc := 94) (As := [.int (iI 149), .int (iI f), .int (iI (σ 2 - 1))]) (rest := []) E hml hown hts (mX8_closesUp lL G o (zu (zu μ 4 0) 3 (keM ((μ 3)))) (clA (clA (zu σ 2 ((σ 2) - 1)) 69 f (σ 2 - 1)) 109 f (σ 2 - 1)) φ (keK κ σ ((μ 3))) β ω 149 f (σ 2 - 1) (by omega) (by omega) (by omega)) (cwV 3 hts gX8_removeFolder_X8_closesUp rfl rfl rfl vdX8_closesUp ⟨Nat.le_of_ble_eq_true rfl, Nat.le_of_ble_eq_true rfl⟩) (oB.recv hK hM.1 rfl) (W8.mu hM (by simp only [mV, zu, Int.reduceEq, reduceIte])) hK hS (fun _ h => h) rfl hl.1 rfl dX8_removeFolder_94 hcs (Nat.le_of_ble_eq_true rfl) (fun H locs hnew hsz hoth hS => ?_)
            have hM : W8 G o [.ref (o 1), .ref (o 2), .ref (o 3), .int (iI (keM ((μ 3)))), .int (iI 0), .ref (o 4), .int (iI (μ 6)), .int (iI (μ 7)), .int (iI (μ 8)), .int (iI (μ 9)), .int (iI (μ 10)), .int (iI (μ 11)), .int (iI (μ 12)), .int (iI (μ 13)), .int (iI (μ 14)), .long (iL (μ 15)), .ref (o 5), .int (iI (μ 17))] (clA (clA (clA (zu σ 2 ((σ 2) - 1)) 69 f (σ 2 - 1)) 109 f (σ 2 - 1)) 149 f (σ 2 - 1)) φ (keK κ σ ((μ 3))) β ω H := W8.eq hnew (by simp only [mV, zu, Int.reduceEq, reduceIte])
            refine z_iconst (pc := 97) E dX8_removeFolder_97 ?_
            refine lv_istore_n (pc := 98) (lv' := [(3, .int (iI 0)), (2, .int (iI (σ 2 - 1))), (0, .ref (o 0)), (1, .int (iI f))]) E.1 E.2 dX8_removeFolder_98 rfl hl (by decide) rfl (fun ls hl => ?_)
            suffices L99 : ∀ (nf : Nat), ∀ (k : Int), (0 ≤ k ∧ k ≤ σ 2 - 1) → ((σ 2 - 1 - k).toNat) < nf → ∀  (H : Heap) (locs : List Loc), W8 G o [.ref (o 1), .ref (o 2), .ref (o 3), .int (iI (keM ((μ 3)))), .int (iI 0), .ref (o 4), .int (iI (μ 6)), .int (iI (μ 7)), .int (iI (μ 8)), .int (iI (μ 9)), .int (iI (μ 10)), .int (iI (μ 11)), .int (iI (μ 12)), .int (iI (μ 13)), .int (iI (μ 14)), .long (iL (μ 15)), .ref (o 5), .int (iI (μ 17))] (dcA (rf1 σ f) 69 f k) φ (keK κ σ ((μ 3))) β ω H → va_S (Ax o 6) ss.heap H locs → ∀ ls : Array Slot, lv_has ls 4 [(3, .int (iI k)), (2, .int (iI (σ 2 - 1))), (0, .ref (o 0)), (1, .int (iI f))] → W pp lL ee ({ frames := 3, cells := 0, slots := 0, locals := 74 } : Room) ss mm [.ref (o 0), .int (iI f)].toArray below meth cC H locs 0 0 (MQ below (va_Qi (fun r (_ : Unit) => r = (iI (if (kxRemF σ f) = 0 then σ 2 - 1 else 0))) (fun _ tZ => W8 G o (mV o (zu (zu μ 4 (kxRemF σ f)) 3 (if (kxRemF σ f) = 0 then keM (μ 3) else μ 3))) (if (kxRemF σ f) = 0 then nxRemF σ f else σ) φ (if (kxRemF σ f) = 0 then keK κ σ (μ 3) else κ) β ω tZ.heap) (Ax o 6)) [.ref (o 0), .int (iI f)].toArray ss 0 0 (Ax o 6)) (F0 mm 99 ls []) from L99 _ 0 (by omega) (Nat.lt_succ_self _)  _ _ (by rw [dcA_0]; exact hM) hS ls (lv_sub hl [0, 1, 2, 3] rfl)
            intro nfL99
            induction nfL99 with
            | zero => intro k hk hmzL99; exact absurd hmzL99 (Nat.not_lt_zero _)
            | succ nfL99 ihL99 =>
              intro k hk hmzL99  H locs hM hS ls hl
              refine lv_iload_n (pc := 99) E.1 E.2 dX8_removeFolder_99 rfl (lv_at hl 0 rfl) ?_
              refine lv_iload_n (pc := 100) E.1 E.2 dX8_removeFolder_100 rfl (lv_at hl 1 rfl) ?_
              refine z_icmp_ge (pc := 101) (tgt := 142) E ⟨by omega, by omega⟩ ⟨by omega, by omega⟩ dX8_removeFolder_101 (by decide) (fun h101 => ?_) (fun h101 => ?_)
              · have ek : k = σ 2 - 1 := by omega
                subst ek
                refine z_iconst (pc := 142) E dX8_removeFolder_142 ?_
                refine lv_istore_n (pc := 143) (lv' := [(3, .int (iI 0)), (2, .int (iI (σ 2 - 1))), (0, .ref (o 0)), (1, .int (iI f))]) E.1 E.2 dX8_removeFolder_143 rfl hl (by decide) rfl (fun ls hl => ?_)
                suffices L144 : ∀ (nf : Nat), ∀ (m : Int), (0 ≤ m ∧ m ≤ σ 3) → ((σ 3 - m).toNat) < nf → ∀  (H : Heap) (locs : List Loc), W8 G o [.ref (o 1), .ref (o 2), .ref (o 3), .int (iI (keM ((μ 3)))), .int (iI 0), .ref (o 4), .int (iI (μ 6)), .int (iI (μ 7)), .int (iI (μ 8)), .int (iI (μ 9)), .int (iI (μ 10)), .int (iI (μ 11)), .int (iI (μ 12)), .int (iI (μ 13)), .int (iI (μ 14)), .long (iL (μ 15)), .ref (o 5), .int (iI (μ 17))] (dcA (dcA (rf1 σ f) 69 f (σ 2 - 1)) 189 f m) φ (keK κ σ ((μ 3))) β ω H → va_S (Ax o 6) ss.heap H locs → ∀ ls : Array Slot, lv_has ls 4 [(3, .int (iI m)), (2, .int (iI (σ 2 - 1))), (0, .ref (o 0)), (1, .int (iI f))] → W pp lL ee ({ frames := 3, cells := 0, slots := 0, locals := 74 } : Room) ss mm [.ref (o 0), .int (iI f)].toArray below meth cC H locs 0 0 (MQ below (va_Qi (fun r (_ : Unit) => r = (iI (if (kxRemF σ f) = 0 then σ 2 - 1 else 0))) (fun _ tZ => W8 G o (mV o (zu (zu μ 4 (kxRemF σ f)) 3 (if (kxRemF σ f) = 0 then keM (μ 3) else μ 3))) (if (kxRemF σ f) = 0 then nxRemF σ f else σ) φ (if (kxRemF σ f) = 0 then keK κ σ (μ 3) else κ) β ω tZ.heap) (Ax o 6)) [.ref (o 0), .int (iI f)].toArray ss 0 0 (Ax o 6)) (F0 mm 144 ls []) from L144 _ 0 (by omega) (Nat.lt_succ_self _)  _ _ (by rw [dcA_0]; exact hM) hS ls (lv_sub hl [0, 1, 2, 3] rfl)
                intro nfL144
                induction nfL144 with
                | zero => intro m hm hmzL144; exact absurd hmzL144 (Nat.not_lt_zero _)
                | succ nfL144 ihL144 =>
                  intro m hm hmzL144  H locs hM hS ls hl
                  refine lv_iload_n (pc := 144) E.1 E.2 dX8_removeFolder_144 rfl (lv_at hl 0 rfl) ?_
                  refine z_i2l (pc := 145) E ⟨by omega, by omega⟩ dX8_removeFolder_145 ?_
                  refine lv_aload_n (pc := 146) E.1 E.2 dX8_removeFolder_146 rfl (lv_at hl 2 rfl) ?_
                  refine g8_0 (pc := 147) E hts hin8 hown hK hM.1 (hts _ (List.mem_of_getElem? (i := 2) rfl)) dX8_removeFolder_147 ?_
                  refine z_iconst (pc := 150) E dX8_removeFolder_150 ?_
                  refine z_laload (pc := 151) E hK hM.2.1 ⟨by omega, by omega⟩ (by decide) dX8_removeFolder_151 ?_
                  rw [show ((dcA (dcA (rf1 σ f) 69 f (σ 2 - 1)) 189 f m) 3) = (σ 3) from (rfA_3 hI hf1 (by omega))]
                  refine z_lcmp_ge (pc := 152) (tgt := 196) E ⟨by omega, by omega⟩ ⟨by omega, by omega⟩ dX8_removeFolder_152 dX8_removeFolder_153 (by decide) (fun h152 => ?_) (fun h152 => ?_)
                  · have em : m = σ 3 := by omega
                    subst em
                    refine lv_aload_n (pc := 196) E.1 E.2 dX8_removeFolder_196 rfl (lv_at hl 2 rfl) ?_
                    refine z_wVv (pc := 197) (As := []) (rest := []) E hml hown hts (mX8_setsClocks lL G o (zu (zu μ 4 0) 3 (keM ((μ 3)))) (rfA σ f) φ (keK κ σ ((μ 3))) β ω  hIr) (cwV 0 hts gX8_removeFolder_X8_setsClocks rfl rfl rfl vdX8_setsClocks ⟨Nat.le_of_ble_eq_true rfl, Nat.le_of_ble_eq_true rfl⟩) (oB.recv hK hM.1 rfl) (W8.mu hM (by simp only [mV, zu, Int.reduceEq, reduceIte])) hK hS (fun _ h => h) rfl hl.1 rfl dX8_removeFolder_197 hcs (Nat.le_of_ble_eq_true rfl) (fun H locs hnew hsz hoth hS => ?_)
                    have hM : W8 G o [.ref (o 1), .ref (o 2), .ref (o 3), .int (iI (keM ((μ 3)))), .int (iI 0), .ref (o 4), .int (iI (μ 6)), .int (iI (μ 7)), .int (iI (μ 8)), .int (iI (μ 9)), .int (iI (μ 10)), .int (iI (μ 11)), .int (iI (μ 12)), .int (iI (μ 13)), .int (iI (μ 14)), .long (iL (μ 15)), .ref (o 5), .int (iI (μ 17))] (scA (rfA σ f) 16) φ (keK κ σ ((μ 3))) β ω H := W8.eq hnew (by simp only [mV, zu, Int.reduceEq, reduceIte])
                    refine lv_iload_n (pc := 200) E.1 E.2 dX8_removeFolder_200 rfl (lv_at hl 1 rfl) ?_
                    exact z_retWi E hr (congrArg iI (by have e0 : (kxRemF σ f) = 0 := (by unfold kxRemF; (repeat' split) <;> first | rfl | omega | (exfalso; omega) | contradiction | grind); rw [e0]; refine Eq.trans ?_ (if_pos rfl).symm; rfl)) (by have e0 : (kxRemF σ f) = 0 := (by unfold kxRemF; (repeat' split) <;> first | rfl | omega | (exfalso; omega) | contradiction | grind); rw [e0]; rw [if_pos rfl, if_pos rfl, if_pos rfl]; exact W8.mu hM (by simp only [mV, zu, Int.reduceEq, reduceIte])) hS hlocks dX8_removeFolder_201
                  · refine lv_aload_n (pc := 156) E.1 E.2 dX8_removeFolder_156 rfl (lv_at hl 2 rfl) ?_
                    refine g8_0 (pc := 157) E hts hin8 hown hK hM.1 (hts _ (List.mem_of_getElem? (i := 2) rfl)) dX8_removeFolder_157 ?_
                    refine z_sipush (pc := 160) E (by decide) dX8_removeFolder_160 ?_
                    refine lv_iload_n (pc := 163) E.1 E.2 dX8_removeFolder_163 rfl (lv_at hl 0 rfl) ?_
                    refine z_iadd (pc := 164) E dX8_removeFolder_164 ?_
                    refine lv_dup2_11 (pc := 165) E.1 E.2 dX8_removeFolder_165 rfl rfl ?_
                    refine z_laload (pc := 166) E hK hM.2.1 ⟨by omega, by omega⟩ (by decide) dX8_removeFolder_166 ?_
                    rw [show ((dcA (dcA (rf1 σ f) 69 f (σ 2 - 1)) 189 f m) (189 + m)) = (σ (189 + m)) from (rfA_m hI hf1 (by omega))]
                    refine lv_aload_n (pc := 167) E.1 E.2 dX8_removeFolder_167 rfl (lv_at hl 2 rfl) ?_
                    refine g8_0 (pc := 168) E hts hin8 hown hK hM.1 (hts _ (List.mem_of_getElem? (i := 2) rfl)) dX8_removeFolder_168 ?_
                    refine z_sipush (pc := 171) E (by decide) dX8_removeFolder_171 ?_
                    refine lv_iload_n (pc := 174) E.1 E.2 dX8_removeFolder_174 rfl (lv_at hl 0 rfl) ?_
                    refine z_iadd (pc := 175) E dX8_removeFolder_175 ?_
                    refine z_laload (pc := 176) E hK hM.2.1 ⟨by omega, by omega⟩ (by decide) dX8_removeFolder_176 ?_
                    have hrb := hI.bd (189 + m)
                    rw [show ((dcA (dcA (rf1 σ f) 69 f (σ 2 - 1)) 189 f m) (189 + m)) = (σ (189 + m)) from (rfA_m hI hf1 (by omega))]
                    refine lv_iload_n (pc := 177) E.1 E.2 dX8_removeFolder_177 rfl (lv_at hl 3 rfl) ?_
                    refine z_i2l (pc := 178) E ⟨by omega, by omega⟩ dX8_removeFolder_178 ?_
                    refine z_lcmp_le (pc := 179) (tgt := 187) E ⟨by omega, by omega⟩ ⟨by omega, by omega⟩ dX8_removeFolder_179 dX8_removeFolder_180 (by decide) (fun h179 => ?_) (fun h179 => ?_)
                    · refine z_lconst (pc := 187) (v := 0) E (by decide) dX8_removeFolder_187 ?_
                      refine z_lsub (pc := 188) E dX8_removeFolder_188 ?_
                      refine z_lastore (pc := 189) E hK hM.2.1 hS (Ax.at 1 (by decide)) ⟨by omega, by omega⟩ (by decide) dX8_removeFolder_189 (fun H locs hnew hoth hS => ?_)
                      have hM := W8.a1 hM hnew (fun a _ h => hoth a h)
                      refine lv_iinc (pc := 190) (v := iI (m + 1)) (lv' := [(3, .int (iI (m + 1))), (2, .int (iI (σ 2 - 1))), (0, .ref (o 0)), (1, .int (iI f))]) E.1 E.2 dX8_removeFolder_190 hl (k := 0) rfl (iI_add _ _) (by decide) rfl (fun ls hl => ?_)
                      refine lv_goto (pc := 193) (tgt := 144) E.1 E.2 dX8_removeFolder_193 (by decide) ?_
                      exact ihL144 (m + 1) (by omega) (by omega)  _ _ (by rw [← dcA_s (dcA (rf1 σ f) 69 f (σ 2 - 1)) 189 f hm.1, rf1_m hI hf1 (by omega)]; first | (rw [if_pos (show f < σ (189 + m) by omega)]; exact hM) | (rw [if_neg (show ¬ f < σ (189 + m) by omega)]; have e0 : σ (189 + m) - 0 = σ (189 + m) := (by omega); rw [e0] at hM; exact hM)) hS ls (lv_sub hl [0, 1, 2, 3] rfl)
                    · refine z_lconst (pc := 183) (v := 1) E (by decide) dX8_removeFolder_183 ?_
                      refine lv_goto (pc := 184) (tgt := 188) E.1 E.2 dX8_removeFolder_184 (by decide) ?_
                      refine z_lsub (pc := 188) E dX8_removeFolder_188 ?_
                      refine z_lastore (pc := 189) E hK hM.2.1 hS (Ax.at 1 (by decide)) ⟨by omega, by omega⟩ (by decide) dX8_removeFolder_189 (fun H locs hnew hoth hS => ?_)
                      have hM := W8.a1 hM hnew (fun a _ h => hoth a h)
                      refine lv_iinc (pc := 190) (v := iI (m + 1)) (lv' := [(3, .int (iI (m + 1))), (2, .int (iI (σ 2 - 1))), (0, .ref (o 0)), (1, .int (iI f))]) E.1 E.2 dX8_removeFolder_190 hl (k := 0) rfl (iI_add _ _) (by decide) rfl (fun ls hl => ?_)
                      refine lv_goto (pc := 193) (tgt := 144) E.1 E.2 dX8_removeFolder_193 (by decide) ?_
                      exact ihL144 (m + 1) (by omega) (by omega)  _ _ (by rw [← dcA_s (dcA (rf1 σ f) 69 f (σ 2 - 1)) 189 f hm.1, rf1_m hI hf1 (by omega)]; first | (rw [if_pos (show f < σ (189 + m) by omega)]; exact hM) | (rw [if_neg (show ¬ f < σ (189 + m) by omega)]; have e0 : σ (189 + m) - 0 = σ (189 + m) := (by omega); rw [e0] at hM; exact hM)) hS ls (lv_sub hl [0, 1, 2, 3] rfl)
              · refine lv_aload_n (pc := 104) E.1 E.2 dX8_removeFolder_104 rfl (lv_at hl 2 rfl) ?_
                refine g8_0 (pc := 105) E hts hin8 hown hK hM.1 (hts _ (List.mem_of_getElem? (i := 2) rfl)) dX8_removeFolder_105 ?_
                refine z_bipush (pc := 108) E (by decide) dX8_removeFolder_108 ?_
                refine lv_iload_n (pc := 110) E.1 E.2 dX8_removeFolder_110 rfl (lv_at hl 0 rfl) ?_
                refine z_iadd (pc := 111) E dX8_removeFolder_111 ?_
                refine lv_dup2_11 (pc := 112) E.1 E.2 dX8_removeFolder_112 rfl rfl ?_
                refine z_laload (pc := 113) E hK hM.2.1 ⟨by omega, by omega⟩ (by decide) dX8_removeFolder_113 ?_
                rw [show ((dcA (rf1 σ f) 69 f k) (69 + k)) = (rf1 σ f (69 + k)) from (dcA_n _ _ _ (Int.le_refl _))]
                refine lv_aload_n (pc := 114) E.1 E.2 dX8_removeFolder_114 rfl (lv_at hl 2 rfl) ?_
                refine g8_0 (pc := 115) E hts hin8 hown hK hM.1 (hts _ (List.mem_of_getElem? (i := 2) rfl)) dX8_removeFolder_115 ?_
                refine z_bipush (pc := 118) E (by decide) dX8_removeFolder_118 ?_
                refine lv_iload_n (pc := 120) E.1 E.2 dX8_removeFolder_120 rfl (lv_at hl 0 rfl) ?_
                refine z_iadd (pc := 121) E dX8_removeFolder_121 ?_
                refine z_laload (pc := 122) E hK hM.2.1 ⟨by omega, by omega⟩ (by decide) dX8_removeFolder_122 ?_
                have hrb := rf1_bd hI hf1 (69 + k)
                rw [show ((dcA (rf1 σ f) 69 f k) (69 + k)) = (rf1 σ f (69 + k)) from (dcA_n _ _ _ (Int.le_refl _))]
                refine lv_iload_n (pc := 123) E.1 E.2 dX8_removeFolder_123 rfl (lv_at hl 3 rfl) ?_
                refine z_i2l (pc := 124) E ⟨by omega, by omega⟩ dX8_removeFolder_124 ?_
                refine z_lcmp_le (pc := 125) (tgt := 133) E ⟨by omega, by omega⟩ ⟨by omega, by omega⟩ dX8_removeFolder_125 dX8_removeFolder_126 (by decide) (fun h125 => ?_) (fun h125 => ?_)
                · refine z_lconst (pc := 133) (v := 0) E (by decide) dX8_removeFolder_133 ?_
                  refine z_lsub (pc := 134) E dX8_removeFolder_134 ?_
                  refine z_lastore (pc := 135) E hK hM.2.1 hS (Ax.at 1 (by decide)) ⟨by omega, by omega⟩ (by decide) dX8_removeFolder_135 (fun H locs hnew hoth hS => ?_)
                  have hM := W8.a1 hM hnew (fun a _ h => hoth a h)
                  refine lv_iinc (pc := 136) (v := iI (k + 1)) (lv' := [(3, .int (iI (k + 1))), (2, .int (iI (σ 2 - 1))), (0, .ref (o 0)), (1, .int (iI f))]) E.1 E.2 dX8_removeFolder_136 hl (k := 0) rfl (iI_add _ _) (by decide) rfl (fun ls hl => ?_)
                  refine lv_goto (pc := 139) (tgt := 99) E.1 E.2 dX8_removeFolder_139 (by decide) ?_
                  exact ihL99 (k + 1) (by omega) (by omega)  _ _ (by rw [← dcA_s (rf1 σ f) 69 f hk.1]; first | (rw [if_pos (show f < rf1 σ f (69 + k) by omega)]; exact hM) | (rw [if_neg (show ¬ f < rf1 σ f (69 + k) by omega)]; have e0 : rf1 σ f (69 + k) - 0 = rf1 σ f (69 + k) := (by omega); rw [e0] at hM; exact hM)) hS ls (lv_sub hl [0, 1, 2, 3] rfl)
                · refine z_lconst (pc := 129) (v := 1) E (by decide) dX8_removeFolder_129 ?_
                  refine lv_goto (pc := 130) (tgt := 134) E.1 E.2 dX8_removeFolder_130 (by decide) ?_
                  refine z_lsub (pc := 134) E dX8_removeFolder_134 ?_
                  refine z_lastore (pc := 135) E hK hM.2.1 hS (Ax.at 1 (by decide)) ⟨by omega, by omega⟩ (by decide) dX8_removeFolder_135 (fun H locs hnew hoth hS => ?_)
                  have hM := W8.a1 hM hnew (fun a _ h => hoth a h)
                  refine lv_iinc (pc := 136) (v := iI (k + 1)) (lv' := [(3, .int (iI (k + 1))), (2, .int (iI (σ 2 - 1))), (0, .ref (o 0)), (1, .int (iI f))]) E.1 E.2 dX8_removeFolder_136 hl (k := 0) rfl (iI_add _ _) (by decide) rfl (fun ls hl => ?_)
                  refine lv_goto (pc := 139) (tgt := 99) E.1 E.2 dX8_removeFolder_139 (by decide) ?_
                  exact ihL99 (k + 1) (by omega) (by omega)  _ _ (by rw [← dcA_s (rf1 σ f) 69 f hk.1]; first | (rw [if_pos (show f < rf1 σ f (69 + k) by omega)]; exact hM) | (rw [if_neg (show ¬ f < rf1 σ f (69 + k) by omega)]; have e0 : rf1 σ f (69 + k) - 0 = rf1 σ f (69 + k) := (by omega); rw [e0] at hM; exact hM)) hS ls (lv_sub hl [0, 1, 2, 3] rfl)
          · exact absurd h45 (by decide)
        · refine z_iconst (pc := 33) E dX8_removeFolder_33 ?_
          refine lv_goto (pc := 34) (tgt := 38) E.1 E.2 dX8_removeFolder_34 (by decide) ?_
          refine p8_4 (pc := 38) E hts hin8 hown hK hM.1 hS (Ax.at 0 (by decide)) (hts _ (List.mem_of_getElem? (i := 1) rfl)) dX8_removeFolder_38 (fun H locs hnew hoth hS => ?_)
          have hM := W8.p hM hnew (fun a _ h => hoth a h)
          refine lv_aload_n (pc := 41) E.1 E.2 dX8_removeFolder_41 rfl (lv_at hl 0 rfl) ?_
          refine g8_4 (pc := 42) E hts hin8 hown hK hM.1 (hts _ (List.mem_of_getElem? (i := 1) rfl)) dX8_removeFolder_42 ?_
          refine z_if_le (pc := 45) (tgt := 50) E (by decide) dX8_removeFolder_45 (by decide) (fun h45 => ?_) (fun h45 => ?_)
          · exact absurd h45 (by decide)
          · refine z_iconst (pc := 48) E dX8_removeFolder_48 ?_
            exact z_retWi E hr (congrArg iI (by have e0 : (kxRemF σ f) = 2 := (by unfold kxRemF; (repeat' split) <;> first | rfl | omega | (exfalso; omega) | contradiction | grind); rw [e0]; exact (if_neg (by decide)).symm)) (by have e0 : (kxRemF σ f) = 2 := (by unfold kxRemF; (repeat' split) <;> first | rfl | omega | (exfalso; omega) | contradiction | grind); rw [e0]; rw [if_neg (by decide), if_neg (by decide), if_neg (by decide)]; exact W8.mu hM (by simp only [mV, zu, Int.reduceEq, reduceIte])) hS hlocks dX8_removeFolder_49
  · refine z_iconst (pc := 9) E dX8_removeFolder_9 ?_
    refine lv_goto (pc := 10) (tgt := 38) E.1 E.2 dX8_removeFolder_10 (by decide) ?_
    refine p8_4 (pc := 38) E hts hin8 hown hK hM.1 hS (Ax.at 0 (by decide)) (hts _ (List.mem_of_getElem? (i := 1) rfl)) dX8_removeFolder_38 (fun H locs hnew hoth hS => ?_)
    have hM := W8.p hM hnew (fun a _ h => hoth a h)
    refine lv_aload_n (pc := 41) E.1 E.2 dX8_removeFolder_41 rfl (lv_at hl 0 rfl) ?_
    refine g8_4 (pc := 42) E hts hin8 hown hK hM.1 (hts _ (List.mem_of_getElem? (i := 1) rfl)) dX8_removeFolder_42 ?_
    refine z_if_le (pc := 45) (tgt := 50) E (by decide) dX8_removeFolder_45 (by decide) (fun h45 => ?_) (fun h45 => ?_)
    · exact absurd h45 (by decide)
    · refine z_iconst (pc := 48) E dX8_removeFolder_48 ?_
      exact z_retWi E hr (congrArg iI (by have e0 : (kxRemF σ f) = 1 := (by unfold kxRemF; (repeat' split) <;> first | rfl | omega | (exfalso; omega) | contradiction | grind); rw [e0]; exact (if_neg (by decide)).symm)) (by have e0 : (kxRemF σ f) = 1 := (by unfold kxRemF; (repeat' split) <;> first | rfl | omega | (exfalso; omega) | contradiction | grind); rw [e0]; rw [if_neg (by decide), if_neg (by decide), if_neg (by decide)]; exact W8.mu hM (by simp only [mV, zu, Int.reduceEq, reduceIte])) hS hlocks dX8_removeFolder_49
set_option maxHeartbeats 1000000 in
set_option maxRecDepth 100000 in
theorem mX8_tag (lL : Launch) (G : GG) (o : Nat → Nat) (μ σ φ κ β ω : Int → Int) (f : Int) (t : Int) (hI : In σ) (hf : -2147483648 ≤ f ∧ f < 2147483648) (ht : -2147483648 ≤ t ∧ t < 2147483648) (hk8 : 0 ≤ μ 3 ∧ μ 3 ≤ 8) (hU : Ub σ) : Met lL yX8_tag wsX8_tag ({ frames := 6, cells := 0, slots := 0, locals := 146 } : Room) (va_Pc [.ref (o 0), .int (iI f), .int (iI t)] (fun U => W8 G o (mV o μ) σ φ κ β ω U.heap ∧ KK G U)) (va_Qi (fun r (_ : Unit) => r = (iI (if (kxTag σ f t) = 0 then axTag σ f t else 0))) (fun _ tZ => W8 G o (mV o (zu (zu μ 4 (kxTag σ f t)) 3 (if (kxTag σ f t) = 0 then keM (μ 3) else μ 3))) (if (kxTag σ f t) = 0 then nxTag σ f t else σ) φ (if (kxTag σ f t) = 0 then keK κ σ (μ 3) else κ) β ω tZ.heap) (Ax o 6)) 0 0 (Ax o 6) := by
  refine z_met (P := (fun H : Heap => W8 G o (mV o μ) σ φ κ β ω H)) (by decide) rfl (Nat.le_of_ble_eq_true rfl) (fun pp ee ss mm below meth cC E hr hml hown hts hlocks hM hK ls hl => ?_)
  have hl : lv_has ls 4 [(0, .ref (o 0)), (1, .int (iI f)), (2, .int (iI t))] := hl
  have hcs : 0 ≤ (({ frames := 6, cells := 0, slots := 0, locals := 146 } : Room)).cells ∧ 0 ≤ (({ frames := 6, cells := 0, slots := 0, locals := 146 } : Room)).slots := ⟨Nat.zero_le _, Nat.zero_le _⟩
  have hS : va_S (Ax o 6) ss.heap ss.heap [] := va_S.rf
  have hin8 : ∀ w ∈ wsX80, w ∈ wsX8_tag := fun w h => List.mem_cons_of_mem _ (List.mem_append_right _ (h))
  have hF := hI.F
  have hMm := hI.M
  have hGn := hI.Gn
  have hTi := hI.ti
  have hGr := hI.gr
  refine lv_aload_n (pc := 0) E.1 E.2 dX8_tag_0 rfl (lv_at hl 0 rfl) ?_
  refine lv_aload_n (pc := 1) E.1 E.2 dX8_tag_1 rfl (lv_at hl 0 rfl) ?_
  refine lv_iload_n (pc := 2) E.1 E.2 dX8_tag_2 rfl (lv_at hl 1 rfl) ?_
  refine z_rVi (pc := 3) (As := [.int (iI f)]) (rest := [.ref (o 0)]) E hml hown hts (mX8_isFolder lL G o μ σ φ κ β ω f hI (by omega)) (cwV 1 hts gX8_tag_X8_isFolder rfl rfl rfl vdX8_isFolder ⟨Nat.le_of_ble_eq_true rfl, Nat.le_of_ble_eq_true rfl⟩) (oB.recv hK hM.1 rfl) hM hK rfl hl.1 rfl dX8_tag_3 hcs (Nat.le_of_ble_eq_true rfl) ?_
  refine z_ifb_ne (pc := 6) (tgt := 13) E dX8_tag_6 (by decide) (fun h6 => ?_) (fun h6 => ?_)
  · refine lv_iload_n (pc := 13) E.1 E.2 dX8_tag_13 rfl (lv_at hl 2 rfl) ?_
    refine z_i2l (pc := 14) E ⟨by omega, by omega⟩ dX8_tag_14 ?_
    refine lv_ldc2 (pc := 15) (v := iL (-1)) E.1 E.2 hown (show (Jvm.Cond.constantLong RX8 37 (iL (-1))).before _ ss = true from (hts _ (List.mem_of_getElem? (i := 1) rfl))) dX8_tag_15 ?_
    refine lv_ldc2 (pc := 18) (v := iL (7)) E.1 E.2 hown (show (Jvm.Cond.constantLong RX8 189 (iL (7))).before _ ss = true from (hts _ (List.mem_of_getElem? (i := 2) rfl))) dX8_tag_18 ?_
    refine z_rSi (pc := 21) (P := fun _ => True) (As := [.long (iL t), .long (iL (-1)), .long (iL 7)]) (rest := [.ref (o 0)]) E hml hown hts (mX8_isIn lL G t (-1) 7 ⟨by omega, by omega⟩ ⟨by omega, by omega⟩ ⟨by omega, by omega⟩) (va_cwS 3 hts gX8_tag_X8_isIn rfl rfl rfl vdX8_isIn.2 ⟨Nat.le_of_ble_eq_true rfl, Nat.le_of_ble_eq_true rfl⟩) trivial hK rfl hl.1 rfl dX8_tag_21 hcs (Nat.le_of_ble_eq_true rfl) ?_
    refine z_ifb_ne (pc := 24) (tgt := 31) E dX8_tag_24 (by decide) (fun h24 => ?_) (fun h24 => ?_)
    · refine lv_aload_n (pc := 31) E.1 E.2 dX8_tag_31 rfl (lv_at hl 0 rfl) ?_
      refine lv_iload_n (pc := 32) E.1 E.2 dX8_tag_32 rfl (lv_at hl 1 rfl) ?_
      refine lv_iload_n (pc := 33) E.1 E.2 dX8_tag_33 rfl (lv_at hl 2 rfl) ?_
      refine z_rVi (pc := 34) (As := [.int (iI f), .int (iI t)]) (rest := [.ref (o 0)]) E hml hown hts (mX8_reasonToTag lL G o μ σ φ κ β ω f t hI (by omega) (by omega)) (cwV 2 hts gX8_tag_X8_reasonToTag rfl rfl rfl vdX8_reasonToTag ⟨Nat.le_of_ble_eq_true rfl, Nat.le_of_ble_eq_true rfl⟩) (oB.recv hK hM.1 rfl) hM hK rfl hl.1 rfl dX8_tag_34 hcs (Nat.le_of_ble_eq_true rfl) ?_
      have hrt := rtS_b σ f t
      refine z_if_le (pc := 37) (tgt := 44) E ⟨by omega, by omega⟩ dX8_tag_37 (by decide) (fun h37 => ?_) (fun h37 => ?_)
      · refine z_iconst (pc := 44) E dX8_tag_44 ?_
        refine p8_4 (pc := 45) E hts hin8 hown hK hM.1 hS (Ax.at 0 (by decide)) (hts _ (List.mem_of_getElem? (i := 3) rfl)) dX8_tag_45 (fun H locs hnew hoth hS => ?_)
        have hM := W8.p hM hnew (fun a _ h => hoth a h)
        refine lv_aload_n (pc := 48) E.1 E.2 dX8_tag_48 rfl (lv_at hl 0 rfl) ?_
        refine g8_4 (pc := 49) E hts hin8 hown hK hM.1 (hts _ (List.mem_of_getElem? (i := 3) rfl)) dX8_tag_49 ?_
        refine z_if_le (pc := 52) (tgt := 57) E (by decide) dX8_tag_52 (by decide) (fun h52 => ?_) (fun h52 => ?_)
        · have hf2 : 0 ≤ f ∧ f < σ 2 := by omega
          have ht2 : -1 ≤ t ∧ t ≤ 7 := by omega
          refine lv_aload_n (pc := 57) E.1 E.2 dX8_tag_57 rfl (lv_at hl 0 rfl) ?_
          refine z_wVv (pc := 58) (As := []) (rest := []) E hml hown hts (mX8_keeps lL G o (zu μ 4 0) σ φ κ β ω  (by simpa only [zu, Int.reduceEq, reduceIte] using hk8)) (cwV 0 hts gX8_tag_X8_keeps rfl rfl rfl vdX8_keeps ⟨Nat.le_of_ble_eq_true rfl, Nat.le_of_ble_eq_true rfl⟩) (oB.recv hK hM.1 rfl) (W8.mu hM (by simp only [mV, zu, Int.reduceEq, reduceIte])) hK hS (fun _ h => h) rfl hl.1 rfl dX8_tag_58 hcs (Nat.le_of_ble_eq_true rfl) (fun H locs hnew hsz hoth hS => ?_)
          have hM : W8 G o [.ref (o 1), .ref (o 2), .ref (o 3), .int (iI (keM ((μ 3)))), .int (iI 0), .ref (o 4), .int (iI (μ 6)), .int (iI (μ 7)), .int (iI (μ 8)), .int (iI (μ 9)), .int (iI (μ 10)), .int (iI (μ 11)), .int (iI (μ 12)), .int (iI (μ 13)), .int (iI (μ 14)), .long (iL (μ 15)), .ref (o 5), .int (iI (μ 17))] σ φ (keK κ σ ((μ 3))) β ω H := W8.eq hnew (by simp only [mV, zu, Int.reduceEq, reduceIte])
          refine lv_aload_n (pc := 61) E.1 E.2 dX8_tag_61 rfl (lv_at hl 0 rfl) ?_
          refine lv_iload_n (pc := 62) E.1 E.2 dX8_tag_62 rfl (lv_at hl 1 rfl) ?_
          refine lv_aload_n (pc := 63) E.1 E.2 dX8_tag_63 rfl (lv_at hl 0 rfl) ?_
          refine lv_iload_n (pc := 64) E.1 E.2 dX8_tag_64 rfl (lv_at hl 1 rfl) ?_
          refine z_rVi (pc := 65) (As := [.int (iI f)]) (rest := [.int (iI f), .ref (o 0)]) E hml hown hts (mX8_projectOf lL G o (zu (zu μ 4 0) 3 (keM ((μ 3)))) σ φ (keK κ σ ((μ 3))) β ω f hI (Or.inr hf2)) (cwV 1 hts gX8_tag_X8_projectOf rfl rfl rfl vdX8_projectOf ⟨Nat.le_of_ble_eq_true rfl, Nat.le_of_ble_eq_true rfl⟩) (oB.recv hK hM.1 rfl) (W8.mu hM (by simp only [mV, zu, Int.reduceEq, reduceIte])) hK rfl hl.1 rfl dX8_tag_65 hcs (Nat.le_of_ble_eq_true rfl) ?_
          have hpj := hI.pjr (f := f) (Or.inr hf2)
          refine lv_aload_n (pc := 68) E.1 E.2 dX8_tag_68 rfl (lv_at hl 0 rfl) ?_
          refine lv_iload_n (pc := 69) E.1 E.2 dX8_tag_69 rfl (lv_at hl 1 rfl) ?_
          refine lv_iload_n (pc := 70) E.1 E.2 dX8_tag_70 rfl (lv_at hl 2 rfl) ?_
          refine z_rVi (pc := 71) (As := [.int (iI f), .int (iI t)]) (rest := [.int (iI (pjF σ f)), .int (iI f), .ref (o 0)]) E hml hown hts (mX8_projectWith lL G o (zu (zu μ 4 0) 3 (keM ((μ 3)))) σ φ (keK κ σ ((μ 3))) β ω f t hI (by omega) (by omega)) (cwV 2 hts gX8_tag_X8_projectWith rfl rfl rfl vdX8_projectWith ⟨Nat.le_of_ble_eq_true rfl, Nat.le_of_ble_eq_true rfl⟩) (oB.recv hK hM.1 rfl) (W8.mu hM (by simp only [mV, zu, Int.reduceEq, reduceIte])) hK rfl hl.1 rfl dX8_tag_71 hcs (Nat.le_of_ble_eq_true rfl) ?_
          have hpw := hI.pwb hf2 ht2
          refine z_wVi (pc := 74) (As := [.int (iI f), .int (iI (pjF σ f)), .int (iI (pwS σ f t))]) (rest := []) E hml hown hts (mX8_passes lL G o (zu (zu μ 4 0) 3 (keM ((μ 3)))) σ φ (keK κ σ ((μ 3))) β ω f (pjF σ f) (pwS σ f t) hI (by omega) (by omega) (by omega)) (cwV 3 hts gX8_tag_X8_passes rfl rfl rfl vdX8_passes ⟨Nat.le_of_ble_eq_true rfl, Nat.le_of_ble_eq_true rfl⟩) (oB.recv hK hM.1 rfl) (W8.mu hM (by simp only [mV, zu, Int.reduceEq, reduceIte])) hK hS (fun _ h => h) rfl hl.1 rfl dX8_tag_74 hcs (Nat.le_of_ble_eq_true rfl) (fun H locs hnew hsz hoth hS => ?_)
          have hM : W8 G o [.ref (o 1), .ref (o 2), .ref (o 3), .int (iI (keM ((μ 3)))), .int (iI 0), .ref (o 4), .int (iI (μ 6)), .int (iI (μ 7)), .int (iI (μ 8)), .int (iI (μ 9)), .int (iI (μ 10)), .int (iI (μ 11)), .int (iI (μ 12)), .int (iI (μ 13)), .int (iI (μ 14)), .long (iL (μ 15)), .ref (o 5), .int (iI (μ 17))] (paA σ f (pjF σ f) (pwS σ f t)) φ (keK κ σ ((μ 3))) β ω H := W8.eq hnew (by simp only [mV, zu, Int.reduceEq, reduceIte])
          refine lv_istore_n (pc := 77) (lv' := [(3, .int (iI (if (pjF σ f) = (pwS σ f t) then 0 else opS σ f 0))), (0, .ref (o 0)), (1, .int (iI f)), (2, .int (iI t))]) E.1 E.2 dX8_tag_77 rfl hl (by decide) rfl (fun ls hl => ?_)
          refine lv_aload_n (pc := 78) E.1 E.2 dX8_tag_78 rfl (lv_at hl 1 rfl) ?_
          refine g8_0 (pc := 79) E hts hin8 hown hK hM.1 (hts _ (List.mem_of_getElem? (i := 4) rfl)) dX8_tag_79 ?_
          refine z_bipush (pc := 82) E (by decide) dX8_tag_82 ?_
          refine lv_iload_n (pc := 84) E.1 E.2 dX8_tag_84 rfl (lv_at hl 2 rfl) ?_
          refine z_iadd (pc := 85) E dX8_tag_85 ?_
          refine lv_iload_n (pc := 86) E.1 E.2 dX8_tag_86 rfl (lv_at hl 3 rfl) ?_
          refine z_i2l (pc := 87) E ⟨by omega, by omega⟩ dX8_tag_87 ?_
          refine z_lastore (pc := 88) E hK hM.2.1 hS (Ax.at 1 (by decide)) ⟨by omega, by omega⟩ (by decide) dX8_tag_88 (fun H locs hnew hoth hS => ?_)
          have hM := W8.a1 hM hnew (fun a _ h => hoth a h)
          refine lv_aload_n (pc := 89) E.1 E.2 dX8_tag_89 rfl (lv_at hl 1 rfl) ?_
          refine z_wVv (pc := 90) (As := []) (rest := []) E hml hown hts (mX8_setsClocks lL G o (zu (zu μ 4 0) 3 (keM ((μ 3)))) (zu (paA σ f (pjF σ f) (pwS σ f t)) (109 + f) t) φ (keK κ σ ((μ 3))) β ω  ((hI.paAI f hpj hpw hU).tagS (by rw [paA_n hpj hpw (by omega)]; exact hf2) ht2)) (cwV 0 hts gX8_tag_X8_setsClocks rfl rfl rfl vdX8_setsClocks ⟨Nat.le_of_ble_eq_true rfl, Nat.le_of_ble_eq_true rfl⟩) (oB.recv hK hM.1 rfl) (W8.mu hM (by simp only [mV, zu, Int.reduceEq, reduceIte])) hK hS (fun _ h => h) rfl hl.1 rfl dX8_tag_90 hcs (Nat.le_of_ble_eq_true rfl) (fun H locs hnew hsz hoth hS => ?_)
          have hM : W8 G o [.ref (o 1), .ref (o 2), .ref (o 3), .int (iI (keM ((μ 3)))), .int (iI 0), .ref (o 4), .int (iI (μ 6)), .int (iI (μ 7)), .int (iI (μ 8)), .int (iI (μ 9)), .int (iI (μ 10)), .int (iI (μ 11)), .int (iI (μ 12)), .int (iI (μ 13)), .int (iI (μ 14)), .long (iL (μ 15)), .ref (o 5), .int (iI (μ 17))] (scA (zu (paA σ f (pjF σ f) (pwS σ f t)) (109 + f) t) 16) φ (keK κ σ ((μ 3))) β ω H := W8.eq hnew (by simp only [mV, zu, Int.reduceEq, reduceIte])
          refine lv_iload_n (pc := 93) E.1 E.2 dX8_tag_93 rfl (lv_at hl 0 rfl) ?_
          exact z_retWi E hr (congrArg iI (by have e0 : (kxTag σ f t) = 0 := (by unfold kxTag; (repeat' split) <;> first | rfl | omega | (exfalso; omega) | contradiction | grind); rw [e0]; refine Eq.trans ?_ (if_pos rfl).symm; rfl)) (by have e0 : (kxTag σ f t) = 0 := (by unfold kxTag; (repeat' split) <;> first | rfl | omega | (exfalso; omega) | contradiction | grind); rw [e0]; rw [if_pos rfl, if_pos rfl, if_pos rfl]; exact W8.mu hM (by simp only [mV, zu, Int.reduceEq, reduceIte])) hS hlocks dX8_tag_94
        · exact absurd h52 (by decide)
      · refine z_iconst (pc := 40) E dX8_tag_40 ?_
        refine lv_goto (pc := 41) (tgt := 45) E.1 E.2 dX8_tag_41 (by decide) ?_
        refine p8_4 (pc := 45) E hts hin8 hown hK hM.1 hS (Ax.at 0 (by decide)) (hts _ (List.mem_of_getElem? (i := 3) rfl)) dX8_tag_45 (fun H locs hnew hoth hS => ?_)
        have hM := W8.p hM hnew (fun a _ h => hoth a h)
        refine lv_aload_n (pc := 48) E.1 E.2 dX8_tag_48 rfl (lv_at hl 0 rfl) ?_
        refine g8_4 (pc := 49) E hts hin8 hown hK hM.1 (hts _ (List.mem_of_getElem? (i := 3) rfl)) dX8_tag_49 ?_
        refine z_if_le (pc := 52) (tgt := 57) E (by decide) dX8_tag_52 (by decide) (fun h52 => ?_) (fun h52 => ?_)
        · exact absurd h52 (by decide)
        · refine z_iconst (pc := 55) E dX8_tag_55 ?_
          exact z_retWi E hr (congrArg iI (by have e0 : (kxTag σ f t) = 3 := (by unfold kxTag; (repeat' split) <;> first | rfl | omega | (exfalso; omega) | contradiction | grind); rw [e0]; exact (if_neg (by decide)).symm)) (by have e0 : (kxTag σ f t) = 3 := (by unfold kxTag; (repeat' split) <;> first | rfl | omega | (exfalso; omega) | contradiction | grind); rw [e0]; rw [if_neg (by decide), if_neg (by decide), if_neg (by decide)]; exact W8.mu hM (by simp only [mV, zu, Int.reduceEq, reduceIte])) hS hlocks dX8_tag_56
    · refine z_iconst (pc := 27) E dX8_tag_27 ?_
      refine lv_goto (pc := 28) (tgt := 45) E.1 E.2 dX8_tag_28 (by decide) ?_
      refine p8_4 (pc := 45) E hts hin8 hown hK hM.1 hS (Ax.at 0 (by decide)) (hts _ (List.mem_of_getElem? (i := 3) rfl)) dX8_tag_45 (fun H locs hnew hoth hS => ?_)
      have hM := W8.p hM hnew (fun a _ h => hoth a h)
      refine lv_aload_n (pc := 48) E.1 E.2 dX8_tag_48 rfl (lv_at hl 0 rfl) ?_
      refine g8_4 (pc := 49) E hts hin8 hown hK hM.1 (hts _ (List.mem_of_getElem? (i := 3) rfl)) dX8_tag_49 ?_
      refine z_if_le (pc := 52) (tgt := 57) E (by decide) dX8_tag_52 (by decide) (fun h52 => ?_) (fun h52 => ?_)
      · exact absurd h52 (by decide)
      · refine z_iconst (pc := 55) E dX8_tag_55 ?_
        exact z_retWi E hr (congrArg iI (by have e0 : (kxTag σ f t) = 2 := (by unfold kxTag; (repeat' split) <;> first | rfl | omega | (exfalso; omega) | contradiction | grind); rw [e0]; exact (if_neg (by decide)).symm)) (by have e0 : (kxTag σ f t) = 2 := (by unfold kxTag; (repeat' split) <;> first | rfl | omega | (exfalso; omega) | contradiction | grind); rw [e0]; rw [if_neg (by decide), if_neg (by decide), if_neg (by decide)]; exact W8.mu hM (by simp only [mV, zu, Int.reduceEq, reduceIte])) hS hlocks dX8_tag_56
  · refine z_iconst (pc := 9) E dX8_tag_9 ?_
    refine lv_goto (pc := 10) (tgt := 45) E.1 E.2 dX8_tag_10 (by decide) ?_
    refine p8_4 (pc := 45) E hts hin8 hown hK hM.1 hS (Ax.at 0 (by decide)) (hts _ (List.mem_of_getElem? (i := 3) rfl)) dX8_tag_45 (fun H locs hnew hoth hS => ?_)
    have hM := W8.p hM hnew (fun a _ h => hoth a h)
    refine lv_aload_n (pc := 48) E.1 E.2 dX8_tag_48 rfl (lv_at hl 0 rfl) ?_
    refine g8_4 (pc := 49) E hts hin8 hown hK hM.1 (hts _ (List.mem_of_getElem? (i := 3) rfl)) dX8_tag_49 ?_
    refine z_if_le (pc := 52) (tgt := 57) E (by decide) dX8_tag_52 (by decide) (fun h52 => ?_) (fun h52 => ?_)
    · exact absurd h52 (by decide)
    · refine z_iconst (pc := 55) E dX8_tag_55 ?_
      exact z_retWi E hr (congrArg iI (by have e0 : (kxTag σ f t) = 1 := (by unfold kxTag; (repeat' split) <;> first | rfl | omega | (exfalso; omega) | contradiction | grind); rw [e0]; exact (if_neg (by decide)).symm)) (by have e0 : (kxTag σ f t) = 1 := (by unfold kxTag; (repeat' split) <;> first | rfl | omega | (exfalso; omega) | contradiction | grind); rw [e0]; rw [if_neg (by decide), if_neg (by decide), if_neg (by decide)]; exact W8.mu hM (by simp only [mV, zu, Int.reduceEq, reduceIte])) hS hlocks dX8_tag_56
set_option maxHeartbeats 1000000 in
set_option maxRecDepth 100000 in
theorem mX8_moveFolder (lL : Launch) (G : GG) (o : Nat → Nat) (μ σ φ κ β ω : Int → Int) (f : Int) (q : Int) (hI : In σ) (hf : -2147483648 ≤ f ∧ f < 2147483648) (hq : -2147483648 ≤ q ∧ q < 2147483648) (hk8 : 0 ≤ μ 3 ∧ μ 3 ≤ 8) (hU : Ub σ) : Met lL yX8_moveFolder wsX8_moveFolder ({ frames := 6, cells := 0, slots := 0, locals := 146 } : Room) (va_Pc [.ref (o 0), .int (iI f), .int (iI q)] (fun U => W8 G o (mV o μ) σ φ κ β ω U.heap ∧ KK G U)) (va_Qi (fun r (_ : Unit) => r = (iI (if (kxMove σ f q) = 0 then axMove σ f q else 0))) (fun _ tZ => W8 G o (mV o (zu (zu μ 4 (kxMove σ f q)) 3 (if (kxMove σ f q) = 0 then keM (μ 3) else μ 3))) (if (kxMove σ f q) = 0 then nxMove σ f q else σ) φ (if (kxMove σ f q) = 0 then keK κ σ (μ 3) else κ) β ω tZ.heap) (Ax o 6)) 0 0 (Ax o 6) := by
  refine z_met (P := (fun H : Heap => W8 G o (mV o μ) σ φ κ β ω H)) (by decide) rfl (Nat.le_of_ble_eq_true rfl) (fun pp ee ss mm below meth cC E hr hml hown hts hlocks hM hK ls hl => ?_)
  have hl : lv_has ls 4 [(0, .ref (o 0)), (1, .int (iI f)), (2, .int (iI q))] := hl
  have hcs : 0 ≤ (({ frames := 6, cells := 0, slots := 0, locals := 146 } : Room)).cells ∧ 0 ≤ (({ frames := 6, cells := 0, slots := 0, locals := 146 } : Room)).slots := ⟨Nat.zero_le _, Nat.zero_le _⟩
  have hS : va_S (Ax o 6) ss.heap ss.heap [] := va_S.rf
  have hin8 : ∀ w ∈ wsX80, w ∈ wsX8_moveFolder := fun w h => List.mem_cons_of_mem _ (List.mem_append_right _ (h))
  have hF := hI.F
  have hMm := hI.M
  have hGn := hI.Gn
  have hTi := hI.ti
  have hGr := hI.gr
  refine lv_aload_n (pc := 0) E.1 E.2 dX8_moveFolder_0 rfl (lv_at hl 0 rfl) ?_
  refine lv_aload_n (pc := 1) E.1 E.2 dX8_moveFolder_1 rfl (lv_at hl 0 rfl) ?_
  refine lv_iload_n (pc := 2) E.1 E.2 dX8_moveFolder_2 rfl (lv_at hl 1 rfl) ?_
  refine z_rVi (pc := 3) (As := [.int (iI f)]) (rest := [.ref (o 0)]) E hml hown hts (mX8_isFolder lL G o μ σ φ κ β ω f hI (by omega)) (cwV 1 hts gX8_moveFolder_X8_isFolder rfl rfl rfl vdX8_isFolder ⟨Nat.le_of_ble_eq_true rfl, Nat.le_of_ble_eq_true rfl⟩) (oB.recv hK hM.1 rfl) hM hK rfl hl.1 rfl dX8_moveFolder_3 hcs (Nat.le_of_ble_eq_true rfl) ?_
  refine z_ifb_eq (pc := 6) (tgt := 17) E dX8_moveFolder_6 (by decide) (fun h6 => ?_) (fun h6 => ?_)
  · refine z_iconst (pc := 17) E dX8_moveFolder_17 ?_
    refine lv_goto (pc := 18) (tgt := 35) E.1 E.2 dX8_moveFolder_18 (by decide) ?_
    refine p8_4 (pc := 35) E hts hin8 hown hK hM.1 hS (Ax.at 0 (by decide)) (hts _ (List.mem_of_getElem? (i := 1) rfl)) dX8_moveFolder_35 (fun H locs hnew hoth hS => ?_)
    have hM := W8.p hM hnew (fun a _ h => hoth a h)
    refine lv_aload_n (pc := 38) E.1 E.2 dX8_moveFolder_38 rfl (lv_at hl 0 rfl) ?_
    refine g8_4 (pc := 39) E hts hin8 hown hK hM.1 (hts _ (List.mem_of_getElem? (i := 1) rfl)) dX8_moveFolder_39 ?_
    refine z_if_le (pc := 42) (tgt := 47) E (by decide) dX8_moveFolder_42 (by decide) (fun h42 => ?_) (fun h42 => ?_)
    · exact absurd h42 (by decide)
    · refine z_iconst (pc := 45) E dX8_moveFolder_45 ?_
      exact z_retWi E hr (congrArg iI (by have e0 : (kxMove σ f q) = 1 := (by unfold kxMove; (repeat' split) <;> first | rfl | omega | (exfalso; omega) | contradiction | grind); rw [e0]; exact (if_neg (by decide)).symm)) (by have e0 : (kxMove σ f q) = 1 := (by unfold kxMove; (repeat' split) <;> first | rfl | omega | (exfalso; omega) | contradiction | grind); rw [e0]; rw [if_neg (by decide), if_neg (by decide), if_neg (by decide)]; exact W8.mu hM (by simp only [mV, zu, Int.reduceEq, reduceIte])) hS hlocks dX8_moveFolder_46
  · refine lv_aload_n (pc := 9) E.1 E.2 dX8_moveFolder_9 rfl (lv_at hl 0 rfl) ?_
    refine lv_iload_n (pc := 10) E.1 E.2 dX8_moveFolder_10 rfl (lv_at hl 2 rfl) ?_
    refine z_rVi (pc := 11) (As := [.int (iI q)]) (rest := [.ref (o 0)]) E hml hown hts (mX8_isFolder lL G o μ σ φ κ β ω q hI (by omega)) (cwV 1 hts gX8_moveFolder_X8_isFolder rfl rfl rfl vdX8_isFolder ⟨Nat.le_of_ble_eq_true rfl, Nat.le_of_ble_eq_true rfl⟩) (oB.recv hK hM.1 rfl) hM hK rfl hl.1 rfl dX8_moveFolder_11 hcs (Nat.le_of_ble_eq_true rfl) ?_
    refine z_ifb_ne (pc := 14) (tgt := 21) E dX8_moveFolder_14 (by decide) (fun h14 => ?_) (fun h14 => ?_)
    · refine lv_aload_n (pc := 21) E.1 E.2 dX8_moveFolder_21 rfl (lv_at hl 0 rfl) ?_
      refine lv_iload_n (pc := 22) E.1 E.2 dX8_moveFolder_22 rfl (lv_at hl 1 rfl) ?_
      refine lv_iload_n (pc := 23) E.1 E.2 dX8_moveFolder_23 rfl (lv_at hl 2 rfl) ?_
      refine z_rVi (pc := 24) (As := [.int (iI f), .int (iI q)]) (rest := [.ref (o 0)]) E hml hown hts (mX8_reasonToMove lL G o μ σ φ κ β ω f q hI (by omega) (by omega)) (cwV 2 hts gX8_moveFolder_X8_reasonToMove rfl rfl rfl vdX8_reasonToMove ⟨Nat.le_of_ble_eq_true rfl, Nat.le_of_ble_eq_true rfl⟩) (oB.recv hK hM.1 rfl) hM hK rfl hl.1 rfl dX8_moveFolder_24 hcs (Nat.le_of_ble_eq_true rfl) ?_
      have hrm := rmS_b σ f q
      refine z_if_le (pc := 27) (tgt := 34) E ⟨by omega, by omega⟩ dX8_moveFolder_27 (by decide) (fun h27 => ?_) (fun h27 => ?_)
      · refine z_iconst (pc := 34) E dX8_moveFolder_34 ?_
        refine p8_4 (pc := 35) E hts hin8 hown hK hM.1 hS (Ax.at 0 (by decide)) (hts _ (List.mem_of_getElem? (i := 1) rfl)) dX8_moveFolder_35 (fun H locs hnew hoth hS => ?_)
        have hM := W8.p hM hnew (fun a _ h => hoth a h)
        refine lv_aload_n (pc := 38) E.1 E.2 dX8_moveFolder_38 rfl (lv_at hl 0 rfl) ?_
        refine g8_4 (pc := 39) E hts hin8 hown hK hM.1 (hts _ (List.mem_of_getElem? (i := 1) rfl)) dX8_moveFolder_39 ?_
        refine z_if_le (pc := 42) (tgt := 47) E (by decide) dX8_moveFolder_42 (by decide) (fun h42 => ?_) (fun h42 => ?_)
        · have hf2 : 0 ≤ f ∧ f < σ 2 := by omega
          have hq2 : 0 ≤ q ∧ q < σ 2 := by omega
          have hmv := rmS_0 (show rmS σ f q = 0 by omega)
          refine lv_aload_n (pc := 47) E.1 E.2 dX8_moveFolder_47 rfl (lv_at hl 0 rfl) ?_
          refine z_wVv (pc := 48) (As := []) (rest := []) E hml hown hts (mX8_keeps lL G o (zu μ 4 0) σ φ κ β ω  (by simpa only [zu, Int.reduceEq, reduceIte] using hk8)) (cwV 0 hts gX8_moveFolder_X8_keeps rfl rfl rfl vdX8_keeps ⟨Nat.le_of_ble_eq_true rfl, Nat.le_of_ble_eq_true rfl⟩) (oB.recv hK hM.1 rfl) (W8.mu hM (by simp only [mV, zu, Int.reduceEq, reduceIte])) hK hS (fun _ h => h) rfl hl.1 rfl dX8_moveFolder_48 hcs (Nat.le_of_ble_eq_true rfl) (fun H locs hnew hsz hoth hS => ?_)
          have hM : W8 G o [.ref (o 1), .ref (o 2), .ref (o 3), .int (iI (keM ((μ 3)))), .int (iI 0), .ref (o 4), .int (iI (μ 6)), .int (iI (μ 7)), .int (iI (μ 8)), .int (iI (μ 9)), .int (iI (μ 10)), .int (iI (μ 11)), .int (iI (μ 12)), .int (iI (μ 13)), .int (iI (μ 14)), .long (iL (μ 15)), .ref (o 5), .int (iI (μ 17))] σ φ (keK κ σ ((μ 3))) β ω H := W8.eq hnew (by simp only [mV, zu, Int.reduceEq, reduceIte])
          refine lv_aload_n (pc := 51) E.1 E.2 dX8_moveFolder_51 rfl (lv_at hl 0 rfl) ?_
          refine lv_iload_n (pc := 52) E.1 E.2 dX8_moveFolder_52 rfl (lv_at hl 1 rfl) ?_
          refine lv_aload_n (pc := 53) E.1 E.2 dX8_moveFolder_53 rfl (lv_at hl 0 rfl) ?_
          refine lv_iload_n (pc := 54) E.1 E.2 dX8_moveFolder_54 rfl (lv_at hl 1 rfl) ?_
          refine z_rVi (pc := 55) (As := [.int (iI f)]) (rest := [.int (iI f), .ref (o 0)]) E hml hown hts (mX8_projectOf lL G o (zu (zu μ 4 0) 3 (keM ((μ 3)))) σ φ (keK κ σ ((μ 3))) β ω f hI (Or.inr hf2)) (cwV 1 hts gX8_moveFolder_X8_projectOf rfl rfl rfl vdX8_projectOf ⟨Nat.le_of_ble_eq_true rfl, Nat.le_of_ble_eq_true rfl⟩) (oB.recv hK hM.1 rfl) (W8.mu hM (by simp only [mV, zu, Int.reduceEq, reduceIte])) hK rfl hl.1 rfl dX8_moveFolder_55 hcs (Nat.le_of_ble_eq_true rfl) ?_
          have hpj := hI.pjr (f := f) (Or.inr hf2)
          refine lv_aload_n (pc := 58) E.1 E.2 dX8_moveFolder_58 rfl (lv_at hl 0 rfl) ?_
          refine lv_iload_n (pc := 59) E.1 E.2 dX8_moveFolder_59 rfl (lv_at hl 1 rfl) ?_
          refine lv_iload_n (pc := 60) E.1 E.2 dX8_moveFolder_60 rfl (lv_at hl 2 rfl) ?_
          refine z_rVi (pc := 61) (As := [.int (iI f), .int (iI q)]) (rest := [.int (iI (pjF σ f)), .int (iI f), .ref (o 0)]) E hml hown hts (mX8_projectUnder lL G o (zu (zu μ 4 0) 3 (keM ((μ 3)))) σ φ (keK κ σ ((μ 3))) β ω f q hI (by omega) (by omega)) (cwV 2 hts gX8_moveFolder_X8_projectUnder rfl rfl rfl vdX8_projectUnder ⟨Nat.le_of_ble_eq_true rfl, Nat.le_of_ble_eq_true rfl⟩) (oB.recv hK hM.1 rfl) (W8.mu hM (by simp only [mV, zu, Int.reduceEq, reduceIte])) hK rfl hl.1 rfl dX8_moveFolder_61 hcs (Nat.le_of_ble_eq_true rfl) ?_
          have hpw := hI.pub hf2 hq2
          refine z_wVi (pc := 64) (As := [.int (iI f), .int (iI (pjF σ f)), .int (iI (puS σ f q))]) (rest := []) E hml hown hts (mX8_passes lL G o (zu (zu μ 4 0) 3 (keM ((μ 3)))) σ φ (keK κ σ ((μ 3))) β ω f (pjF σ f) (puS σ f q) hI (by omega) (by omega) (by omega)) (cwV 3 hts gX8_moveFolder_X8_passes rfl rfl rfl vdX8_passes ⟨Nat.le_of_ble_eq_true rfl, Nat.le_of_ble_eq_true rfl⟩) (oB.recv hK hM.1 rfl) (W8.mu hM (by simp only [mV, zu, Int.reduceEq, reduceIte])) hK hS (fun _ h => h) rfl hl.1 rfl dX8_moveFolder_64 hcs (Nat.le_of_ble_eq_true rfl) (fun H locs hnew hsz hoth hS => ?_)
          have hM : W8 G o [.ref (o 1), .ref (o 2), .ref (o 3), .int (iI (keM ((μ 3)))), .int (iI 0), .ref (o 4), .int (iI (μ 6)), .int (iI (μ 7)), .int (iI (μ 8)), .int (iI (μ 9)), .int (iI (μ 10)), .int (iI (μ 11)), .int (iI (μ 12)), .int (iI (μ 13)), .int (iI (μ 14)), .long (iL (μ 15)), .ref (o 5), .int (iI (μ 17))] (paA σ f (pjF σ f) (puS σ f q)) φ (keK κ σ ((μ 3))) β ω H := W8.eq hnew (by simp only [mV, zu, Int.reduceEq, reduceIte])
          refine lv_istore_n (pc := 67) (lv' := [(3, .int (iI (if (pjF σ f) = (puS σ f q) then 0 else opS σ f 0))), (0, .ref (o 0)), (1, .int (iI f)), (2, .int (iI q))]) E.1 E.2 dX8_moveFolder_67 rfl hl (by decide) rfl (fun ls hl => ?_)
          refine lv_aload_n (pc := 68) E.1 E.2 dX8_moveFolder_68 rfl (lv_at hl 1 rfl) ?_
          refine g8_0 (pc := 69) E hts hin8 hown hK hM.1 (hts _ (List.mem_of_getElem? (i := 2) rfl)) dX8_moveFolder_69 ?_
          refine z_bipush (pc := 72) E (by decide) dX8_moveFolder_72 ?_
          refine lv_iload_n (pc := 74) E.1 E.2 dX8_moveFolder_74 rfl (lv_at hl 2 rfl) ?_
          refine z_iadd (pc := 75) E dX8_moveFolder_75 ?_
          refine lv_iload_n (pc := 76) E.1 E.2 dX8_moveFolder_76 rfl (lv_at hl 3 rfl) ?_
          refine z_i2l (pc := 77) E ⟨by omega, by omega⟩ dX8_moveFolder_77 ?_
          refine z_lastore (pc := 78) E hK hM.2.1 hS (Ax.at 1 (by decide)) ⟨by omega, by omega⟩ (by decide) dX8_moveFolder_78 (fun H locs hnew hoth hS => ?_)
          have hM := W8.a1 hM hnew (fun a _ h => hoth a h)
          refine lv_aload_n (pc := 79) E.1 E.2 dX8_moveFolder_79 rfl (lv_at hl 1 rfl) ?_
          refine z_wVv (pc := 80) (As := []) (rest := []) E hml hown hts (mX8_setsClocks lL G o (zu (zu μ 4 0) 3 (keM ((μ 3)))) (zu (paA σ f (pjF σ f) (puS σ f q)) (69 + f) q) φ (keK κ σ ((μ 3))) β ω  ((hI.paAI f hpj hpw hU).parS (by rw [paA_n hpj hpw (by omega)]; omega) (by rw [paA_n hpj hpw (by omega)]; exact hq2) (by rw [blF_pa hI hpj hpw hq2]; exact hmv.2))) (cwV 0 hts gX8_moveFolder_X8_setsClocks rfl rfl rfl vdX8_setsClocks ⟨Nat.le_of_ble_eq_true rfl, Nat.le_of_ble_eq_true rfl⟩) (oB.recv hK hM.1 rfl) (W8.mu hM (by simp only [mV, zu, Int.reduceEq, reduceIte])) hK hS (fun _ h => h) rfl hl.1 rfl dX8_moveFolder_80 hcs (Nat.le_of_ble_eq_true rfl) (fun H locs hnew hsz hoth hS => ?_)
          have hM : W8 G o [.ref (o 1), .ref (o 2), .ref (o 3), .int (iI (keM ((μ 3)))), .int (iI 0), .ref (o 4), .int (iI (μ 6)), .int (iI (μ 7)), .int (iI (μ 8)), .int (iI (μ 9)), .int (iI (μ 10)), .int (iI (μ 11)), .int (iI (μ 12)), .int (iI (μ 13)), .int (iI (μ 14)), .long (iL (μ 15)), .ref (o 5), .int (iI (μ 17))] (scA (zu (paA σ f (pjF σ f) (puS σ f q)) (69 + f) q) 16) φ (keK κ σ ((μ 3))) β ω H := W8.eq hnew (by simp only [mV, zu, Int.reduceEq, reduceIte])
          refine lv_iload_n (pc := 83) E.1 E.2 dX8_moveFolder_83 rfl (lv_at hl 0 rfl) ?_
          exact z_retWi E hr (congrArg iI (by have e0 : (kxMove σ f q) = 0 := (by unfold kxMove; (repeat' split) <;> first | rfl | omega | (exfalso; omega) | contradiction | grind); rw [e0]; refine Eq.trans ?_ (if_pos rfl).symm; rfl)) (by have e0 : (kxMove σ f q) = 0 := (by unfold kxMove; (repeat' split) <;> first | rfl | omega | (exfalso; omega) | contradiction | grind); rw [e0]; rw [if_pos rfl, if_pos rfl, if_pos rfl]; exact W8.mu hM (by simp only [mV, zu, Int.reduceEq, reduceIte])) hS hlocks dX8_moveFolder_84
        · exact absurd h42 (by decide)
      · refine z_iconst (pc := 30) E dX8_moveFolder_30 ?_
        refine lv_goto (pc := 31) (tgt := 35) E.1 E.2 dX8_moveFolder_31 (by decide) ?_
        refine p8_4 (pc := 35) E hts hin8 hown hK hM.1 hS (Ax.at 0 (by decide)) (hts _ (List.mem_of_getElem? (i := 1) rfl)) dX8_moveFolder_35 (fun H locs hnew hoth hS => ?_)
        have hM := W8.p hM hnew (fun a _ h => hoth a h)
        refine lv_aload_n (pc := 38) E.1 E.2 dX8_moveFolder_38 rfl (lv_at hl 0 rfl) ?_
        refine g8_4 (pc := 39) E hts hin8 hown hK hM.1 (hts _ (List.mem_of_getElem? (i := 1) rfl)) dX8_moveFolder_39 ?_
        refine z_if_le (pc := 42) (tgt := 47) E (by decide) dX8_moveFolder_42 (by decide) (fun h42 => ?_) (fun h42 => ?_)
        · exact absurd h42 (by decide)
        · refine z_iconst (pc := 45) E dX8_moveFolder_45 ?_
          exact z_retWi E hr (congrArg iI (by have e0 : (kxMove σ f q) = 2 := (by unfold kxMove; (repeat' split) <;> first | rfl | omega | (exfalso; omega) | contradiction | grind); rw [e0]; exact (if_neg (by decide)).symm)) (by have e0 : (kxMove σ f q) = 2 := (by unfold kxMove; (repeat' split) <;> first | rfl | omega | (exfalso; omega) | contradiction | grind); rw [e0]; rw [if_neg (by decide), if_neg (by decide), if_neg (by decide)]; exact W8.mu hM (by simp only [mV, zu, Int.reduceEq, reduceIte])) hS hlocks dX8_moveFolder_46
    · refine z_iconst (pc := 17) E dX8_moveFolder_17 ?_
      refine lv_goto (pc := 18) (tgt := 35) E.1 E.2 dX8_moveFolder_18 (by decide) ?_
      refine p8_4 (pc := 35) E hts hin8 hown hK hM.1 hS (Ax.at 0 (by decide)) (hts _ (List.mem_of_getElem? (i := 1) rfl)) dX8_moveFolder_35 (fun H locs hnew hoth hS => ?_)
      have hM := W8.p hM hnew (fun a _ h => hoth a h)
      refine lv_aload_n (pc := 38) E.1 E.2 dX8_moveFolder_38 rfl (lv_at hl 0 rfl) ?_
      refine g8_4 (pc := 39) E hts hin8 hown hK hM.1 (hts _ (List.mem_of_getElem? (i := 1) rfl)) dX8_moveFolder_39 ?_
      refine z_if_le (pc := 42) (tgt := 47) E (by decide) dX8_moveFolder_42 (by decide) (fun h42 => ?_) (fun h42 => ?_)
      · exact absurd h42 (by decide)
      · refine z_iconst (pc := 45) E dX8_moveFolder_45 ?_
        exact z_retWi E hr (congrArg iI (by have e0 : (kxMove σ f q) = 1 := (by unfold kxMove; (repeat' split) <;> first | rfl | omega | (exfalso; omega) | contradiction | grind); rw [e0]; exact (if_neg (by decide)).symm)) (by have e0 : (kxMove σ f q) = 1 := (by unfold kxMove; (repeat' split) <;> first | rfl | omega | (exfalso; omega) | contradiction | grind); rw [e0]; rw [if_neg (by decide), if_neg (by decide), if_neg (by decide)]; exact W8.mu hM (by simp only [mV, zu, Int.reduceEq, reduceIte])) hS hlocks dX8_moveFolder_46
set_option maxHeartbeats 1000000 in
set_option maxRecDepth 100000 in
theorem mX8_write (lL : Launch) (G : GG) (o : Nat → Nat) (μ σ φ κ β ω : Int → Int) (f : Int) (b : Int) (hI : In σ) (hf : -2147483648 ≤ f ∧ f < 2147483648) (hb : -2147483648 ≤ b ∧ b < 2147483648) (hk8 : 0 ≤ μ 3 ∧ μ 3 ≤ 8) (hU : Ub σ) : Met lL yX8_write wsX8_write ({ frames := 4, cells := 0, slots := 0, locals := 101 } : Room) (va_Pc [.ref (o 0), .int (iI f), .int (iI b)] (fun U => W8 G o (mV o μ) σ φ κ β ω U.heap ∧ KK G U)) (va_Qi (fun r (_ : Unit) => r = (iI (if (kxWrite σ f b) = 0 then σ 3 else 0))) (fun _ tZ => W8 G o (mV o (zu (zu μ 4 (kxWrite σ f b)) 3 (if (kxWrite σ f b) = 0 then keM (μ 3) else μ 3))) (if (kxWrite σ f b) = 0 then nxWrite σ f b else σ) φ (if (kxWrite σ f b) = 0 then keK κ σ (μ 3) else κ) β ω tZ.heap) (Ax o 6)) 0 0 (Ax o 6) := by
  refine z_met (P := (fun H : Heap => W8 G o (mV o μ) σ φ κ β ω H)) (by decide) rfl (Nat.le_of_ble_eq_true rfl) (fun pp ee ss mm below meth cC E hr hml hown hts hlocks hM hK ls hl => ?_)
  have hl : lv_has ls 4 [(0, .ref (o 0)), (1, .int (iI f)), (2, .int (iI b))] := hl
  have hcs : 0 ≤ (({ frames := 4, cells := 0, slots := 0, locals := 101 } : Room)).cells ∧ 0 ≤ (({ frames := 4, cells := 0, slots := 0, locals := 101 } : Room)).slots := ⟨Nat.zero_le _, Nat.zero_le _⟩
  have hS : va_S (Ax o 6) ss.heap ss.heap [] := va_S.rf
  have hin8 : ∀ w ∈ wsX80, w ∈ wsX8_write := fun w h => List.mem_cons_of_mem _ (List.mem_append_right _ (h))
  have hF := hI.F
  have hMm := hI.M
  have hGn := hI.Gn
  have hTi := hI.ti
  have hGr := hI.gr
  refine lv_aload_n (pc := 0) E.1 E.2 dX8_write_0 rfl (lv_at hl 0 rfl) ?_
  refine lv_iload_n (pc := 1) E.1 E.2 dX8_write_1 rfl (lv_at hl 1 rfl) ?_
  refine z_rVi (pc := 2) (As := [.int (iI f)]) (rest := []) E hml hown hts (mX8_isFolder lL G o μ σ φ κ β ω f hI (by omega)) (cwV 1 hts gX8_write_X8_isFolder rfl rfl rfl vdX8_isFolder ⟨Nat.le_of_ble_eq_true rfl, Nat.le_of_ble_eq_true rfl⟩) (oB.recv hK hM.1 rfl) hM hK rfl hl.1 rfl dX8_write_2 hcs (Nat.le_of_ble_eq_true rfl) ?_
  refine z_ifb_eq (pc := 5) (tgt := 24) E dX8_write_5 (by decide) (fun h5 => ?_) (fun h5 => ?_)
  · refine z_iconst (pc := 24) E dX8_write_24 ?_
    refine lv_istore_n (pc := 25) (lv' := [(3, .int (iI 0)), (0, .ref (o 0)), (1, .int (iI f)), (2, .int (iI b))]) E.1 E.2 dX8_write_25 rfl hl (by decide) rfl (fun ls hl => ?_)
    refine lv_aload_n (pc := 26) E.1 E.2 dX8_write_26 rfl (lv_at hl 1 rfl) ?_
    refine lv_aload_n (pc := 27) E.1 E.2 dX8_write_27 rfl (lv_at hl 1 rfl) ?_
    refine lv_iload_n (pc := 28) E.1 E.2 dX8_write_28 rfl (lv_at hl 2 rfl) ?_
    refine z_rVi (pc := 29) (As := [.int (iI f)]) (rest := [.ref (o 0)]) E hml hown hts (mX8_isFolder lL G o μ σ φ κ β ω f hI (by omega)) (cwV 1 hts gX8_write_X8_isFolder rfl rfl rfl vdX8_isFolder ⟨Nat.le_of_ble_eq_true rfl, Nat.le_of_ble_eq_true rfl⟩) (oB.recv hK hM.1 rfl) hM hK rfl hl.1 rfl dX8_write_29 hcs (Nat.le_of_ble_eq_true rfl) ?_
    refine z_ifb_ne (pc := 32) (tgt := 39) E dX8_write_32 (by decide) (fun h32 => ?_) (fun h32 => ?_)
    · exact absurd h32 (by first | omega | exact h5 | exact fun q => h5 q)
    · refine z_iconst (pc := 35) E dX8_write_35 ?_
      refine lv_goto (pc := 36) (tgt := 80) E.1 E.2 dX8_write_36 (by decide) ?_
      refine p8_4 (pc := 80) E hts hin8 hown hK hM.1 hS (Ax.at 0 (by decide)) (hts _ (List.mem_of_getElem? (i := 4) rfl)) dX8_write_80 (fun H locs hnew hoth hS => ?_)
      have hM := W8.p hM hnew (fun a _ h => hoth a h)
      refine lv_aload_n (pc := 83) E.1 E.2 dX8_write_83 rfl (lv_at hl 1 rfl) ?_
      refine g8_4 (pc := 84) E hts hin8 hown hK hM.1 (hts _ (List.mem_of_getElem? (i := 4) rfl)) dX8_write_84 ?_
      refine z_if_le (pc := 87) (tgt := 92) E (by decide) dX8_write_87 (by decide) (fun h87 => ?_) (fun h87 => ?_)
      · exact absurd h87 (by decide)
      · refine z_iconst (pc := 90) E dX8_write_90 ?_
        exact z_retWi E hr (congrArg iI (by have e0 : (kxWrite σ f b) = 1 := (by unfold kxWrite; (repeat' split) <;> first | rfl | omega | (exfalso; omega) | contradiction | grind); rw [e0]; exact (if_neg (by decide)).symm)) (by have e0 : (kxWrite σ f b) = 1 := (by unfold kxWrite; (repeat' split) <;> first | rfl | omega | (exfalso; omega) | contradiction | grind); rw [e0]; rw [if_neg (by decide), if_neg (by decide), if_neg (by decide)]; exact W8.mu hM (by simp only [mV, zu, Int.reduceEq, reduceIte])) hS hlocks dX8_write_91
  · refine lv_iload_n (pc := 8) E.1 E.2 dX8_write_8 rfl (lv_at hl 2 rfl) ?_
    refine z_i2l (pc := 9) E ⟨by omega, by omega⟩ dX8_write_9 ?_
    refine z_lconst (pc := 10) (v := 0) E (by decide) dX8_write_10 ?_
    refine lv_ldc2 (pc := 11) (v := iL (9999)) E.1 E.2 hown (show (Jvm.Cond.constantLong RX8 315 (iL (9999))).before _ ss = true from (hts _ (List.mem_of_getElem? (i := 1) rfl))) dX8_write_11 ?_
    refine z_rSi (pc := 14) (P := fun _ => True) (As := [.long (iL b), .long (iL 0), .long (iL 9999)]) (rest := []) E hml hown hts (mX8_isIn lL G b 0 9999 ⟨by omega, by omega⟩ ⟨by omega, by omega⟩ ⟨by omega, by omega⟩) (va_cwS 3 hts gX8_write_X8_isIn rfl rfl rfl vdX8_isIn.2 ⟨Nat.le_of_ble_eq_true rfl, Nat.le_of_ble_eq_true rfl⟩) trivial hK rfl hl.1 rfl dX8_write_14 hcs (Nat.le_of_ble_eq_true rfl) ?_
    refine z_ifb_eq (pc := 17) (tgt := 24) E dX8_write_17 (by decide) (fun h17 => ?_) (fun h17 => ?_)
    · refine z_iconst (pc := 24) E dX8_write_24 ?_
      refine lv_istore_n (pc := 25) (lv' := [(3, .int (iI 0)), (0, .ref (o 0)), (1, .int (iI f)), (2, .int (iI b))]) E.1 E.2 dX8_write_25 rfl hl (by decide) rfl (fun ls hl => ?_)
      refine lv_aload_n (pc := 26) E.1 E.2 dX8_write_26 rfl (lv_at hl 1 rfl) ?_
      refine lv_aload_n (pc := 27) E.1 E.2 dX8_write_27 rfl (lv_at hl 1 rfl) ?_
      refine lv_iload_n (pc := 28) E.1 E.2 dX8_write_28 rfl (lv_at hl 2 rfl) ?_
      refine z_rVi (pc := 29) (As := [.int (iI f)]) (rest := [.ref (o 0)]) E hml hown hts (mX8_isFolder lL G o μ σ φ κ β ω f hI (by omega)) (cwV 1 hts gX8_write_X8_isFolder rfl rfl rfl vdX8_isFolder ⟨Nat.le_of_ble_eq_true rfl, Nat.le_of_ble_eq_true rfl⟩) (oB.recv hK hM.1 rfl) hM hK rfl hl.1 rfl dX8_write_29 hcs (Nat.le_of_ble_eq_true rfl) ?_
      refine z_ifb_ne (pc := 32) (tgt := 39) E dX8_write_32 (by decide) (fun h32 => ?_) (fun h32 => ?_)
      · refine lv_iload_n (pc := 39) E.1 E.2 dX8_write_39 rfl (lv_at hl 0 rfl) ?_
        refine z_if_ne (pc := 40) (tgt := 47) E (by decide) dX8_write_40 (by decide) (fun h40 => ?_) (fun h40 => ?_)
        · exact absurd h40 (by decide)
        · refine z_iconst (pc := 43) E dX8_write_43 ?_
          refine lv_goto (pc := 44) (tgt := 80) E.1 E.2 dX8_write_44 (by decide) ?_
          refine p8_4 (pc := 80) E hts hin8 hown hK hM.1 hS (Ax.at 0 (by decide)) (hts _ (List.mem_of_getElem? (i := 4) rfl)) dX8_write_80 (fun H locs hnew hoth hS => ?_)
          have hM := W8.p hM hnew (fun a _ h => hoth a h)
          refine lv_aload_n (pc := 83) E.1 E.2 dX8_write_83 rfl (lv_at hl 1 rfl) ?_
          refine g8_4 (pc := 84) E hts hin8 hown hK hM.1 (hts _ (List.mem_of_getElem? (i := 4) rfl)) dX8_write_84 ?_
          refine z_if_le (pc := 87) (tgt := 92) E (by decide) dX8_write_87 (by decide) (fun h87 => ?_) (fun h87 => ?_)
          · exact absurd h87 (by decide)
          · refine z_iconst (pc := 90) E dX8_write_90 ?_
            exact z_retWi E hr (congrArg iI (by have e0 : (kxWrite σ f b) = 2 := (by unfold kxWrite; (repeat' split) <;> first | rfl | omega | (exfalso; omega) | contradiction | grind); rw [e0]; exact (if_neg (by decide)).symm)) (by have e0 : (kxWrite σ f b) = 2 := (by unfold kxWrite; (repeat' split) <;> first | rfl | omega | (exfalso; omega) | contradiction | grind); rw [e0]; rw [if_neg (by decide), if_neg (by decide), if_neg (by decide)]; exact W8.mu hM (by simp only [mV, zu, Int.reduceEq, reduceIte])) hS hlocks dX8_write_91
      · exact absurd h32 (by first | omega | exact h5 | exact fun q => h5 q)
    · refine z_iconst (pc := 20) E dX8_write_20 ?_
      refine lv_goto (pc := 21) (tgt := 25) E.1 E.2 dX8_write_21 (by decide) ?_
      refine lv_istore_n (pc := 25) (lv' := [(3, .int (iI 1)), (0, .ref (o 0)), (1, .int (iI f)), (2, .int (iI b))]) E.1 E.2 dX8_write_25 rfl hl (by decide) rfl (fun ls hl => ?_)
      refine lv_aload_n (pc := 26) E.1 E.2 dX8_write_26 rfl (lv_at hl 1 rfl) ?_
      refine lv_aload_n (pc := 27) E.1 E.2 dX8_write_27 rfl (lv_at hl 1 rfl) ?_
      refine lv_iload_n (pc := 28) E.1 E.2 dX8_write_28 rfl (lv_at hl 2 rfl) ?_
      refine z_rVi (pc := 29) (As := [.int (iI f)]) (rest := [.ref (o 0)]) E hml hown hts (mX8_isFolder lL G o μ σ φ κ β ω f hI (by omega)) (cwV 1 hts gX8_write_X8_isFolder rfl rfl rfl vdX8_isFolder ⟨Nat.le_of_ble_eq_true rfl, Nat.le_of_ble_eq_true rfl⟩) (oB.recv hK hM.1 rfl) hM hK rfl hl.1 rfl dX8_write_29 hcs (Nat.le_of_ble_eq_true rfl) ?_
      refine z_ifb_ne (pc := 32) (tgt := 39) E dX8_write_32 (by decide) (fun h32 => ?_) (fun h32 => ?_)
      · refine lv_iload_n (pc := 39) E.1 E.2 dX8_write_39 rfl (lv_at hl 0 rfl) ?_
        refine z_if_ne (pc := 40) (tgt := 47) E (by decide) dX8_write_40 (by decide) (fun h40 => ?_) (fun h40 => ?_)
        · refine lv_aload_n (pc := 47) E.1 E.2 dX8_write_47 rfl (lv_at hl 1 rfl) ?_
          refine g8_0 (pc := 48) E hts hin8 hown hK hM.1 (hts _ (List.mem_of_getElem? (i := 2) rfl)) dX8_write_48 ?_
          refine z_iconst (pc := 51) E dX8_write_51 ?_
          refine z_laload (pc := 52) E hK hM.2.1 ⟨by omega, by omega⟩ (by decide) dX8_write_52 ?_
          have hb52 := hI.bd 3
          refine lv_ldc2 (pc := 53) (v := iL (60)) E.1 E.2 hown (show (Jvm.Cond.constantLong RX8 144 (iL (60))).before _ ss = true from (hts _ (List.mem_of_getElem? (i := 3) rfl))) dX8_write_53 ?_
          refine z_lcmp_eq (pc := 56) (tgt := 75) E ⟨by omega, by omega⟩ (by decide) dX8_write_56 dX8_write_57 (by decide) (fun h56 => ?_) (fun h56 => ?_)
          · refine z_iconst (pc := 75) E dX8_write_75 ?_
            refine lv_goto (pc := 76) (tgt := 80) E.1 E.2 dX8_write_76 (by decide) ?_
            refine p8_4 (pc := 80) E hts hin8 hown hK hM.1 hS (Ax.at 0 (by decide)) (hts _ (List.mem_of_getElem? (i := 4) rfl)) dX8_write_80 (fun H locs hnew hoth hS => ?_)
            have hM := W8.p hM hnew (fun a _ h => hoth a h)
            refine lv_aload_n (pc := 83) E.1 E.2 dX8_write_83 rfl (lv_at hl 1 rfl) ?_
            refine g8_4 (pc := 84) E hts hin8 hown hK hM.1 (hts _ (List.mem_of_getElem? (i := 4) rfl)) dX8_write_84 ?_
            refine z_if_le (pc := 87) (tgt := 92) E (by decide) dX8_write_87 (by decide) (fun h87 => ?_) (fun h87 => ?_)
            · exact absurd h87 (by decide)
            · refine z_iconst (pc := 90) E dX8_write_90 ?_
              exact z_retWi E hr (congrArg iI (by have e0 : (kxWrite σ f b) = 3 := (by unfold kxWrite; (repeat' split) <;> first | rfl | omega | (exfalso; omega) | contradiction | grind); rw [e0]; exact (if_neg (by decide)).symm)) (by have e0 : (kxWrite σ f b) = 3 := (by unfold kxWrite; (repeat' split) <;> first | rfl | omega | (exfalso; omega) | contradiction | grind); rw [e0]; rw [if_neg (by decide), if_neg (by decide), if_neg (by decide)]; exact W8.mu hM (by simp only [mV, zu, Int.reduceEq, reduceIte])) hS hlocks dX8_write_91
          · refine lv_aload_n (pc := 60) E.1 E.2 dX8_write_60 rfl (lv_at hl 1 rfl) ?_
            refine lv_aload_n (pc := 61) E.1 E.2 dX8_write_61 rfl (lv_at hl 1 rfl) ?_
            refine lv_iload_n (pc := 62) E.1 E.2 dX8_write_62 rfl (lv_at hl 2 rfl) ?_
            refine z_rVi (pc := 63) (As := [.int (iI f)]) (rest := [.ref (o 0), .ref (o 0)]) E hml hown hts (mX8_projectOf lL G o μ σ φ κ β ω f hI (Or.inr (by omega))) (cwV 1 hts gX8_write_X8_projectOf rfl rfl rfl vdX8_projectOf ⟨Nat.le_of_ble_eq_true rfl, Nat.le_of_ble_eq_true rfl⟩) (oB.recv hK hM.1 rfl) hM hK rfl hl.1 rfl dX8_write_63 hcs (Nat.le_of_ble_eq_true rfl) ?_
            have hpj0 := hI.pjr (f := f) (Or.inr (by omega))
            refine lv_iload_n (pc := 66) E.1 E.2 dX8_write_66 rfl (lv_at hl 3 rfl) ?_
            refine z_i2l (pc := 67) E ⟨by omega, by omega⟩ dX8_write_67 ?_
            refine z_lconst (pc := 68) (v := 1) E (by decide) dX8_write_68 ?_
            refine z_rVi (pc := 69) (As := [.int (iI (pjF σ f)), .long (iL b), .long (iL 1)]) (rest := [.ref (o 0)]) E hml hown hts (mX8_reasonFor lL G o μ σ φ κ β ω (pjF σ f) b 1 hI (by omega) (by omega) (by omega)) (cwV 3 hts gX8_write_X8_reasonFor rfl rfl rfl vdX8_reasonFor ⟨Nat.le_of_ble_eq_true rfl, Nat.le_of_ble_eq_true rfl⟩) (oB.recv hK hM.1 rfl) hM hK rfl hl.1 rfl dX8_write_69 hcs (Nat.le_of_ble_eq_true rfl) ?_
            have hrs := rsS_b σ (pjF σ f) b 1
            refine z_if_le (pc := 72) (tgt := 79) E ⟨by omega, by omega⟩ dX8_write_72 (by decide) (fun h72 => ?_) (fun h72 => ?_)
            · refine z_iconst (pc := 79) E dX8_write_79 ?_
              refine p8_4 (pc := 80) E hts hin8 hown hK hM.1 hS (Ax.at 0 (by decide)) (hts _ (List.mem_of_getElem? (i := 4) rfl)) dX8_write_80 (fun H locs hnew hoth hS => ?_)
              have hM := W8.p hM hnew (fun a _ h => hoth a h)
              refine lv_aload_n (pc := 83) E.1 E.2 dX8_write_83 rfl (lv_at hl 1 rfl) ?_
              refine g8_4 (pc := 84) E hts hin8 hown hK hM.1 (hts _ (List.mem_of_getElem? (i := 4) rfl)) dX8_write_84 ?_
              refine z_if_le (pc := 87) (tgt := 92) E (by decide) dX8_write_87 (by decide) (fun h87 => ?_) (fun h87 => ?_)
              · have hf2 : 0 ≤ f ∧ f < σ 2 := by omega
                have hb2 : 0 ≤ b ∧ b ≤ 9999 := by omega
                have hpj := hI.pjr (f := f) (Or.inr hf2)
                refine lv_aload_n (pc := 92) E.1 E.2 dX8_write_92 rfl (lv_at hl 1 rfl) ?_
                refine z_wVv (pc := 93) (As := []) (rest := []) E hml hown hts (mX8_keeps lL G o (zu μ 4 0) σ φ κ β ω  (by simpa only [zu, Int.reduceEq, reduceIte] using hk8)) (cwV 0 hts gX8_write_X8_keeps rfl rfl rfl vdX8_keeps ⟨Nat.le_of_ble_eq_true rfl, Nat.le_of_ble_eq_true rfl⟩) (oB.recv hK hM.1 rfl) (W8.mu hM (by simp only [mV, zu, Int.reduceEq, reduceIte])) hK hS (fun _ h => h) rfl hl.1 rfl dX8_write_93 hcs (Nat.le_of_ble_eq_true rfl) (fun H locs hnew hsz hoth hS => ?_)
                have hM : W8 G o [.ref (o 1), .ref (o 2), .ref (o 3), .int (iI (keM ((μ 3)))), .int (iI 0), .ref (o 4), .int (iI (μ 6)), .int (iI (μ 7)), .int (iI (μ 8)), .int (iI (μ 9)), .int (iI (μ 10)), .int (iI (μ 11)), .int (iI (μ 12)), .int (iI (μ 13)), .int (iI (μ 14)), .long (iL (μ 15)), .ref (o 5), .int (iI (μ 17))] σ φ (keK κ σ ((μ 3))) β ω H := W8.eq hnew (by simp only [mV, zu, Int.reduceEq, reduceIte])
                refine lv_aload_n (pc := 96) E.1 E.2 dX8_write_96 rfl (lv_at hl 1 rfl) ?_
                refine g8_0 (pc := 97) E hts hin8 hown hK hM.1 (hts _ (List.mem_of_getElem? (i := 2) rfl)) dX8_write_97 ?_
                refine lv_iload_n (pc := 100) E.1 E.2 dX8_write_100 rfl (lv_at hl 2 rfl) ?_
                refine lv_iload_n (pc := 101) E.1 E.2 dX8_write_101 rfl (lv_at hl 3 rfl) ?_
                refine z_wSv (pc := 102) (As := [.ref (o 1), .int (iI f), .int (iI b)]) (rest := []) E hml hown hts (mX8_addsFile lL G (o 1) σ f b (by omega) (by omega) (by omega)) (va_cwS 3 hts gX8_write_X8_addsFile rfl rfl rfl vdX8_addsFile.2 ⟨Nat.le_of_ble_eq_true rfl, Nat.le_of_ble_eq_true rfl⟩) hM.2.1 hK hS (fun _ h => by rw [h]; exact Ax.at 1 (by decide)) rfl hl.1 rfl dX8_write_102 hcs (Nat.le_of_ble_eq_true rfl) (fun H locs hnew hsz hoth hS => ?_)
                have hM := W8.a1 hM hnew hoth
                have hI2 : In (afF σ f b) := hI.afFI (by omega) hf2 hb2
                have e22 : afF σ f b 2 = σ 2 := afF_n hI.M (by omega)
                refine lv_aload_n (pc := 105) E.1 E.2 dX8_write_105 rfl (lv_at hl 1 rfl) ?_
                refine lv_aload_n (pc := 106) E.1 E.2 dX8_write_106 rfl (lv_at hl 1 rfl) ?_
                refine lv_iload_n (pc := 107) E.1 E.2 dX8_write_107 rfl (lv_at hl 2 rfl) ?_
                refine z_rVi (pc := 108) (As := [.int (iI f)]) (rest := [.ref (o 0)]) E hml hown hts (mX8_projectOf lL G o (zu (zu μ 4 0) 3 (keM ((μ 3)))) (afF σ f b) φ (keK κ σ ((μ 3))) β ω f hI2 (Or.inr (by rw [e22]; exact hf2))) (cwV 1 hts gX8_write_X8_projectOf rfl rfl rfl vdX8_projectOf ⟨Nat.le_of_ble_eq_true rfl, Nat.le_of_ble_eq_true rfl⟩) (oB.recv hK hM.1 rfl) (W8.mu hM (by simp only [mV, zu, Int.reduceEq, reduceIte])) hK rfl hl.1 rfl dX8_write_108 hcs (Nat.le_of_ble_eq_true rfl) ?_
                rw [show (pjF (afF σ f b) f) = (pjF σ f) from (afF_pj hI f b (Or.inr hf2))]
                refine lv_iload_n (pc := 111) E.1 E.2 dX8_write_111 rfl (lv_at hl 3 rfl) ?_
                refine z_i2l (pc := 112) E ⟨by omega, by omega⟩ dX8_write_112 ?_
                refine z_lconst (pc := 113) (v := 1) E (by decide) dX8_write_113 ?_
                refine z_wVv (pc := 114) (As := [.int (iI (pjF σ f)), .long (iL b), .long (iL 1)]) (rest := []) E hml hown hts (mX8_counts lL G o (zu (zu μ 4 0) 3 (keM ((μ 3)))) (afF σ f b) φ (keK κ σ ((μ 3))) β ω (pjF σ f) b 1 hI2.bd (by omega) (by omega) (by omega)) (cwV 3 hts gX8_write_X8_counts rfl rfl rfl vdX8_counts ⟨Nat.le_of_ble_eq_true rfl, Nat.le_of_ble_eq_true rfl⟩) (oB.recv hK hM.1 rfl) (W8.mu hM (by simp only [mV, zu, Int.reduceEq, reduceIte])) hK hS (fun _ h => h) rfl hl.1 rfl dX8_write_114 hcs (Nat.le_of_ble_eq_true rfl) (fun H locs hnew hsz hoth hS => ?_)
                have hM : W8 G o [.ref (o 1), .ref (o 2), .ref (o 3), .int (iI (keM ((μ 3)))), .int (iI 0), .ref (o 4), .int (iI (μ 6)), .int (iI (μ 7)), .int (iI (μ 8)), .int (iI (μ 9)), .int (iI (μ 10)), .int (iI (μ 11)), .int (iI (μ 12)), .int (iI (μ 13)), .int (iI (μ 14)), .long (iL (μ 15)), .ref (o 5), .int (iI (μ 17))] (coA (afF σ f b) (pjF σ f) b 1) φ (keK κ σ ((μ 3))) β ω H := W8.eq hnew (by simp only [mV, zu, Int.reduceEq, reduceIte])
                refine lv_aload_n (pc := 117) E.1 E.2 dX8_write_117 rfl (lv_at hl 1 rfl) ?_
                refine z_wVv (pc := 118) (As := []) (rest := []) E hml hown hts (mX8_setsClocks lL G o (zu (zu μ 4 0) 3 (keM ((μ 3)))) (coA (afF σ f b) (pjF σ f) b 1) φ (keK κ σ ((μ 3))) β ω  (hI2.coAI hpj (by omega) (by omega) (fun k k0 k1 => by rw [afF_n hI.M (by omega)]; exact hU k k0 k1))) (cwV 0 hts gX8_write_X8_setsClocks rfl rfl rfl vdX8_setsClocks ⟨Nat.le_of_ble_eq_true rfl, Nat.le_of_ble_eq_true rfl⟩) (oB.recv hK hM.1 rfl) (W8.mu hM (by simp only [mV, zu, Int.reduceEq, reduceIte])) hK hS (fun _ h => h) rfl hl.1 rfl dX8_write_118 hcs (Nat.le_of_ble_eq_true rfl) (fun H locs hnew hsz hoth hS => ?_)
                have hM : W8 G o [.ref (o 1), .ref (o 2), .ref (o 3), .int (iI (keM ((μ 3)))), .int (iI 0), .ref (o 4), .int (iI (μ 6)), .int (iI (μ 7)), .int (iI (μ 8)), .int (iI (μ 9)), .int (iI (μ 10)), .int (iI (μ 11)), .int (iI (μ 12)), .int (iI (μ 13)), .int (iI (μ 14)), .long (iL (μ 15)), .ref (o 5), .int (iI (μ 17))] (scA (coA (afF σ f b) (pjF σ f) b 1) 16) φ (keK κ σ ((μ 3))) β ω H := W8.eq hnew (by simp only [mV, zu, Int.reduceEq, reduceIte])
                refine lv_aload_n (pc := 121) E.1 E.2 dX8_write_121 rfl (lv_at hl 1 rfl) ?_
                refine g8_0 (pc := 122) E hts hin8 hown hK hM.1 (hts _ (List.mem_of_getElem? (i := 2) rfl)) dX8_write_122 ?_
                refine z_iconst (pc := 125) E dX8_write_125 ?_
                refine z_laload (pc := 126) E hK hM.2.1 ⟨by omega, by omega⟩ (by decide) dX8_write_126 ?_
                rw [show ((scA (coA (afF σ f b) (pjF σ f) b 1) 16) 3) = (σ 3 + 1) from (by rw [scA_n _ _ (by omega), coA_n hpj (by omega)]; exact zu_s _ _ _)]
                refine z_l2i (pc := 127) E dX8_write_127 ?_
                refine z_iconst (pc := 128) E dX8_write_128 ?_
                refine z_isub (pc := 129) E dX8_write_129 ?_
                exact z_retWi E hr (congrArg iI (by have e0 : (kxWrite σ f b) = 0 := (by unfold kxWrite; (repeat' split) <;> first | rfl | omega | (exfalso; omega) | contradiction | grind); rw [e0]; refine Eq.trans ?_ (if_pos rfl).symm; omega)) (by have e0 : (kxWrite σ f b) = 0 := (by unfold kxWrite; (repeat' split) <;> first | rfl | omega | (exfalso; omega) | contradiction | grind); rw [e0]; rw [if_pos rfl, if_pos rfl, if_pos rfl]; exact W8.mu hM (by simp only [mV, zu, Int.reduceEq, reduceIte])) hS hlocks dX8_write_130
              · exact absurd h87 (by decide)
            · refine z_iconst (pc := 75) E dX8_write_75 ?_
              refine lv_goto (pc := 76) (tgt := 80) E.1 E.2 dX8_write_76 (by decide) ?_
              refine p8_4 (pc := 80) E hts hin8 hown hK hM.1 hS (Ax.at 0 (by decide)) (hts _ (List.mem_of_getElem? (i := 4) rfl)) dX8_write_80 (fun H locs hnew hoth hS => ?_)
              have hM := W8.p hM hnew (fun a _ h => hoth a h)
              refine lv_aload_n (pc := 83) E.1 E.2 dX8_write_83 rfl (lv_at hl 1 rfl) ?_
              refine g8_4 (pc := 84) E hts hin8 hown hK hM.1 (hts _ (List.mem_of_getElem? (i := 4) rfl)) dX8_write_84 ?_
              refine z_if_le (pc := 87) (tgt := 92) E (by decide) dX8_write_87 (by decide) (fun h87 => ?_) (fun h87 => ?_)
              · exact absurd h87 (by decide)
              · refine z_iconst (pc := 90) E dX8_write_90 ?_
                exact z_retWi E hr (congrArg iI (by have e0 : (kxWrite σ f b) = 3 := (by unfold kxWrite; (repeat' split) <;> first | rfl | omega | (exfalso; omega) | contradiction | grind); rw [e0]; exact (if_neg (by decide)).symm)) (by have e0 : (kxWrite σ f b) = 3 := (by unfold kxWrite; (repeat' split) <;> first | rfl | omega | (exfalso; omega) | contradiction | grind); rw [e0]; rw [if_neg (by decide), if_neg (by decide), if_neg (by decide)]; exact W8.mu hM (by simp only [mV, zu, Int.reduceEq, reduceIte])) hS hlocks dX8_write_91
        · exact absurd h40 (by decide)
      · exact absurd h32 (by first | omega | exact h5 | exact fun q => h5 q)
set_option maxHeartbeats 1000000 in
set_option maxRecDepth 100000 in
theorem mX8_resize (lL : Launch) (G : GG) (o : Nat → Nat) (μ σ φ κ β ω : Int → Int) (k : Int) (b : Int) (hI : In σ) (hk : -2147483648 ≤ k ∧ k < 2147483648) (hb : -2147483648 ≤ b ∧ b < 2147483648) (hk8 : 0 ≤ μ 3 ∧ μ 3 ≤ 8) (hU : Ub σ) : Met lL yX8_resize wsX8_resize ({ frames := 4, cells := 0, slots := 0, locals := 101 } : Room) (va_Pc [.ref (o 0), .int (iI k), .int (iI b)] (fun U => W8 G o (mV o μ) σ φ κ β ω U.heap ∧ KK G U)) (va_Qi (fun r (_ : Unit) => r = (iI (if (kxResize σ k b) = 0 then σ (249 + k) else 0))) (fun _ tZ => W8 G o (mV o (zu (zu μ 4 (kxResize σ k b)) 3 (if (kxResize σ k b) = 0 then keM (μ 3) else μ 3))) (if (kxResize σ k b) = 0 then nxResize σ k b else σ) φ (if (kxResize σ k b) = 0 then keK κ σ (μ 3) else κ) β ω tZ.heap) (Ax o 6)) 0 0 (Ax o 6) := by
  refine z_met (P := (fun H : Heap => W8 G o (mV o μ) σ φ κ β ω H)) (by decide) rfl (Nat.le_of_ble_eq_true rfl) (fun pp ee ss mm below meth cC E hr hml hown hts hlocks hM hK ls hl => ?_)
  have hl : lv_has ls 5 [(0, .ref (o 0)), (1, .int (iI k)), (2, .int (iI b))] := hl
  have hcs : 0 ≤ (({ frames := 4, cells := 0, slots := 0, locals := 101 } : Room)).cells ∧ 0 ≤ (({ frames := 4, cells := 0, slots := 0, locals := 101 } : Room)).slots := ⟨Nat.zero_le _, Nat.zero_le _⟩
  have hS : va_S (Ax o 6) ss.heap ss.heap [] := va_S.rf
  have hin8 : ∀ w ∈ wsX80, w ∈ wsX8_resize := fun w h => List.mem_cons_of_mem _ (List.mem_append_right _ (h))
  have hF := hI.F
  have hMm := hI.M
  have hGn := hI.Gn
  have hTi := hI.ti
  have hGr := hI.gr
  refine lv_aload_n (pc := 0) E.1 E.2 dX8_resize_0 rfl (lv_at hl 0 rfl) ?_
  refine lv_iload_n (pc := 1) E.1 E.2 dX8_resize_1 rfl (lv_at hl 1 rfl) ?_
  refine z_rVi (pc := 2) (As := [.int (iI k)]) (rest := []) E hml hown hts (mX8_isFile lL G o μ σ φ κ β ω k hI (by omega)) (cwV 1 hts gX8_resize_X8_isFile rfl rfl rfl vdX8_isFile ⟨Nat.le_of_ble_eq_true rfl, Nat.le_of_ble_eq_true rfl⟩) (oB.recv hK hM.1 rfl) hM hK rfl hl.1 rfl dX8_resize_2 hcs (Nat.le_of_ble_eq_true rfl) ?_
  refine z_ifb_eq (pc := 5) (tgt := 24) E dX8_resize_5 (by decide) (fun h5 => ?_) (fun h5 => ?_)
  · refine z_iconst (pc := 24) E dX8_resize_24 ?_
    refine lv_istore_n (pc := 25) (lv' := [(3, .int (iI 0)), (0, .ref (o 0)), (1, .int (iI k)), (2, .int (iI b))]) E.1 E.2 dX8_resize_25 rfl hl (by decide) rfl (fun ls hl => ?_)
    refine lv_aload_n (pc := 26) E.1 E.2 dX8_resize_26 rfl (lv_at hl 1 rfl) ?_
    refine lv_aload_n (pc := 27) E.1 E.2 dX8_resize_27 rfl (lv_at hl 1 rfl) ?_
    refine lv_iload_n (pc := 28) E.1 E.2 dX8_resize_28 rfl (lv_at hl 2 rfl) ?_
    refine z_rVi (pc := 29) (As := [.int (iI k)]) (rest := [.ref (o 0)]) E hml hown hts (mX8_isFile lL G o μ σ φ κ β ω k hI (by omega)) (cwV 1 hts gX8_resize_X8_isFile rfl rfl rfl vdX8_isFile ⟨Nat.le_of_ble_eq_true rfl, Nat.le_of_ble_eq_true rfl⟩) (oB.recv hK hM.1 rfl) hM hK rfl hl.1 rfl dX8_resize_29 hcs (Nat.le_of_ble_eq_true rfl) ?_
    refine z_ifb_ne (pc := 32) (tgt := 39) E dX8_resize_32 (by decide) (fun h32 => ?_) (fun h32 => ?_)
    · exact absurd h32 (by first | omega | exact h5 | exact fun q => h5 q)
    · refine z_iconst (pc := 35) E dX8_resize_35 ?_
      refine lv_goto (pc := 36) (tgt := 82) E.1 E.2 dX8_resize_36 (by decide) ?_
      refine p8_4 (pc := 82) E hts hin8 hown hK hM.1 hS (Ax.at 0 (by decide)) (hts _ (List.mem_of_getElem? (i := 3) rfl)) dX8_resize_82 (fun H locs hnew hoth hS => ?_)
      have hM := W8.p hM hnew (fun a _ h => hoth a h)
      refine lv_aload_n (pc := 85) E.1 E.2 dX8_resize_85 rfl (lv_at hl 1 rfl) ?_
      refine g8_4 (pc := 86) E hts hin8 hown hK hM.1 (hts _ (List.mem_of_getElem? (i := 3) rfl)) dX8_resize_86 ?_
      refine z_if_le (pc := 89) (tgt := 94) E (by decide) dX8_resize_89 (by decide) (fun h89 => ?_) (fun h89 => ?_)
      · exact absurd h89 (by decide)
      · refine z_iconst (pc := 92) E dX8_resize_92 ?_
        exact z_retWi E hr (congrArg iI (by have e0 : (kxResize σ k b) = 1 := (by unfold kxResize; (repeat' split) <;> first | rfl | omega | (exfalso; omega) | contradiction | grind); rw [e0]; exact (if_neg (by decide)).symm)) (by have e0 : (kxResize σ k b) = 1 := (by unfold kxResize; (repeat' split) <;> first | rfl | omega | (exfalso; omega) | contradiction | grind); rw [e0]; rw [if_neg (by decide), if_neg (by decide), if_neg (by decide)]; exact W8.mu hM (by simp only [mV, zu, Int.reduceEq, reduceIte])) hS hlocks dX8_resize_93
  · refine lv_iload_n (pc := 8) E.1 E.2 dX8_resize_8 rfl (lv_at hl 2 rfl) ?_
    refine z_i2l (pc := 9) E ⟨by omega, by omega⟩ dX8_resize_9 ?_
    refine z_lconst (pc := 10) (v := 0) E (by decide) dX8_resize_10 ?_
    refine lv_ldc2 (pc := 11) (v := iL (9999)) E.1 E.2 hown (show (Jvm.Cond.constantLong RX8 315 (iL (9999))).before _ ss = true from (hts _ (List.mem_of_getElem? (i := 1) rfl))) dX8_resize_11 ?_
    refine z_rSi (pc := 14) (P := fun _ => True) (As := [.long (iL b), .long (iL 0), .long (iL 9999)]) (rest := []) E hml hown hts (mX8_isIn lL G b 0 9999 ⟨by omega, by omega⟩ ⟨by omega, by omega⟩ ⟨by omega, by omega⟩) (va_cwS 3 hts gX8_resize_X8_isIn rfl rfl rfl vdX8_isIn.2 ⟨Nat.le_of_ble_eq_true rfl, Nat.le_of_ble_eq_true rfl⟩) trivial hK rfl hl.1 rfl dX8_resize_14 hcs (Nat.le_of_ble_eq_true rfl) ?_
    refine z_ifb_eq (pc := 17) (tgt := 24) E dX8_resize_17 (by decide) (fun h17 => ?_) (fun h17 => ?_)
    · refine z_iconst (pc := 24) E dX8_resize_24 ?_
      refine lv_istore_n (pc := 25) (lv' := [(3, .int (iI 0)), (0, .ref (o 0)), (1, .int (iI k)), (2, .int (iI b))]) E.1 E.2 dX8_resize_25 rfl hl (by decide) rfl (fun ls hl => ?_)
      refine lv_aload_n (pc := 26) E.1 E.2 dX8_resize_26 rfl (lv_at hl 1 rfl) ?_
      refine lv_aload_n (pc := 27) E.1 E.2 dX8_resize_27 rfl (lv_at hl 1 rfl) ?_
      refine lv_iload_n (pc := 28) E.1 E.2 dX8_resize_28 rfl (lv_at hl 2 rfl) ?_
      refine z_rVi (pc := 29) (As := [.int (iI k)]) (rest := [.ref (o 0)]) E hml hown hts (mX8_isFile lL G o μ σ φ κ β ω k hI (by omega)) (cwV 1 hts gX8_resize_X8_isFile rfl rfl rfl vdX8_isFile ⟨Nat.le_of_ble_eq_true rfl, Nat.le_of_ble_eq_true rfl⟩) (oB.recv hK hM.1 rfl) hM hK rfl hl.1 rfl dX8_resize_29 hcs (Nat.le_of_ble_eq_true rfl) ?_
      refine z_ifb_ne (pc := 32) (tgt := 39) E dX8_resize_32 (by decide) (fun h32 => ?_) (fun h32 => ?_)
      · refine lv_iload_n (pc := 39) E.1 E.2 dX8_resize_39 rfl (lv_at hl 0 rfl) ?_
        refine z_if_ne (pc := 40) (tgt := 47) E (by decide) dX8_resize_40 (by decide) (fun h40 => ?_) (fun h40 => ?_)
        · exact absurd h40 (by decide)
        · refine z_iconst (pc := 43) E dX8_resize_43 ?_
          refine lv_goto (pc := 44) (tgt := 82) E.1 E.2 dX8_resize_44 (by decide) ?_
          refine p8_4 (pc := 82) E hts hin8 hown hK hM.1 hS (Ax.at 0 (by decide)) (hts _ (List.mem_of_getElem? (i := 3) rfl)) dX8_resize_82 (fun H locs hnew hoth hS => ?_)
          have hM := W8.p hM hnew (fun a _ h => hoth a h)
          refine lv_aload_n (pc := 85) E.1 E.2 dX8_resize_85 rfl (lv_at hl 1 rfl) ?_
          refine g8_4 (pc := 86) E hts hin8 hown hK hM.1 (hts _ (List.mem_of_getElem? (i := 3) rfl)) dX8_resize_86 ?_
          refine z_if_le (pc := 89) (tgt := 94) E (by decide) dX8_resize_89 (by decide) (fun h89 => ?_) (fun h89 => ?_)
          · exact absurd h89 (by decide)
          · refine z_iconst (pc := 92) E dX8_resize_92 ?_
            exact z_retWi E hr (congrArg iI (by have e0 : (kxResize σ k b) = 2 := (by unfold kxResize; (repeat' split) <;> first | rfl | omega | (exfalso; omega) | contradiction | grind); rw [e0]; exact (if_neg (by decide)).symm)) (by have e0 : (kxResize σ k b) = 2 := (by unfold kxResize; (repeat' split) <;> first | rfl | omega | (exfalso; omega) | contradiction | grind); rw [e0]; rw [if_neg (by decide), if_neg (by decide), if_neg (by decide)]; exact W8.mu hM (by simp only [mV, zu, Int.reduceEq, reduceIte])) hS hlocks dX8_resize_93
      · exact absurd h32 (by first | omega | exact h5 | exact fun q => h5 q)
    · refine z_iconst (pc := 20) E dX8_resize_20 ?_
      refine lv_goto (pc := 21) (tgt := 25) E.1 E.2 dX8_resize_21 (by decide) ?_
      refine lv_istore_n (pc := 25) (lv' := [(3, .int (iI 1)), (0, .ref (o 0)), (1, .int (iI k)), (2, .int (iI b))]) E.1 E.2 dX8_resize_25 rfl hl (by decide) rfl (fun ls hl => ?_)
      refine lv_aload_n (pc := 26) E.1 E.2 dX8_resize_26 rfl (lv_at hl 1 rfl) ?_
      refine lv_aload_n (pc := 27) E.1 E.2 dX8_resize_27 rfl (lv_at hl 1 rfl) ?_
      refine lv_iload_n (pc := 28) E.1 E.2 dX8_resize_28 rfl (lv_at hl 2 rfl) ?_
      refine z_rVi (pc := 29) (As := [.int (iI k)]) (rest := [.ref (o 0)]) E hml hown hts (mX8_isFile lL G o μ σ φ κ β ω k hI (by omega)) (cwV 1 hts gX8_resize_X8_isFile rfl rfl rfl vdX8_isFile ⟨Nat.le_of_ble_eq_true rfl, Nat.le_of_ble_eq_true rfl⟩) (oB.recv hK hM.1 rfl) hM hK rfl hl.1 rfl dX8_resize_29 hcs (Nat.le_of_ble_eq_true rfl) ?_
      refine z_ifb_ne (pc := 32) (tgt := 39) E dX8_resize_32 (by decide) (fun h32 => ?_) (fun h32 => ?_)
      · refine lv_iload_n (pc := 39) E.1 E.2 dX8_resize_39 rfl (lv_at hl 0 rfl) ?_
        refine z_if_ne (pc := 40) (tgt := 47) E (by decide) dX8_resize_40 (by decide) (fun h40 => ?_) (fun h40 => ?_)
        · refine lv_aload_n (pc := 47) E.1 E.2 dX8_resize_47 rfl (lv_at hl 1 rfl) ?_
          have hk2 : 0 ≤ k ∧ k < σ 3 := by omega
          have hfk := hI.fil hk2.1 hk2.2
          have hpj0 := hI.pjr (f := σ (189 + k)) (Or.inr hfk.1)
          refine lv_aload_n (pc := 48) E.1 E.2 dX8_resize_48 rfl (lv_at hl 1 rfl) ?_
          refine lv_aload_n (pc := 49) E.1 E.2 dX8_resize_49 rfl (lv_at hl 1 rfl) ?_
          refine lv_iload_n (pc := 50) E.1 E.2 dX8_resize_50 rfl (lv_at hl 2 rfl) ?_
          refine z_rVi (pc := 51) (As := [.int (iI k)]) (rest := [.ref (o 0), .ref (o 0), .ref (o 0)]) E hml hown hts (mX8_folderOf lL G o μ σ φ κ β ω k (by omega)) (cwV 1 hts gX8_resize_X8_folderOf rfl rfl rfl vdX8_folderOf ⟨Nat.le_of_ble_eq_true rfl, Nat.le_of_ble_eq_true rfl⟩) (oB.recv hK hM.1 rfl) hM hK rfl hl.1 rfl dX8_resize_51 hcs (Nat.le_of_ble_eq_true rfl) ?_
          refine z_rVi (pc := 54) (As := [.int (iI (σ (189 + k)))]) (rest := [.ref (o 0), .ref (o 0)]) E hml hown hts (mX8_projectOf lL G o μ σ φ κ β ω (σ (189 + k)) hI (Or.inr hfk.1)) (cwV 1 hts gX8_resize_X8_projectOf rfl rfl rfl vdX8_projectOf ⟨Nat.le_of_ble_eq_true rfl, Nat.le_of_ble_eq_true rfl⟩) (oB.recv hK hM.1 rfl) hM hK rfl hl.1 rfl dX8_resize_54 hcs (Nat.le_of_ble_eq_true rfl) ?_
          refine lv_iload_n (pc := 57) E.1 E.2 dX8_resize_57 rfl (lv_at hl 3 rfl) ?_
          refine z_i2l (pc := 58) E ⟨by omega, by omega⟩ dX8_resize_58 ?_
          refine lv_aload_n (pc := 59) E.1 E.2 dX8_resize_59 rfl (lv_at hl 1 rfl) ?_
          refine g8_0 (pc := 60) E hts hin8 hown hK hM.1 (hts _ (List.mem_of_getElem? (i := 2) rfl)) dX8_resize_60 ?_
          refine z_sipush (pc := 63) E (by decide) dX8_resize_63 ?_
          refine lv_iload_n (pc := 66) E.1 E.2 dX8_resize_66 rfl (lv_at hl 2 rfl) ?_
          refine z_iadd (pc := 67) E dX8_resize_67 ?_
          refine z_laload (pc := 68) E hK hM.2.1 ⟨by omega, by omega⟩ (by decide) dX8_resize_68 ?_
          have hb68 := hI.bd (249 + k)
          refine z_lsub (pc := 69) E dX8_resize_69 ?_
          refine z_lconst (pc := 70) (v := 0) E (by decide) dX8_resize_70 ?_
          refine z_rVi (pc := 71) (As := [.int (iI (pjF σ (σ (189 + k)))), .long (iL (b - (σ (249 + k)))), .long (iL 0)]) (rest := [.ref (o 0)]) E hml hown hts (mX8_reasonFor lL G o μ σ φ κ β ω (pjF σ (σ (189 + k))) (b - (σ (249 + k))) 0 hI (by omega) (by omega) (by omega)) (cwV 3 hts gX8_resize_X8_reasonFor rfl rfl rfl vdX8_reasonFor ⟨Nat.le_of_ble_eq_true rfl, Nat.le_of_ble_eq_true rfl⟩) (oB.recv hK hM.1 rfl) hM hK rfl hl.1 rfl dX8_resize_71 hcs (Nat.le_of_ble_eq_true rfl) ?_
          have hrs := rsS_b σ (pjF σ (σ (189 + k))) (b - σ (249 + k)) 0
          refine z_if_le (pc := 74) (tgt := 81) E ⟨by omega, by omega⟩ dX8_resize_74 (by decide) (fun h74 => ?_) (fun h74 => ?_)
          · refine z_iconst (pc := 81) E dX8_resize_81 ?_
            refine p8_4 (pc := 82) E hts hin8 hown hK hM.1 hS (Ax.at 0 (by decide)) (hts _ (List.mem_of_getElem? (i := 3) rfl)) dX8_resize_82 (fun H locs hnew hoth hS => ?_)
            have hM := W8.p hM hnew (fun a _ h => hoth a h)
            refine lv_aload_n (pc := 85) E.1 E.2 dX8_resize_85 rfl (lv_at hl 1 rfl) ?_
            refine g8_4 (pc := 86) E hts hin8 hown hK hM.1 (hts _ (List.mem_of_getElem? (i := 3) rfl)) dX8_resize_86 ?_
            refine z_if_le (pc := 89) (tgt := 94) E (by decide) dX8_resize_89 (by decide) (fun h89 => ?_) (fun h89 => ?_)
            · have hk2 : 0 ≤ k ∧ k < σ 3 := by omega
              have hb2 : 0 ≤ b ∧ b ≤ 9999 := by omega
              have hfk := hI.fil hk2.1 hk2.2
              have hpj := hI.pjr (f := σ (189 + k)) (Or.inr hfk.1)
              refine lv_aload_n (pc := 94) E.1 E.2 dX8_resize_94 rfl (lv_at hl 1 rfl) ?_
              refine z_wVv (pc := 95) (As := []) (rest := []) E hml hown hts (mX8_keeps lL G o (zu μ 4 0) σ φ κ β ω  (by simpa only [zu, Int.reduceEq, reduceIte] using hk8)) (cwV 0 hts gX8_resize_X8_keeps rfl rfl rfl vdX8_keeps ⟨Nat.le_of_ble_eq_true rfl, Nat.le_of_ble_eq_true rfl⟩) (oB.recv hK hM.1 rfl) (W8.mu hM (by simp only [mV, zu, Int.reduceEq, reduceIte])) hK hS (fun _ h => h) rfl hl.1 rfl dX8_resize_95 hcs (Nat.le_of_ble_eq_true rfl) (fun H locs hnew hsz hoth hS => ?_)
              have hM : W8 G o [.ref (o 1), .ref (o 2), .ref (o 3), .int (iI (keM ((μ 3)))), .int (iI 0), .ref (o 4), .int (iI (μ 6)), .int (iI (μ 7)), .int (iI (μ 8)), .int (iI (μ 9)), .int (iI (μ 10)), .int (iI (μ 11)), .int (iI (μ 12)), .int (iI (μ 13)), .int (iI (μ 14)), .long (iL (μ 15)), .ref (o 5), .int (iI (μ 17))] σ φ (keK κ σ ((μ 3))) β ω H := W8.eq hnew (by simp only [mV, zu, Int.reduceEq, reduceIte])
              refine lv_aload_n (pc := 98) E.1 E.2 dX8_resize_98 rfl (lv_at hl 1 rfl) ?_
              refine g8_0 (pc := 99) E hts hin8 hown hK hM.1 (hts _ (List.mem_of_getElem? (i := 2) rfl)) dX8_resize_99 ?_
              refine z_sipush (pc := 102) E (by decide) dX8_resize_102 ?_
              refine lv_iload_n (pc := 105) E.1 E.2 dX8_resize_105 rfl (lv_at hl 2 rfl) ?_
              refine z_iadd (pc := 106) E dX8_resize_106 ?_
              refine z_laload (pc := 107) E hK hM.2.1 ⟨by omega, by omega⟩ (by decide) dX8_resize_107 ?_
              have hb107 := hI.bd (249 + k)
              refine z_l2i (pc := 108) E dX8_resize_108 ?_
              refine lv_istore (pc := 109) (lv' := [(4, .int (iI (σ (249 + k)))), (3, .int (iI 1)), (0, .ref (o 0)), (1, .int (iI k)), (2, .int (iI b))]) E.1 E.2 dX8_resize_109 hl (by decide) rfl (fun ls hl => ?_)
              refine lv_aload_n (pc := 111) E.1 E.2 dX8_resize_111 rfl (lv_at hl 2 rfl) ?_
              refine lv_aload_n (pc := 112) E.1 E.2 dX8_resize_112 rfl (lv_at hl 2 rfl) ?_
              refine lv_aload_n (pc := 113) E.1 E.2 dX8_resize_113 rfl (lv_at hl 2 rfl) ?_
              refine lv_iload_n (pc := 114) E.1 E.2 dX8_resize_114 rfl (lv_at hl 3 rfl) ?_
              refine z_rVi (pc := 115) (As := [.int (iI k)]) (rest := [.ref (o 0), .ref (o 0)]) E hml hown hts (mX8_folderOf lL G o (zu (zu μ 4 0) 3 (keM ((μ 3)))) σ φ (keK κ σ ((μ 3))) β ω k (by omega)) (cwV 1 hts gX8_resize_X8_folderOf rfl rfl rfl vdX8_folderOf ⟨Nat.le_of_ble_eq_true rfl, Nat.le_of_ble_eq_true rfl⟩) (oB.recv hK hM.1 rfl) (W8.mu hM (by simp only [mV, zu, Int.reduceEq, reduceIte])) hK rfl hl.1 rfl dX8_resize_115 hcs (Nat.le_of_ble_eq_true rfl) ?_
              refine z_rVi (pc := 118) (As := [.int (iI (σ (189 + k)))]) (rest := [.ref (o 0)]) E hml hown hts (mX8_projectOf lL G o (zu (zu μ 4 0) 3 (keM ((μ 3)))) σ φ (keK κ σ ((μ 3))) β ω (σ (189 + k)) hI (Or.inr hfk.1)) (cwV 1 hts gX8_resize_X8_projectOf rfl rfl rfl vdX8_projectOf ⟨Nat.le_of_ble_eq_true rfl, Nat.le_of_ble_eq_true rfl⟩) (oB.recv hK hM.1 rfl) (W8.mu hM (by simp only [mV, zu, Int.reduceEq, reduceIte])) hK rfl hl.1 rfl dX8_resize_118 hcs (Nat.le_of_ble_eq_true rfl) ?_
              refine lv_iload_n (pc := 121) E.1 E.2 dX8_resize_121 rfl (lv_at hl 4 rfl) ?_
              refine lv_iload (pc := 122) E.1 E.2 dX8_resize_122 (lv_at hl 0 rfl) ?_
              refine z_isub (pc := 124) E dX8_resize_124 ?_
              refine z_i2l (pc := 125) E ⟨by omega, by omega⟩ dX8_resize_125 ?_
              refine z_lconst (pc := 126) (v := 0) E (by decide) dX8_resize_126 ?_
              refine z_wVv (pc := 127) (As := [.int (iI (pjF σ (σ (189 + k)))), .long (iL (b - (σ (249 + k)))), .long (iL 0)]) (rest := []) E hml hown hts (mX8_counts lL G o (zu (zu μ 4 0) 3 (keM ((μ 3)))) σ φ (keK κ σ ((μ 3))) β ω (pjF σ (σ (189 + k))) (b - (σ (249 + k))) 0 hI.bd (by omega) (by omega) (by omega)) (cwV 3 hts gX8_resize_X8_counts rfl rfl rfl vdX8_counts ⟨Nat.le_of_ble_eq_true rfl, Nat.le_of_ble_eq_true rfl⟩) (oB.recv hK hM.1 rfl) (W8.mu hM (by simp only [mV, zu, Int.reduceEq, reduceIte])) hK hS (fun _ h => h) rfl hl.1 rfl dX8_resize_127 hcs (Nat.le_of_ble_eq_true rfl) (fun H locs hnew hsz hoth hS => ?_)
              have hM : W8 G o [.ref (o 1), .ref (o 2), .ref (o 3), .int (iI (keM ((μ 3)))), .int (iI 0), .ref (o 4), .int (iI (μ 6)), .int (iI (μ 7)), .int (iI (μ 8)), .int (iI (μ 9)), .int (iI (μ 10)), .int (iI (μ 11)), .int (iI (μ 12)), .int (iI (μ 13)), .int (iI (μ 14)), .long (iL (μ 15)), .ref (o 5), .int (iI (μ 17))] (coA σ (pjF σ (σ (189 + k))) (b - (σ (249 + k))) 0) φ (keK κ σ ((μ 3))) β ω H := W8.eq hnew (by simp only [mV, zu, Int.reduceEq, reduceIte])
              refine lv_aload_n (pc := 130) E.1 E.2 dX8_resize_130 rfl (lv_at hl 2 rfl) ?_
              refine g8_0 (pc := 131) E hts hin8 hown hK hM.1 (hts _ (List.mem_of_getElem? (i := 2) rfl)) dX8_resize_131 ?_
              refine z_sipush (pc := 134) E (by decide) dX8_resize_134 ?_
              refine lv_iload_n (pc := 137) E.1 E.2 dX8_resize_137 rfl (lv_at hl 3 rfl) ?_
              refine z_iadd (pc := 138) E dX8_resize_138 ?_
              refine lv_iload_n (pc := 139) E.1 E.2 dX8_resize_139 rfl (lv_at hl 4 rfl) ?_
              refine z_i2l (pc := 140) E ⟨by omega, by omega⟩ dX8_resize_140 ?_
              refine z_lastore (pc := 141) E hK hM.2.1 hS (Ax.at 1 (by decide)) ⟨by omega, by omega⟩ (by decide) dX8_resize_141 (fun H locs hnew hoth hS => ?_)
              have hM := W8.a1 hM hnew (fun a _ h => hoth a h)
              refine lv_aload_n (pc := 142) E.1 E.2 dX8_resize_142 rfl (lv_at hl 2 rfl) ?_
              refine z_wVv (pc := 143) (As := []) (rest := []) E hml hown hts (mX8_setsClocks lL G o (zu (zu μ 4 0) 3 (keM ((μ 3)))) (zu (coA σ (pjF σ (σ (189 + k))) (b - (σ (249 + k))) 0) (249 + k) b) φ (keK κ σ ((μ 3))) β ω  ((hI.coAI hpj (by omega) (by omega) hU).siz (by rw [coA_n hpj (by omega)]; exact hk2) hb2)) (cwV 0 hts gX8_resize_X8_setsClocks rfl rfl rfl vdX8_setsClocks ⟨Nat.le_of_ble_eq_true rfl, Nat.le_of_ble_eq_true rfl⟩) (oB.recv hK hM.1 rfl) (W8.mu hM (by simp only [mV, zu, Int.reduceEq, reduceIte])) hK hS (fun _ h => h) rfl hl.1 rfl dX8_resize_143 hcs (Nat.le_of_ble_eq_true rfl) (fun H locs hnew hsz hoth hS => ?_)
              have hM : W8 G o [.ref (o 1), .ref (o 2), .ref (o 3), .int (iI (keM ((μ 3)))), .int (iI 0), .ref (o 4), .int (iI (μ 6)), .int (iI (μ 7)), .int (iI (μ 8)), .int (iI (μ 9)), .int (iI (μ 10)), .int (iI (μ 11)), .int (iI (μ 12)), .int (iI (μ 13)), .int (iI (μ 14)), .long (iL (μ 15)), .ref (o 5), .int (iI (μ 17))] (scA (zu (coA σ (pjF σ (σ (189 + k))) (b - (σ (249 + k))) 0) (249 + k) b) 16) φ (keK κ σ ((μ 3))) β ω H := W8.eq hnew (by simp only [mV, zu, Int.reduceEq, reduceIte])
              refine lv_iload (pc := 146) E.1 E.2 dX8_resize_146 (lv_at hl 0 rfl) ?_
              exact z_retWi E hr (congrArg iI (by have e0 : (kxResize σ k b) = 0 := (by unfold kxResize; (repeat' split) <;> first | rfl | omega | (exfalso; omega) | contradiction | grind); rw [e0]; refine Eq.trans ?_ (if_pos rfl).symm; rfl)) (by have e0 : (kxResize σ k b) = 0 := (by unfold kxResize; (repeat' split) <;> first | rfl | omega | (exfalso; omega) | contradiction | grind); rw [e0]; rw [if_pos rfl, if_pos rfl, if_pos rfl]; exact W8.mu hM (by simp only [mV, zu, Int.reduceEq, reduceIte])) hS hlocks dX8_resize_148
            · exact absurd h89 (by decide)
          · refine z_iconst (pc := 77) E dX8_resize_77 ?_
            refine lv_goto (pc := 78) (tgt := 82) E.1 E.2 dX8_resize_78 (by decide) ?_
            refine p8_4 (pc := 82) E hts hin8 hown hK hM.1 hS (Ax.at 0 (by decide)) (hts _ (List.mem_of_getElem? (i := 3) rfl)) dX8_resize_82 (fun H locs hnew hoth hS => ?_)
            have hM := W8.p hM hnew (fun a _ h => hoth a h)
            refine lv_aload_n (pc := 85) E.1 E.2 dX8_resize_85 rfl (lv_at hl 1 rfl) ?_
            refine g8_4 (pc := 86) E hts hin8 hown hK hM.1 (hts _ (List.mem_of_getElem? (i := 3) rfl)) dX8_resize_86 ?_
            refine z_if_le (pc := 89) (tgt := 94) E (by decide) dX8_resize_89 (by decide) (fun h89 => ?_) (fun h89 => ?_)
            · exact absurd h89 (by decide)
            · refine z_iconst (pc := 92) E dX8_resize_92 ?_
              exact z_retWi E hr (congrArg iI (by have e0 : (kxResize σ k b) = 3 := (by unfold kxResize; (repeat' split) <;> first | rfl | omega | (exfalso; omega) | contradiction | grind); rw [e0]; exact (if_neg (by decide)).symm)) (by have e0 : (kxResize σ k b) = 3 := (by unfold kxResize; (repeat' split) <;> first | rfl | omega | (exfalso; omega) | contradiction | grind); rw [e0]; rw [if_neg (by decide), if_neg (by decide), if_neg (by decide)]; exact W8.mu hM (by simp only [mV, zu, Int.reduceEq, reduceIte])) hS hlocks dX8_resize_93
        · exact absurd h40 (by decide)
      · exact absurd h32 (by first | omega | exact h5 | exact fun q => h5 q)
set_option maxHeartbeats 1000000 in
set_option maxRecDepth 100000 in
theorem mX8_delete (lL : Launch) (G : GG) (o : Nat → Nat) (μ σ φ κ β ω : Int → Int) (k : Int) (hI : In σ) (hk : -2147483648 ≤ k ∧ k < 2147483648) (hk8 : 0 ≤ μ 3 ∧ μ 3 ≤ 8) : Met lL yX8_delete wsX8_delete ({ frames := 3, cells := 0, slots := 0, locals := 74 } : Room) (va_Pc [.ref (o 0), .int (iI k)] (fun U => W8 G o (mV o μ) σ φ κ β ω U.heap ∧ KK G U)) (va_Qi (fun r (_ : Unit) => r = (iI (if (kxFi σ k) = 0 then σ 3 - 1 else 0))) (fun _ tZ => W8 G o (mV o (zu (zu μ 4 (kxFi σ k)) 3 (if (kxFi σ k) = 0 then keM (μ 3) else μ 3))) (if (kxFi σ k) = 0 then nxDelete σ k else σ) φ (if (kxFi σ k) = 0 then keK κ σ (μ 3) else κ) β ω tZ.heap) (Ax o 6)) 0 0 (Ax o 6) := by
  refine z_met (P := (fun H : Heap => W8 G o (mV o μ) σ φ κ β ω H)) (by decide) rfl (Nat.le_of_ble_eq_true rfl) (fun pp ee ss mm below meth cC E hr hml hown hts hlocks hM hK ls hl => ?_)
  have hl : lv_has ls 2 [(0, .ref (o 0)), (1, .int (iI k))] := hl
  have hcs : 0 ≤ (({ frames := 3, cells := 0, slots := 0, locals := 74 } : Room)).cells ∧ 0 ≤ (({ frames := 3, cells := 0, slots := 0, locals := 74 } : Room)).slots := ⟨Nat.zero_le _, Nat.zero_le _⟩
  have hS : va_S (Ax o 6) ss.heap ss.heap [] := va_S.rf
  have hin8 : ∀ w ∈ wsX80, w ∈ wsX8_delete := fun w h => List.mem_cons_of_mem _ (List.mem_append_right _ (h))
  have hF := hI.F
  have hMm := hI.M
  have hGn := hI.Gn
  have hTi := hI.ti
  have hGr := hI.gr
  refine lv_aload_n (pc := 0) E.1 E.2 dX8_delete_0 rfl (lv_at hl 0 rfl) ?_
  refine lv_aload_n (pc := 1) E.1 E.2 dX8_delete_1 rfl (lv_at hl 0 rfl) ?_
  refine lv_iload_n (pc := 2) E.1 E.2 dX8_delete_2 rfl (lv_at hl 1 rfl) ?_
  refine z_rVi (pc := 3) (As := [.int (iI k)]) (rest := [.ref (o 0)]) E hml hown hts (mX8_isFile lL G o μ σ φ κ β ω k hI (by omega)) (cwV 1 hts gX8_delete_X8_isFile rfl rfl rfl vdX8_isFile ⟨Nat.le_of_ble_eq_true rfl, Nat.le_of_ble_eq_true rfl⟩) (oB.recv hK hM.1 rfl) hM hK rfl hl.1 rfl dX8_delete_3 hcs (Nat.le_of_ble_eq_true rfl) ?_
  refine z_ifb_eq (pc := 6) (tgt := 13) E dX8_delete_6 (by decide) (fun h6 => ?_) (fun h6 => ?_)
  · refine z_iconst (pc := 13) E dX8_delete_13 ?_
    refine p8_4 (pc := 14) E hts hin8 hown hK hM.1 hS (Ax.at 0 (by decide)) (hts _ (List.mem_of_getElem? (i := 1) rfl)) dX8_delete_14 (fun H locs hnew hoth hS => ?_)
    have hM := W8.p hM hnew (fun a _ h => hoth a h)
    refine lv_aload_n (pc := 17) E.1 E.2 dX8_delete_17 rfl (lv_at hl 0 rfl) ?_
    refine g8_4 (pc := 18) E hts hin8 hown hK hM.1 (hts _ (List.mem_of_getElem? (i := 1) rfl)) dX8_delete_18 ?_
    refine z_if_le (pc := 21) (tgt := 26) E (by decide) dX8_delete_21 (by decide) (fun h21 => ?_) (fun h21 => ?_)
    · exact absurd h21 (by decide)
    · refine z_iconst (pc := 24) E dX8_delete_24 ?_
      exact z_retWi E hr (congrArg iI (by have e0 : (kxFi σ k) = 1 := (by unfold kxFi; (repeat' split) <;> first | rfl | omega | (exfalso; omega) | contradiction | grind); rw [e0]; exact (if_neg (by decide)).symm)) (by have e0 : (kxFi σ k) = 1 := (by unfold kxFi; (repeat' split) <;> first | rfl | omega | (exfalso; omega) | contradiction | grind); rw [e0]; rw [if_neg (by decide), if_neg (by decide), if_neg (by decide)]; exact W8.mu hM (by simp only [mV, zu, Int.reduceEq, reduceIte])) hS hlocks dX8_delete_25
  · refine z_iconst (pc := 9) E dX8_delete_9 ?_
    refine lv_goto (pc := 10) (tgt := 14) E.1 E.2 dX8_delete_10 (by decide) ?_
    refine p8_4 (pc := 14) E hts hin8 hown hK hM.1 hS (Ax.at 0 (by decide)) (hts _ (List.mem_of_getElem? (i := 1) rfl)) dX8_delete_14 (fun H locs hnew hoth hS => ?_)
    have hM := W8.p hM hnew (fun a _ h => hoth a h)
    refine lv_aload_n (pc := 17) E.1 E.2 dX8_delete_17 rfl (lv_at hl 0 rfl) ?_
    refine g8_4 (pc := 18) E hts hin8 hown hK hM.1 (hts _ (List.mem_of_getElem? (i := 1) rfl)) dX8_delete_18 ?_
    refine z_if_le (pc := 21) (tgt := 26) E (by decide) dX8_delete_21 (by decide) (fun h21 => ?_) (fun h21 => ?_)
    · have hk2 : 0 ≤ k ∧ k < σ 3 := by omega
      have hfk := hI.fil hk2.1 hk2.2
      have hpj := hI.pjr (f := σ (189 + k)) (Or.inr hfk.1)
      have e3 : coA σ (pjF σ (σ (189 + k))) (-σ (249 + k)) (-1) 3 = σ 3 := coA_n hpj (by omega)
      have hI2 : In (coA σ (pjF σ (σ (189 + k))) (-σ (249 + k)) (-1)) := hI.coAl hpj (by omega) (by omega)
      refine lv_aload_n (pc := 26) E.1 E.2 dX8_delete_26 rfl (lv_at hl 0 rfl) ?_
      refine z_wVv (pc := 27) (As := []) (rest := []) E hml hown hts (mX8_keeps lL G o (zu μ 4 0) σ φ κ β ω  (by simpa only [zu, Int.reduceEq, reduceIte] using hk8)) (cwV 0 hts gX8_delete_X8_keeps rfl rfl rfl vdX8_keeps ⟨Nat.le_of_ble_eq_true rfl, Nat.le_of_ble_eq_true rfl⟩) (oB.recv hK hM.1 rfl) (W8.mu hM (by simp only [mV, zu, Int.reduceEq, reduceIte])) hK hS (fun _ h => h) rfl hl.1 rfl dX8_delete_27 hcs (Nat.le_of_ble_eq_true rfl) (fun H locs hnew hsz hoth hS => ?_)
      have hM : W8 G o [.ref (o 1), .ref (o 2), .ref (o 3), .int (iI (keM ((μ 3)))), .int (iI 0), .ref (o 4), .int (iI (μ 6)), .int (iI (μ 7)), .int (iI (μ 8)), .int (iI (μ 9)), .int (iI (μ 10)), .int (iI (μ 11)), .int (iI (μ 12)), .int (iI (μ 13)), .int (iI (μ 14)), .long (iL (μ 15)), .ref (o 5), .int (iI (μ 17))] σ φ (keK κ σ ((μ 3))) β ω H := W8.eq hnew (by simp only [mV, zu, Int.reduceEq, reduceIte])
      refine lv_aload_n (pc := 30) E.1 E.2 dX8_delete_30 rfl (lv_at hl 0 rfl) ?_
      refine lv_aload_n (pc := 31) E.1 E.2 dX8_delete_31 rfl (lv_at hl 0 rfl) ?_
      refine lv_aload_n (pc := 32) E.1 E.2 dX8_delete_32 rfl (lv_at hl 0 rfl) ?_
      refine lv_iload_n (pc := 33) E.1 E.2 dX8_delete_33 rfl (lv_at hl 1 rfl) ?_
      refine z_rVi (pc := 34) (As := [.int (iI k)]) (rest := [.ref (o 0), .ref (o 0)]) E hml hown hts (mX8_folderOf lL G o (zu (zu μ 4 0) 3 (keM ((μ 3)))) σ φ (keK κ σ ((μ 3))) β ω k (by omega)) (cwV 1 hts gX8_delete_X8_folderOf rfl rfl rfl vdX8_folderOf ⟨Nat.le_of_ble_eq_true rfl, Nat.le_of_ble_eq_true rfl⟩) (oB.recv hK hM.1 rfl) (W8.mu hM (by simp only [mV, zu, Int.reduceEq, reduceIte])) hK rfl hl.1 rfl dX8_delete_34 hcs (Nat.le_of_ble_eq_true rfl) ?_
      refine z_rVi (pc := 37) (As := [.int (iI (σ (189 + k)))]) (rest := [.ref (o 0)]) E hml hown hts (mX8_projectOf lL G o (zu (zu μ 4 0) 3 (keM ((μ 3)))) σ φ (keK κ σ ((μ 3))) β ω (σ (189 + k)) hI (Or.inr hfk.1)) (cwV 1 hts gX8_delete_X8_projectOf rfl rfl rfl vdX8_projectOf ⟨Nat.le_of_ble_eq_true rfl, Nat.le_of_ble_eq_true rfl⟩) (oB.recv hK hM.1 rfl) (W8.mu hM (by simp only [mV, zu, Int.reduceEq, reduceIte])) hK rfl hl.1 rfl dX8_delete_37 hcs (Nat.le_of_ble_eq_true rfl) ?_
      refine lv_aload_n (pc := 40) E.1 E.2 dX8_delete_40 rfl (lv_at hl 0 rfl) ?_
      refine g8_0 (pc := 41) E hts hin8 hown hK hM.1 (hts _ (List.mem_of_getElem? (i := 2) rfl)) dX8_delete_41 ?_
      refine z_sipush (pc := 44) E (by decide) dX8_delete_44 ?_
      refine lv_iload_n (pc := 47) E.1 E.2 dX8_delete_47 rfl (lv_at hl 1 rfl) ?_
      refine z_iadd (pc := 48) E dX8_delete_48 ?_
      refine z_laload (pc := 49) E hK hM.2.1 ⟨by omega, by omega⟩ (by decide) dX8_delete_49 ?_
      have hb49 := hI.bd (249 + k)
      refine z_lneg (pc := 50) E dX8_delete_50 ?_
      refine lv_ldc2 (pc := 51) (v := iL (-1)) E.1 E.2 hown (show (Jvm.Cond.constantLong RX8 37 (iL (-1))).before _ ss = true from (hts _ (List.mem_of_getElem? (i := 3) rfl))) dX8_delete_51 ?_
      refine z_wVv (pc := 54) (As := [.int (iI (pjF σ (σ (189 + k)))), .long (iL (-(σ (249 + k)))), .long (iL (-1))]) (rest := []) E hml hown hts (mX8_counts lL G o (zu (zu μ 4 0) 3 (keM ((μ 3)))) σ φ (keK κ σ ((μ 3))) β ω (pjF σ (σ (189 + k))) (-(σ (249 + k))) (-1) hI.bd (by omega) (by omega) (by omega)) (cwV 3 hts gX8_delete_X8_counts rfl rfl rfl vdX8_counts ⟨Nat.le_of_ble_eq_true rfl, Nat.le_of_ble_eq_true rfl⟩) (oB.recv hK hM.1 rfl) (W8.mu hM (by simp only [mV, zu, Int.reduceEq, reduceIte])) hK hS (fun _ h => h) rfl hl.1 rfl dX8_delete_54 hcs (Nat.le_of_ble_eq_true rfl) (fun H locs hnew hsz hoth hS => ?_)
      have hM : W8 G o [.ref (o 1), .ref (o 2), .ref (o 3), .int (iI (keM ((μ 3)))), .int (iI 0), .ref (o 4), .int (iI (μ 6)), .int (iI (μ 7)), .int (iI (μ 8)), .int (iI (μ 9)), .int (iI (μ 10)), .int (iI (μ 11)), .int (iI (μ 12)), .int (iI (μ 13)), .int (iI (μ 14)), .long (iL (μ 15)), .ref (o 5), .int (iI (μ 17))] (coA σ (pjF σ (σ (189 + k))) (-(σ (249 + k))) (-1)) φ (keK κ σ ((μ 3))) β ω H := W8.eq hnew (by simp only [mV, zu, Int.reduceEq, reduceIte])
      refine lv_aload_n (pc := 57) E.1 E.2 dX8_delete_57 rfl (lv_at hl 0 rfl) ?_
      refine g8_0 (pc := 58) E hts hin8 hown hK hM.1 (hts _ (List.mem_of_getElem? (i := 2) rfl)) dX8_delete_58 ?_
      refine z_iconst (pc := 61) E dX8_delete_61 ?_
      refine lv_dup2_11 (pc := 62) E.1 E.2 dX8_delete_62 rfl rfl ?_
      refine z_laload (pc := 63) E hK hM.2.1 ⟨by omega, by omega⟩ (by decide) dX8_delete_63 ?_
      rw [show ((coA σ (pjF σ (σ (189 + k))) (-(σ (249 + k))) (-1)) 3) = (σ 3) from e3]
      refine z_lconst (pc := 64) (v := 1) E (by decide) dX8_delete_64 ?_
      refine z_lsub (pc := 65) E dX8_delete_65 ?_
      refine z_lastore (pc := 66) E hK hM.2.1 hS (Ax.at 1 (by decide)) ⟨by omega, by omega⟩ (by decide) dX8_delete_66 (fun H locs hnew hoth hS => ?_)
      have hM := W8.a1 hM hnew (fun a _ h => hoth a h)
      refine lv_aload_n (pc := 67) E.1 E.2 dX8_delete_67 rfl (lv_at hl 0 rfl) ?_
      refine z_sipush (pc := 68) E (by decide) dX8_delete_68 ?_
      refine lv_iload_n (pc := 71) E.1 E.2 dX8_delete_71 rfl (lv_at hl 1 rfl) ?_
      refine lv_aload_n (pc := 72) E.1 E.2 dX8_delete_72 rfl (lv_at hl 0 rfl) ?_
      refine g8_0 (pc := 73) E hts hin8 hown hK hM.1 (hts _ (List.mem_of_getElem? (i := 2) rfl)) dX8_delete_73 ?_
      refine z_iconst (pc := 76) E dX8_delete_76 ?_
      refine z_laload (pc := 77) E hK hM.2.1 ⟨by omega, by omega⟩ (by decide) dX8_delete_77 ?_
      rw [show ((zu (coA σ (pjF σ (σ (189 + k))) (-(σ (249 + k))) (-1)) 3 ((σ 3) - 1)) 3) = (σ 3 - 1) from (zu_s _ _ _)]
      refine z_l2i (pc := 78) E dX8_delete_78 ?_
      refine z_wVv (pc := 79) (As := [.int (iI 189), .int (iI k), .int (iI (σ 3 - 1))]) (rest := []) E hml hown hts (mX8_closesUp lL G o (zu (zu μ 4 0) 3 (keM ((μ 3)))) (zu (coA σ (pjF σ (σ (189 + k))) (-(σ (249 + k))) (-1)) 3 ((σ 3) - 1)) φ (keK κ σ ((μ 3))) β ω 189 k (σ 3 - 1) (by omega) (by omega) (by omega)) (cwV 3 hts gX8_delete_X8_closesUp rfl rfl rfl vdX8_closesUp ⟨Nat.le_of_ble_eq_true rfl, Nat.le_of_ble_eq_true rfl⟩) (oB.recv hK hM.1 rfl) (W8.mu hM (by simp only [mV, zu, Int.reduceEq, reduceIte])) hK hS (fun _ h => h) rfl hl.1 rfl dX8_delete_79 hcs (Nat.le_of_ble_eq_true rfl) (fun H locs hnew hsz hoth hS => ?_)
      have hM : W8 G o [.ref (o 1), .ref (o 2), .ref (o 3), .int (iI (keM ((μ 3)))), .int (iI 0), .ref (o 4), .int (iI (μ 6)), .int (iI (μ 7)), .int (iI (μ 8)), .int (iI (μ 9)), .int (iI (μ 10)), .int (iI (μ 11)), .int (iI (μ 12)), .int (iI (μ 13)), .int (iI (μ 14)), .long (iL (μ 15)), .ref (o 5), .int (iI (μ 17))] (clA (zu (coA σ (pjF σ (σ (189 + k))) (-(σ (249 + k))) (-1)) 3 ((σ 3) - 1)) 189 k (σ 3 - 1)) φ (keK κ σ ((μ 3))) β ω H := W8.eq hnew (by simp only [mV, zu, Int.reduceEq, reduceIte])
      refine lv_aload_n (pc := 82) E.1 E.2 dX8_delete_82 rfl (lv_at hl 0 rfl) ?_
      refine z_sipush (pc := 83) E (by decide) dX8_delete_83 ?_
      refine lv_iload_n (pc := 86) E.1 E.2 dX8_delete_86 rfl (lv_at hl 1 rfl) ?_
      refine lv_aload_n (pc := 87) E.1 E.2 dX8_delete_87 rfl (lv_at hl 0 rfl) ?_
      refine g8_0 (pc := 88) E hts hin8 hown hK hM.1 (hts _ (List.mem_of_getElem? (i := 2) rfl)) dX8_delete_88 ?_
      refine z_iconst (pc := 91) E dX8_delete_91 ?_
      refine z_laload (pc := 92) E hK hM.2.1 ⟨by omega, by omega⟩ (by decide) dX8_delete_92 ?_
      rw [show ((clA (zu (coA σ (pjF σ (σ (189 + k))) (-(σ (249 + k))) (-1)) 3 ((σ 3) - 1)) 189 k (σ 3 - 1)) 3) = (σ 3 - 1) from (by unfold clA; rw [if_neg (by omega)]; exact zu_s _ _ _)]
      refine z_l2i (pc := 93) E dX8_delete_93 ?_
      refine z_wVv (pc := 94) (As := [.int (iI 249), .int (iI k), .int (iI (σ 3 - 1))]) (rest := []) E hml hown hts (mX8_closesUp lL G o (zu (zu μ 4 0) 3 (keM ((μ 3)))) (clA (zu (coA σ (pjF σ (σ (189 + k))) (-(σ (249 + k))) (-1)) 3 ((σ 3) - 1)) 189 k (σ 3 - 1)) φ (keK κ σ ((μ 3))) β ω 249 k (σ 3 - 1) (by omega) (by omega) (by omega)) (cwV 3 hts gX8_delete_X8_closesUp rfl rfl rfl vdX8_closesUp ⟨Nat.le_of_ble_eq_true rfl, Nat.le_of_ble_eq_true rfl⟩) (oB.recv hK hM.1 rfl) (W8.mu hM (by simp only [mV, zu, Int.reduceEq, reduceIte])) hK hS (fun _ h => h) rfl hl.1 rfl dX8_delete_94 hcs (Nat.le_of_ble_eq_true rfl) (fun H locs hnew hsz hoth hS => ?_)
      have hM : W8 G o [.ref (o 1), .ref (o 2), .ref (o 3), .int (iI (keM ((μ 3)))), .int (iI 0), .ref (o 4), .int (iI (μ 6)), .int (iI (μ 7)), .int (iI (μ 8)), .int (iI (μ 9)), .int (iI (μ 10)), .int (iI (μ 11)), .int (iI (μ 12)), .int (iI (μ 13)), .int (iI (μ 14)), .long (iL (μ 15)), .ref (o 5), .int (iI (μ 17))] (clA (clA (zu (coA σ (pjF σ (σ (189 + k))) (-(σ (249 + k))) (-1)) 3 ((σ 3) - 1)) 189 k (σ 3 - 1)) 249 k (σ 3 - 1)) φ (keK κ σ ((μ 3))) β ω H := W8.eq hnew (by simp only [mV, zu, Int.reduceEq, reduceIte])
      refine lv_aload_n (pc := 97) E.1 E.2 dX8_delete_97 rfl (lv_at hl 0 rfl) ?_
      refine z_wVv (pc := 98) (As := []) (rest := []) E hml hown hts (mX8_setsClocks lL G o (zu (zu μ 4 0) 3 (keM ((μ 3)))) (clA (clA (zu (coA σ (pjF σ (σ (189 + k))) (-(σ (249 + k))) (-1)) 3 ((σ 3) - 1)) 189 k (σ 3 - 1)) 249 k (σ 3 - 1)) φ (keK κ σ ((μ 3))) β ω  (by have q := hI2.dfAI (k := k) (by rw [e3]; exact hk2); unfold dfA at q; rw [e3] at q; exact q)) (cwV 0 hts gX8_delete_X8_setsClocks rfl rfl rfl vdX8_setsClocks ⟨Nat.le_of_ble_eq_true rfl, Nat.le_of_ble_eq_true rfl⟩) (oB.recv hK hM.1 rfl) (W8.mu hM (by simp only [mV, zu, Int.reduceEq, reduceIte])) hK hS (fun _ h => h) rfl hl.1 rfl dX8_delete_98 hcs (Nat.le_of_ble_eq_true rfl) (fun H locs hnew hsz hoth hS => ?_)
      have hM : W8 G o [.ref (o 1), .ref (o 2), .ref (o 3), .int (iI (keM ((μ 3)))), .int (iI 0), .ref (o 4), .int (iI (μ 6)), .int (iI (μ 7)), .int (iI (μ 8)), .int (iI (μ 9)), .int (iI (μ 10)), .int (iI (μ 11)), .int (iI (μ 12)), .int (iI (μ 13)), .int (iI (μ 14)), .long (iL (μ 15)), .ref (o 5), .int (iI (μ 17))] (scA (clA (clA (zu (coA σ (pjF σ (σ (189 + k))) (-(σ (249 + k))) (-1)) 3 ((σ 3) - 1)) 189 k (σ 3 - 1)) 249 k (σ 3 - 1)) 16) φ (keK κ σ ((μ 3))) β ω H := W8.eq hnew (by simp only [mV, zu, Int.reduceEq, reduceIte])
      refine lv_aload_n (pc := 101) E.1 E.2 dX8_delete_101 rfl (lv_at hl 0 rfl) ?_
      refine g8_0 (pc := 102) E hts hin8 hown hK hM.1 (hts _ (List.mem_of_getElem? (i := 2) rfl)) dX8_delete_102 ?_
      refine z_iconst (pc := 105) E dX8_delete_105 ?_
      refine z_laload (pc := 106) E hK hM.2.1 ⟨by omega, by omega⟩ (by decide) dX8_delete_106 ?_
      rw [show ((scA (clA (clA (zu (coA σ (pjF σ (σ (189 + k))) (-(σ (249 + k))) (-1)) 3 ((σ 3) - 1)) 189 k (σ 3 - 1)) 249 k (σ 3 - 1)) 16) 3) = (σ 3 - 1) from (by rw [scA_n _ _ (by omega)]; unfold clA; rw [if_neg (by omega), if_neg (by omega)]; exact zu_s _ _ _)]
      refine z_l2i (pc := 107) E dX8_delete_107 ?_
      exact z_retWi E hr (congrArg iI (by have e0 : (kxFi σ k) = 0 := (by unfold kxFi; (repeat' split) <;> first | rfl | omega | (exfalso; omega) | contradiction | grind); rw [e0]; refine Eq.trans ?_ (if_pos rfl).symm; rfl)) (by have e0 : (kxFi σ k) = 0 := (by unfold kxFi; (repeat' split) <;> first | rfl | omega | (exfalso; omega) | contradiction | grind); rw [e0]; rw [if_pos rfl, if_pos rfl, if_pos rfl]; unfold nxDelete dfA; rw [e3]; exact W8.mu hM (by simp only [mV, zu, Int.reduceEq, reduceIte])) hS hlocks dX8_delete_108
    · exact absurd h21 (by decide)
