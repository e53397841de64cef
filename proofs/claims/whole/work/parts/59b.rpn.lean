theorem vdX8_see : yX8_see.cls = RX8 ∧ yX8_see.cls ≠ "java/lang/invoke/MethodHandle" ∧ yX8_see.cls ≠ "java/lang/invoke/VarHandle" ∧ (parseMethodDescriptor yX8_see.desc).map (fun d => d.parameters.length) = some 1 := by decide +kernel
theorem vdX8_isLetter : yX8_isLetter.cls = RX8 ∧ yX8_isLetter.cls ≠ "java/lang/invoke/MethodHandle" ∧ yX8_isLetter.cls ≠ "java/lang/invoke/VarHandle" ∧ (parseMethodDescriptor yX8_isLetter.desc).map (fun d => d.parameters.length) = some 1 := by decide +kernel
theorem vdX8_isDigit : yX8_isDigit.cls = RX8 ∧ yX8_isDigit.cls ≠ "java/lang/invoke/MethodHandle" ∧ yX8_isDigit.cls ≠ "java/lang/invoke/VarHandle" ∧ (parseMethodDescriptor yX8_isDigit.desc).map (fun d => d.parameters.length) = some 1 := by decide +kernel
theorem vdX8_next : yX8_next.cls = RX8 ∧ yX8_next.cls ≠ "java/lang/invoke/MethodHandle" ∧ yX8_next.cls ≠ "java/lang/invoke/VarHandle" ∧ (parseMethodDescriptor yX8_next.desc).map (fun d => d.parameters.length) = some 0 := by decide +kernel
theorem vdX8_fails : yX8_fails.cls = RX8 ∧ yX8_fails.cls ≠ "java/lang/invoke/MethodHandle" ∧ yX8_fails.cls ≠ "java/lang/invoke/VarHandle" ∧ (parseMethodDescriptor yX8_fails.desc).map (fun d => d.parameters.length) = some 1 := by decide +kernel
theorem vdX8_must : yX8_must.cls = RX8 ∧ yX8_must.cls ≠ "java/lang/invoke/MethodHandle" ∧ yX8_must.cls ≠ "java/lang/invoke/VarHandle" ∧ (parseMethodDescriptor yX8_must.desc).map (fun d => d.parameters.length) = some 1 := by decide +kernel
theorem vdX8_takes : yX8_takes.cls = RX8 ∧ yX8_takes.cls ≠ "java/lang/invoke/MethodHandle" ∧ yX8_takes.cls ≠ "java/lang/invoke/VarHandle" ∧ (parseMethodDescriptor yX8_takes.desc).map (fun d => d.parameters.length) = some 2 := by decide +kernel
theorem vdX8_takesName : yX8_takesName.cls = RX8 ∧ yX8_takesName.cls ≠ "java/lang/invoke/MethodHandle" ∧ yX8_takesName.cls ≠ "java/lang/invoke/VarHandle" ∧ (parseMethodDescriptor yX8_takesName.desc).map (fun d => d.parameters.length) = some 1 := by decide +kernel
theorem vdX8_takesFolder : yX8_takesFolder.cls = RX8 ∧ yX8_takesFolder.cls ≠ "java/lang/invoke/MethodHandle" ∧ yX8_takesFolder.cls ≠ "java/lang/invoke/VarHandle" ∧ (parseMethodDescriptor yX8_takesFolder.desc).map (fun d => d.parameters.length) = some 0 := by decide +kernel
set_option maxHeartbeats 1000000 in
set_option maxRecDepth 100000 in
theorem mX8_see (lL : Launch) (G : GG) (o : Nat → Nat) (μ σ φ κ β ω : Int → Int) (k : Int) (hk : 0 ≤ k ∧ k < 2147483648) (hn : μ 7 ≤ 900) (hn0 : 0 ≤ μ 7) : Met lL yX8_see wsX8_see ({ frames := 0, cells := 0, slots := 0, locals := 0 } : Room) (va_Pc [.ref (o 0), .int (iI k)] (fun U => W8 G o (mV o μ) σ φ κ β ω U.heap ∧ KK G U)) (vp_Si (fun r => r = (iI (see β (μ 7) k)))) 0 0 (fun _ => False) := by
  refine z_met (P := (fun H : Heap => W8 G o (mV o μ) σ φ κ β ω H)) (by decide) rfl (Nat.le_of_ble_eq_true rfl) (fun pp ee ss mm below meth cC E hr hml hown hts hlocks hM hK ls hl => ?_)
  have hl : lv_has ls 2 [(0, .ref (o 0)), (1, .int (iI k))] := hl
  have hcs : 0 ≤ (({ frames := 0, cells := 0, slots := 0, locals := 0 } : Room)).cells ∧ 0 ≤ (({ frames := 0, cells := 0, slots := 0, locals := 0 } : Room)).slots := ⟨Nat.zero_le _, Nat.zero_le _⟩
  have hin8 : ∀ w ∈ wsX80, w ∈ wsX8_see := fun w h => List.mem_cons_of_mem _ (List.mem_append_right _ (h))
  refine lv_iload_n (pc := 0) E.1 E.2 dX8_see_0 rfl (lv_at hl 1 rfl) ?_
  refine lv_aload_n (pc := 1) E.1 E.2 dX8_see_1 rfl (lv_at hl 0 rfl) ?_
  refine g8_7 (pc := 2) E hts hin8 hown hK hM.1 (hts _ (List.mem_of_getElem? (i := 1) rfl)) dX8_see_2 ?_
  refine z_icmp_ge (pc := 5) (tgt := 17) E ⟨by omega, by omega⟩ ⟨by omega, by omega⟩ dX8_see_5 (by decide) (fun h5 => ?_) (fun h5 => ?_)
  · refine z_iconst (pc := 17) E dX8_see_17 ?_
    exact z_retRi E hr (congrArg iI (by (have q := see_v β (μ 7) k; omega))) hlocks dX8_see_18
  · refine lv_aload_n (pc := 8) E.1 E.2 dX8_see_8 rfl (lv_at hl 0 rfl) ?_
    refine g8_5 (pc := 9) E hts hin8 hown hK hM.1 (hts _ (List.mem_of_getElem? (i := 2) rfl)) dX8_see_9 ?_
    refine lv_iload_n (pc := 12) E.1 E.2 dX8_see_12 rfl (lv_at hl 1 rfl) ?_
    refine z_iaload (pc := 13) E hK hM.2.2.2.2.1 ⟨by omega, by omega⟩ (by decide) dX8_see_13 ?_
    refine lv_goto (pc := 14) (tgt := 18) E.1 E.2 dX8_see_14 (by decide) ?_
    exact z_retRi E hr (congrArg iI (by (have q := see_v β (μ 7) k; omega))) hlocks dX8_see_18
set_option maxHeartbeats 1000000 in
set_option maxRecDepth 100000 in
theorem mX8_isLetter (lL : Launch) (G : GG) (c : Int) (hc : -2147483648 ≤ c ∧ c < 2147483648) : Met lL yX8_isLetter wsX8_isLetter ({ frames := 1, cells := 0, slots := 0, locals := 25 } : Room) (va_Pc [.int (iI c)] (fun U => True ∧ KK G U)) (vp_Si (fun r => r = (iI (if 97 ≤ c ∧ c ≤ 122 then 1 else 0)))) 0 0 (fun _ => False) := by
  refine z_met (P := (fun H : Heap => True)) (by decide) rfl (Nat.le_of_ble_eq_true rfl) (fun pp ee ss mm below meth cC E hr hml hown hts hlocks hM hK ls hl => ?_)
  have hl : lv_has ls 1 [(0, .int (iI c))] := hl
  have hcs : 0 ≤ (({ frames := 1, cells := 0, slots := 0, locals := 25 } : Room)).cells ∧ 0 ≤ (({ frames := 1, cells := 0, slots := 0, locals := 25 } : Room)).slots := ⟨Nat.zero_le _, Nat.zero_le _⟩
  refine lv_iload_n (pc := 0) E.1 E.2 dX8_isLetter_0 rfl (lv_at hl 0 rfl) ?_
  refine z_i2l (pc := 1) E ⟨by omega, by omega⟩ dX8_isLetter_1 ?_
  refine lv_ldc2 (pc := 2) (v := iL (97)) E.1 E.2 hown (show (Jvm.Cond.constantLong RX8 55 (iL (97))).before _ ss = true from (hts _ (List.mem_of_getElem? (i := 1) rfl))) dX8_isLetter_2 ?_
  refine lv_ldc2 (pc := 5) (v := iL (122)) E.1 E.2 hown (show (Jvm.Cond.constantLong RX8 57 (iL (122))).before _ ss = true from (hts _ (List.mem_of_getElem? (i := 2) rfl))) dX8_isLetter_5 ?_
  refine z_rSi (pc := 8) (P := fun _ => True) (As := [.long (iL c), .long (iL 97), .long (iL 122)]) (rest := []) E hml hown hts (mX8_isIn lL G c 97 122 ⟨by omega, by omega⟩ ⟨by omega, by omega⟩ ⟨by omega, by omega⟩) (va_cwS 3 hts gX8_isLetter_X8_isIn rfl rfl rfl vdX8_isIn.2 ⟨Nat.le_of_ble_eq_true rfl, Nat.le_of_ble_eq_true rfl⟩) trivial hK rfl hl.1 rfl dX8_isLetter_8 hcs (Nat.le_of_ble_eq_true rfl) ?_
  exact z_retRz E hr (z_nb _) rfl hlocks dX8_isLetter_11
set_option maxHeartbeats 1000000 in
set_option maxRecDepth 100000 in
theorem mX8_isDigit (lL : Launch) (G : GG) (c : Int) (hc : -2147483648 ≤ c ∧ c < 2147483648) : Met lL yX8_isDigit wsX8_isDigit ({ frames := 1, cells := 0, slots := 0, locals := 25 } : Room) (va_Pc [.int (iI c)] (fun U => True ∧ KK G U)) (vp_Si (fun r => r = (iI (if 48 ≤ c ∧ c ≤ 57 then 1 else 0)))) 0 0 (fun _ => False) := by
  refine z_met (P := (fun H : Heap => True)) (by decide) rfl (Nat.le_of_ble_eq_true rfl) (fun pp ee ss mm below meth cC E hr hml hown hts hlocks hM hK ls hl => ?_)
  have hl : lv_has ls 1 [(0, .int (iI c))] := hl
  have hcs : 0 ≤ (({ frames := 1, cells := 0, slots := 0, locals := 25 } : Room)).cells ∧ 0 ≤ (({ frames := 1, cells := 0, slots := 0, locals := 25 } : Room)).slots := ⟨Nat.zero_le _, Nat.zero_le _⟩
  refine lv_iload_n (pc := 0) E.1 E.2 dX8_isDigit_0 rfl (lv_at hl 0 rfl) ?_
  refine z_i2l (pc := 1) E ⟨by omega, by omega⟩ dX8_isDigit_1 ?_
  refine lv_ldc2 (pc := 2) (v := iL (48)) E.1 E.2 hown (show (Jvm.Cond.constantLong RX8 63 (iL (48))).before _ ss = true from (hts _ (List.mem_of_getElem? (i := 1) rfl))) dX8_isDigit_2 ?_
  refine lv_ldc2 (pc := 5) (v := iL (57)) E.1 E.2 hown (show (Jvm.Cond.constantLong RX8 65 (iL (57))).before _ ss = true from (hts _ (List.mem_of_getElem? (i := 2) rfl))) dX8_isDigit_5 ?_
  refine z_rSi (pc := 8) (P := fun _ => True) (As := [.long (iL c), .long (iL 48), .long (iL 57)]) (rest := []) E hml hown hts (mX8_isIn lL G c 48 57 ⟨by omega, by omega⟩ ⟨by omega, by omega⟩ ⟨by omega, by omega⟩) (va_cwS 3 hts gX8_isDigit_X8_isIn rfl rfl rfl vdX8_isIn.2 ⟨Nat.le_of_ble_eq_true rfl, Nat.le_of_ble_eq_true rfl⟩) trivial hK rfl hl.1 rfl dX8_isDigit_8 hcs (Nat.le_of_ble_eq_true rfl) ?_
  exact z_retRz E hr (z_nb _) rfl hlocks dX8_isDigit_11
set_option maxHeartbeats 1000000 in
set_option maxRecDepth 100000 in
theorem mX8_next0 (lL : Launch) (G : GG) (o : Nat → Nat) (μ σ φ κ β ω : Int → Int) (hb : TX β) (hn : 0 ≤ μ 7 ∧ μ 7 ≤ 900) (hc : 0 ≤ μ 9 ∧ μ 9 ≤ μ 7) : Met lL yX8_next wsX8_next ({ frames := 2, cells := 0, slots := 0, locals := 45 } : Room) (va_Pc [.ref (o 0)] (fun U => W8 G o (mV o μ) σ φ κ β ω U.heap ∧ KK G U)) (va_Qv (fun _ : Unit => True) (fun _ tZ => ∃ (μ1 : Int → Int), W8 G o (mV o μ1) σ φ κ β ω tZ.heap ∧ (KQ μ1 μ) ∧ (μ1 12 = μ 12) ∧ (μ1 13 = μ 13) ∧ (TK β (μ 7) μ1 (μ 9)) ∧ (-9223372036854775808 ≤ μ1 15 ∧ μ1 15 < 9223372036854775808)) (Ax o 6)) 0 0 (Ax o 6) := by
  refine z_met (P := (fun H : Heap => W8 G o (mV o μ) σ φ κ β ω H)) (by decide) rfl (Nat.le_of_ble_eq_true rfl) (fun pp ee ss mm below meth cC E hr hml hown hts hlocks hM hK ls hl => ?_)
  have hl : lv_has ls 1 [(0, .ref (o 0))] := hl
  have hcs : 0 ≤ (({ frames := 2, cells := 0, slots := 0, locals := 45 } : Room)).cells ∧ 0 ≤ (({ frames := 2, cells := 0, slots := 0, locals := 45 } : Room)).slots := ⟨Nat.zero_le _, Nat.zero_le _⟩
  have hS : va_S (Ax o 6) ss.heap ss.heap [] := va_S.rf
  have hin8 : ∀ w ∈ wsX80, w ∈ wsX8_next := fun w h => List.mem_cons_of_mem _ (List.mem_append_right _ (h))
  have hn1 : μ 7 ≤ 900 := hn.2
  have hn0 : 0 ≤ μ 7 := hn.1
  refine lv_aload_n (pc := 0) E.1 E.2 dX8_next_0 rfl (lv_at hl 0 rfl) ?_
  refine lv_aload_n (pc := 1) E.1 E.2 dX8_next_1 rfl (lv_at hl 0 rfl) ?_
  refine g8_9 (pc := 2) E hts hin8 hown hK hM.1 (hts _ (List.mem_of_getElem? (i := 1) rfl)) dX8_next_2 ?_
  refine p8_8 (pc := 5) E hts hin8 hown hK hM.1 hS (Ax.at 0 (by decide)) (hts _ (List.mem_of_getElem? (i := 2) rfl)) dX8_next_5 (fun H locs hnew hoth hS => ?_)
  have hM := W8.p hM hnew (fun a _ h => hoth a h)
  suffices L8 : ∀ (nf : Nat), ∀  (p : Int), (μ 9 ≤ p ∧ p ≤ μ 7) → (rn β (μ 7) 32 32 p = sk β (μ 7) (μ 9)) → ((μ 7 - p).toNat) < nf → ∀  (H : Heap) (locs : List Loc), W8 G o [.ref (o 1), .ref (o 2), .ref (o 3), .int (iI (μ 3)), .int (iI (μ 4)), .ref (o 4), .int (iI (μ 6)), .int (iI (μ 7)), .int (iI p), .int (iI (μ 9)), .int (iI (μ 10)), .int (iI (μ 11)), .int (iI (μ 12)), .int (iI (μ 13)), .int (iI (μ 14)), .long (iL (μ 15)), .ref (o 5), .int (iI (μ 17))] σ φ κ β ω H → va_S (Ax o 6) ss.heap H locs → ∀ ls : Array Slot, lv_has ls 1 [(0, .ref (o 0))] → W pp lL ee ({ frames := 2, cells := 0, slots := 0, locals := 45 } : Room) ss mm [.ref (o 0)].toArray below meth cC H locs 0 0 (MQ below (va_Qv (fun _ : Unit => True) (fun _ tZ => ∃ (μ1 : Int → Int), W8 G o (mV o μ1) σ φ κ β ω tZ.heap ∧ (KQ μ1 μ) ∧ (μ1 12 = μ 12) ∧ (μ1 13 = μ 13) ∧ (TK β (μ 7) μ1 (μ 9)) ∧ (-9223372036854775808 ≤ μ1 15 ∧ μ1 15 < 9223372036854775808)) (Ax o 6)) [.ref (o 0)].toArray ss 0 0 (Ax o 6)) (F0 mm 8 ls []) from L8 _  (μ 9) (by omega) rfl (Nat.lt_succ_self _)  _ _ hM hS ls (lv_sub hl [0] rfl)
  intro nfL8
  induction nfL8 with
  | zero => intro  p hp hes hmzL8; exact absurd hmzL8 (Nat.not_lt_zero _)
  | succ nfL8 ihL8 =>
    intro  p hp hes hmzL8  H locs hM hS ls hl
    refine lv_aload_n (pc := 8) E.1 E.2 dX8_next_8 rfl (lv_at hl 0 rfl) ?_
    refine lv_aload_n (pc := 9) E.1 E.2 dX8_next_9 rfl (lv_at hl 0 rfl) ?_
    refine g8_8 (pc := 10) E hts hin8 hown hK hM.1 (hts _ (List.mem_of_getElem? (i := 2) rfl)) dX8_next_10 ?_
    refine z_rVi (pc := 13) (As := [.int (iI p)]) (rest := []) E hml hown hts (mX8_see lL G o (zu (zu μ 8 (μ 9)) 8 p) σ φ κ β ω p (by omega) (by simpa only [zu, Int.reduceEq, reduceIte] using hn1) (by simpa only [zu, Int.reduceEq, reduceIte] using hn0)) (cwV 1 hts gX8_next_X8_see rfl rfl rfl vdX8_see ⟨Nat.le_of_ble_eq_true rfl, Nat.le_of_ble_eq_true rfl⟩) (oB.recv hK hM.1 rfl) (W8.mu hM (by simp only [mV, zu, Int.reduceEq, reduceIte])) hK rfl hl.1 rfl dX8_next_13 hcs (Nat.le_of_ble_eq_true rfl) ?_
    rw [show see β ((zu (zu μ 8 (μ 9)) 8 p) 7) p = see β (μ 7) p from by simp only [zu, Int.reduceEq, reduceIte]]
    have hv13 := see_v β (μ 7) p
    have hbp := see_b hb (show 0 ≤ p by omega) hn1
    refine z_bipush (pc := 16) E (by decide) dX8_next_16 ?_
    refine z_icmp_ne (pc := 18) (tgt := 34) E ⟨by omega, by omega⟩ (by decide) dX8_next_18 (by decide) (fun h18 => ?_) (fun h18 => ?_)
    · have hep : p = sk β (μ 7) (μ 9) := by rw [← hes, rn_e (by omega)]
      refine lv_aload_n (pc := 34) E.1 E.2 dX8_next_34 rfl (lv_at hl 0 rfl) ?_
      refine lv_aload_n (pc := 35) E.1 E.2 dX8_next_35 rfl (lv_at hl 0 rfl) ?_
      refine g8_8 (pc := 36) E hts hin8 hown hK hM.1 (hts _ (List.mem_of_getElem? (i := 2) rfl)) dX8_next_36 ?_
      refine p8_9 (pc := 39) E hts hin8 hown hK hM.1 hS (Ax.at 0 (by decide)) (hts _ (List.mem_of_getElem? (i := 1) rfl)) dX8_next_39 (fun H locs hnew hoth hS => ?_)
      have hM := W8.p hM hnew (fun a _ h => hoth a h)
      refine lv_aload_n (pc := 42) E.1 E.2 dX8_next_42 rfl (lv_at hl 0 rfl) ?_
      refine z_lconst (pc := 43) (v := 0) E (by decide) dX8_next_43 ?_
      refine p8_15 (pc := 44) E hts hin8 hown hK hM.1 hS (Ax.at 0 (by decide)) (hts _ (List.mem_of_getElem? (i := 3) rfl)) dX8_next_44 (fun H locs hnew hoth hS => ?_)
      have hM := W8.p hM hnew (fun a _ h => hoth a h)
      refine lv_aload_n (pc := 47) E.1 E.2 dX8_next_47 rfl (lv_at hl 0 rfl) ?_
      refine g8_8 (pc := 48) E hts hin8 hown hK hM.1 (hts _ (List.mem_of_getElem? (i := 2) rfl)) dX8_next_48 ?_
      refine lv_aload_n (pc := 51) E.1 E.2 dX8_next_51 rfl (lv_at hl 0 rfl) ?_
      refine g8_7 (pc := 52) E hts hin8 hown hK hM.1 (hts _ (List.mem_of_getElem? (i := 4) rfl)) dX8_next_52 ?_
      refine z_icmp_lt (pc := 55) (tgt := 66) E ⟨by omega, by omega⟩ ⟨by omega, by omega⟩ dX8_next_55 (by decide) (fun h55 => ?_) (fun h55 => ?_)
      · refine lv_aload_n (pc := 66) E.1 E.2 dX8_next_66 rfl (lv_at hl 0 rfl) ?_
        refine lv_aload_n (pc := 67) E.1 E.2 dX8_next_67 rfl (lv_at hl 0 rfl) ?_
        refine g8_8 (pc := 68) E hts hin8 hown hK hM.1 (hts _ (List.mem_of_getElem? (i := 2) rfl)) dX8_next_68 ?_
        refine z_rVi (pc := 71) (As := [.int (iI p)]) (rest := []) E hml hown hts (mX8_see lL G o (zu (zu (zu (zu μ 8 (μ 9)) 8 p) 9 p) 15 0) σ φ κ β ω p (by omega) (by simpa only [zu, Int.reduceEq, reduceIte] using hn1) (by simpa only [zu, Int.reduceEq, reduceIte] using hn0)) (cwV 1 hts gX8_next_X8_see rfl rfl rfl vdX8_see ⟨Nat.le_of_ble_eq_true rfl, Nat.le_of_ble_eq_true rfl⟩) (oB.recv hK hM.1 rfl) (W8.mu hM (by simp only [mV, zu, Int.reduceEq, reduceIte])) hK rfl hl.1 rfl dX8_next_71 hcs (Nat.le_of_ble_eq_true rfl) ?_
        rw [show see β ((zu (zu (zu (zu μ 8 (μ 9)) 8 p) 9 p) 15 0) 7) p = see β (μ 7) p from by simp only [zu, Int.reduceEq, reduceIte]]
        have hv71 := see_v β (μ 7) p
        have hbp := see_b hb (show 0 ≤ p by omega) hn1
        refine z_rSi (pc := 74) (P := fun _ => True) (As := [.int (iI (see β (μ 7) p))]) (rest := []) E hml hown hts (mX8_isLetter lL G (see β (μ 7) p) ⟨by omega, by omega⟩) (va_cwS 1 hts gX8_next_X8_isLetter rfl rfl rfl vdX8_isLetter.2 ⟨Nat.le_of_ble_eq_true rfl, Nat.le_of_ble_eq_true rfl⟩) trivial hK rfl hl.1 rfl dX8_next_74 hcs (Nat.le_of_ble_eq_true rfl) ?_
        refine z_ifb_eq (pc := 77) (tgt := 154) E dX8_next_77 (by decide) (fun h77 => ?_) (fun h77 => ?_)
        · refine lv_aload_n (pc := 154) E.1 E.2 dX8_next_154 rfl (lv_at hl 0 rfl) ?_
          refine lv_aload_n (pc := 155) E.1 E.2 dX8_next_155 rfl (lv_at hl 0 rfl) ?_
          refine g8_8 (pc := 156) E hts hin8 hown hK hM.1 (hts _ (List.mem_of_getElem? (i := 2) rfl)) dX8_next_156 ?_
          refine z_rVi (pc := 159) (As := [.int (iI p)]) (rest := []) E hml hown hts (mX8_see lL G o (zu (zu (zu (zu μ 8 (μ 9)) 8 p) 9 p) 15 0) σ φ κ β ω p (by omega) (by simpa only [zu, Int.reduceEq, reduceIte] using hn1) (by simpa only [zu, Int.reduceEq, reduceIte] using hn0)) (cwV 1 hts gX8_next_X8_see rfl rfl rfl vdX8_see ⟨Nat.le_of_ble_eq_true rfl, Nat.le_of_ble_eq_true rfl⟩) (oB.recv hK hM.1 rfl) (W8.mu hM (by simp only [mV, zu, Int.reduceEq, reduceIte])) hK rfl hl.1 rfl dX8_next_159 hcs (Nat.le_of_ble_eq_true rfl) ?_
          rw [show see β ((zu (zu (zu (zu μ 8 (μ 9)) 8 p) 9 p) 15 0) 7) p = see β (μ 7) p from by simp only [zu, Int.reduceEq, reduceIte]]
          have hv159 := see_v β (μ 7) p
          have hbq := see_b hb (show 0 ≤ p by omega) hn1
          refine z_rSi (pc := 162) (P := fun _ => True) (As := [.int (iI (see β (μ 7) p))]) (rest := []) E hml hown hts (mX8_isDigit lL G (see β (μ 7) p) ⟨by omega, by omega⟩) (va_cwS 1 hts gX8_next_X8_isDigit rfl rfl rfl vdX8_isDigit.2 ⟨Nat.le_of_ble_eq_true rfl, Nat.le_of_ble_eq_true rfl⟩) trivial hK rfl hl.1 rfl dX8_next_162 hcs (Nat.le_of_ble_eq_true rfl) ?_
          refine z_ifb_eq (pc := 165) (tgt := 240) E dX8_next_165 (by decide) (fun h165 => ?_) (fun h165 => ?_)
          · refine lv_aload_n (pc := 240) E.1 E.2 dX8_next_240 rfl (lv_at hl 0 rfl) ?_
            refine lv_dup (pc := 241) E.1 E.2 dX8_next_241 rfl ?_
            refine g8_9 (pc := 242) E hts hin8 hown hK hM.1 (hts _ (List.mem_of_getElem? (i := 1) rfl)) dX8_next_242 ?_
            refine z_iconst (pc := 245) E dX8_next_245 ?_
            refine z_iadd (pc := 246) E dX8_next_246 ?_
            refine p8_9 (pc := 247) E hts hin8 hown hK hM.1 hS (Ax.at 0 (by decide)) (hts _ (List.mem_of_getElem? (i := 1) rfl)) dX8_next_247 (fun H locs hnew hoth hS => ?_)
            have hM := W8.p hM hnew (fun a _ h => hoth a h)
            refine lv_aload_n (pc := 250) E.1 E.2 dX8_next_250 rfl (lv_at hl 0 rfl) ?_
            refine z_iconst (pc := 251) E dX8_next_251 ?_
            refine p8_10 (pc := 252) E hts hin8 hown hK hM.1 hS (Ax.at 0 (by decide)) (hts _ (List.mem_of_getElem? (i := 5) rfl)) dX8_next_252 (fun H locs hnew hoth hS => ?_)
            have hM := W8.p hM hnew (fun a _ h => hoth a h)
            exact z_retWv (P1 := fun H9 : Heap => ∃ (μ1 : Int → Int), W8 G o (mV o μ1) σ φ κ β ω H9 ∧ (KQ μ1 μ) ∧ (μ1 12 = μ 12) ∧ (μ1 13 = μ 13) ∧ (TK β (μ 7) μ1 (μ 9)) ∧ (-9223372036854775808 ≤ μ1 15 ∧ μ1 15 < 9223372036854775808)) E hr ⟨(zu (zu (zu (zu (zu (zu μ 8 (μ 9)) 8 p) 9 p) 15 0) 9 (p + 1)) 10 2), (W8.mu hM (by simp only [mV, zu, Int.reduceEq, reduceIte])), (by refine ⟨?_, ?_, ?_, ?_, ?_, ?_⟩ <;> simp only [zu, Int.reduceEq, reduceIte]), (by simp only [zu, Int.reduceEq, reduceIte]), (by simp only [zu, Int.reduceEq, reduceIte]), (TKmk (p := p) (i := p + 1) (k := 2) (y := 0) (v := μ 11) (by simp only [zu, Int.reduceEq, reduceIte]) (by simp only [zu, Int.reduceEq, reduceIte]) (by simp only [zu, Int.reduceEq, reduceIte]) (by simp only [zu, Int.reduceEq, reduceIte]) (by simp only [zu, Int.reduceEq, reduceIte]) (by simp only [zu, Int.reduceEq, reduceIte]) ⟨by omega, by omega⟩ (by omega) hep (tk2 hep (by omega) (by omega) (by omega))), (by simp only [zu, Int.reduceEq, reduceIte]; exact ⟨by decide, by decide⟩)⟩ hS hlocks dX8_next_255
          · refine lv_aload_n (pc := 168) E.1 E.2 dX8_next_168 rfl (lv_at hl 0 rfl) ?_
            refine z_iconst (pc := 169) E dX8_next_169 ?_
            refine p8_11 (pc := 170) E hts hin8 hown hK hM.1 hS (Ax.at 0 (by decide)) (hts _ (List.mem_of_getElem? (i := 6) rfl)) dX8_next_170 (fun H locs hnew hoth hS => ?_)
            have hM := W8.p hM hnew (fun a _ h => hoth a h)
            suffices L173 : ∀ (nf : Nat), ∀  (i : Int) (v : Int), (p ≤ i ∧ i ≤ μ 7) → (rn β (μ 7) 48 57 i = rn β (μ 7) 48 57 p) → (v = nv β p (i - p).toNat) → ((μ 7 - i).toNat) < nf → ∀  (H : Heap) (locs : List Loc), W8 G o [.ref (o 1), .ref (o 2), .ref (o 3), .int (iI (μ 3)), .int (iI (μ 4)), .ref (o 4), .int (iI (μ 6)), .int (iI (μ 7)), .int (iI p), .int (iI i), .int (iI (μ 10)), .int (iI v), .int (iI (μ 12)), .int (iI (μ 13)), .int (iI (μ 14)), .long (iL 0), .ref (o 5), .int (iI (μ 17))] σ φ κ β ω H → va_S (Ax o 6) ss.heap H locs → ∀ ls : Array Slot, lv_has ls 1 [(0, .ref (o 0))] → W pp lL ee ({ frames := 2, cells := 0, slots := 0, locals := 45 } : Room) ss mm [.ref (o 0)].toArray below meth cC H locs 0 0 (MQ below (va_Qv (fun _ : Unit => True) (fun _ tZ => ∃ (μ1 : Int → Int), W8 G o (mV o μ1) σ φ κ β ω tZ.heap ∧ (KQ μ1 μ) ∧ (μ1 12 = μ 12) ∧ (μ1 13 = μ 13) ∧ (TK β (μ 7) μ1 (μ 9)) ∧ (-9223372036854775808 ≤ μ1 15 ∧ μ1 15 < 9223372036854775808)) (Ax o 6)) [.ref (o 0)].toArray ss 0 0 (Ax o 6)) (F0 mm 173 ls []) from L173 _  p 0 (by omega) rfl (by rw [show (p - p).toNat = 0 by omega]; rfl) (Nat.lt_succ_self _)  _ _ hM hS ls (lv_sub hl [0] rfl)
            intro nfL173
            induction nfL173 with
            | zero => intro  i v hi hei hv hmzL173; exact absurd hmzL173 (Nat.not_lt_zero _)
            | succ nfL173 ihL173 =>
              intro  i v hi hei hv hmzL173  H locs hM hS ls hl
              have hrr := rn_b β 48 57 hi.2
              have hvb : 0 ≤ v ∧ v ≤ 9999999 := by rw [hv]; exact nv_b _ (fun j j0 j1 => rn_in (n := μ 7) j0 (by omega))
              refine lv_aload_n (pc := 173) E.1 E.2 dX8_next_173 rfl (lv_at hl 0 rfl) ?_
              refine lv_aload_n (pc := 174) E.1 E.2 dX8_next_174 rfl (lv_at hl 0 rfl) ?_
              refine g8_9 (pc := 175) E hts hin8 hown hK hM.1 (hts _ (List.mem_of_getElem? (i := 1) rfl)) dX8_next_175 ?_
              refine z_rVi (pc := 178) (As := [.int (iI i)]) (rest := []) E hml hown hts (mX8_see lL G o (zu (zu (zu (zu (zu (zu (zu μ 8 (μ 9)) 8 p) 9 p) 15 0) 11 0) 9 i) 11 v) σ φ κ β ω i (by omega) (by simpa only [zu, Int.reduceEq, reduceIte] using hn1) (by simpa only [zu, Int.reduceEq, reduceIte] using hn0)) (cwV 1 hts gX8_next_X8_see rfl rfl rfl vdX8_see ⟨Nat.le_of_ble_eq_true rfl, Nat.le_of_ble_eq_true rfl⟩) (oB.recv hK hM.1 rfl) (W8.mu hM (by simp only [mV, zu, Int.reduceEq, reduceIte])) hK rfl hl.1 rfl dX8_next_178 hcs (Nat.le_of_ble_eq_true rfl) ?_
              rw [show see β ((zu (zu (zu (zu (zu (zu (zu μ 8 (μ 9)) 8 p) 9 p) 15 0) 11 0) 9 i) 11 v) 7) i = see β (μ 7) i from by simp only [zu, Int.reduceEq, reduceIte]]
              have hv178 := see_v β (μ 7) i
              have hbi := see_b hb (show 0 ≤ i by omega) hn1
              refine z_rSi (pc := 181) (P := fun _ => True) (As := [.int (iI (see β (μ 7) i))]) (rest := []) E hml hown hts (mX8_isDigit lL G (see β (μ 7) i) ⟨by omega, by omega⟩) (va_cwS 1 hts gX8_next_X8_isDigit rfl rfl rfl vdX8_isDigit.2 ⟨Nat.le_of_ble_eq_true rfl, Nat.le_of_ble_eq_true rfl⟩) trivial hK rfl hl.1 rfl dX8_next_181 hcs (Nat.le_of_ble_eq_true rfl) ?_
              refine z_ifb_eq (pc := 184) (tgt := 232) E dX8_next_184 (by decide) (fun h184 => ?_) (fun h184 => ?_)
              · refine lv_aload_n (pc := 232) E.1 E.2 dX8_next_232 rfl (lv_at hl 0 rfl) ?_
                refine z_iconst (pc := 233) E dX8_next_233 ?_
                refine p8_10 (pc := 234) E hts hin8 hown hK hM.1 hS (Ax.at 0 (by decide)) (hts _ (List.mem_of_getElem? (i := 5) rfl)) dX8_next_234 (fun H locs hnew hoth hS => ?_)
                have hM := W8.p hM hnew (fun a _ h => hoth a h)
                refine lv_goto (pc := 237) (tgt := 255) E.1 E.2 dX8_next_237 (by decide) ?_
                exact z_retWv (P1 := fun H9 : Heap => ∃ (μ1 : Int → Int), W8 G o (mV o μ1) σ φ κ β ω H9 ∧ (KQ μ1 μ) ∧ (μ1 12 = μ 12) ∧ (μ1 13 = μ 13) ∧ (TK β (μ 7) μ1 (μ 9)) ∧ (-9223372036854775808 ≤ μ1 15 ∧ μ1 15 < 9223372036854775808)) E hr ⟨(zu (zu (zu (zu (zu (zu (zu (zu μ 8 (μ 9)) 8 p) 9 p) 15 0) 11 0) 9 i) 11 v) 10 1), (W8.mu hM (by simp only [mV, zu, Int.reduceEq, reduceIte])), (by refine ⟨?_, ?_, ?_, ?_, ?_, ?_⟩ <;> simp only [zu, Int.reduceEq, reduceIte]), (by simp only [zu, Int.reduceEq, reduceIte]), (by simp only [zu, Int.reduceEq, reduceIte]), (TKmk (p := p) (i := i) (k := 1) (y := 0) (v := v) (by simp only [zu, Int.reduceEq, reduceIte]) (by simp only [zu, Int.reduceEq, reduceIte]) (by simp only [zu, Int.reduceEq, reduceIte]) (by simp only [zu, Int.reduceEq, reduceIte]) (by simp only [zu, Int.reduceEq, reduceIte]) (by simp only [zu, Int.reduceEq, reduceIte]) ⟨by omega, by omega⟩ (by omega) hep (tk1 hep (by omega) (by omega) hei (by omega) hv)), (by simp only [zu, Int.reduceEq, reduceIte]; exact ⟨by decide, by decide⟩)⟩ hS hlocks dX8_next_255
              · refine lv_aload_n (pc := 187) E.1 E.2 dX8_next_187 rfl (lv_at hl 0 rfl) ?_
                refine g8_11 (pc := 188) E hts hin8 hown hK hM.1 (hts _ (List.mem_of_getElem? (i := 6) rfl)) dX8_next_188 ?_
                refine lv_ldc (pc := 191) (v := iI (1000000)) E.1 E.2 hown (show (Jvm.Cond.constant RX8 94 (iI (1000000))).before _ ss = true from (hts _ (List.mem_of_getElem? (i := 7) rfl))) dX8_next_191 ?_
                refine z_icmp_ge (pc := 193) (tgt := 219) E ⟨by omega, by omega⟩ (by decide) dX8_next_193 (by decide) (fun h193 => ?_) (fun h193 => ?_)
                · refine lv_aload_n (pc := 219) E.1 E.2 dX8_next_219 rfl (lv_at hl 0 rfl) ?_
                  refine lv_dup (pc := 220) E.1 E.2 dX8_next_220 rfl ?_
                  refine g8_9 (pc := 221) E hts hin8 hown hK hM.1 (hts _ (List.mem_of_getElem? (i := 1) rfl)) dX8_next_221 ?_
                  refine z_iconst (pc := 224) E dX8_next_224 ?_
                  refine z_iadd (pc := 225) E dX8_next_225 ?_
                  refine p8_9 (pc := 226) E hts hin8 hown hK hM.1 hS (Ax.at 0 (by decide)) (hts _ (List.mem_of_getElem? (i := 1) rfl)) dX8_next_226 (fun H locs hnew hoth hS => ?_)
                  have hM := W8.p hM hnew (fun a _ h => hoth a h)
                  refine lv_goto (pc := 229) (tgt := 173) E.1 E.2 dX8_next_229 (by decide) ?_
                  exact ihL173  (i + 1) v (by omega) (by rw [← hei, rn_s (i := i) (by omega)]) (by first | (have e := nv_s hi.1 hv (by omega); omega) | exact nv_n hi.1 hv (by omega)) (by omega)  _ _ hM hS ls (lv_sub hl [0] rfl)
                · refine lv_aload_n (pc := 196) E.1 E.2 dX8_next_196 rfl (lv_at hl 0 rfl) ?_
                  refine z_bipush (pc := 197) E (by decide) dX8_next_197 ?_
                  refine lv_aload_n (pc := 199) E.1 E.2 dX8_next_199 rfl (lv_at hl 0 rfl) ?_
                  refine g8_11 (pc := 200) E hts hin8 hown hK hM.1 (hts _ (List.mem_of_getElem? (i := 6) rfl)) dX8_next_200 ?_
                  refine z_imul (pc := 203) E dX8_next_203 ?_
                  refine lv_aload_n (pc := 204) E.1 E.2 dX8_next_204 rfl (lv_at hl 0 rfl) ?_
                  refine lv_aload_n (pc := 205) E.1 E.2 dX8_next_205 rfl (lv_at hl 0 rfl) ?_
                  refine g8_9 (pc := 206) E hts hin8 hown hK hM.1 (hts _ (List.mem_of_getElem? (i := 1) rfl)) dX8_next_206 ?_
                  refine z_rVi (pc := 209) (As := [.int (iI i)]) (rest := [.int (iI (10 * v)), .ref (o 0)]) E hml hown hts (mX8_see lL G o (zu (zu (zu (zu (zu (zu (zu μ 8 (μ 9)) 8 p) 9 p) 15 0) 11 0) 9 i) 11 v) σ φ κ β ω i (by omega) (by simpa only [zu, Int.reduceEq, reduceIte] using hn1) (by simpa only [zu, Int.reduceEq, reduceIte] using hn0)) (cwV 1 hts gX8_next_X8_see rfl rfl rfl vdX8_see ⟨Nat.le_of_ble_eq_true rfl, Nat.le_of_ble_eq_true rfl⟩) (oB.recv hK hM.1 rfl) (W8.mu hM (by simp only [mV, zu, Int.reduceEq, reduceIte])) hK rfl hl.1 rfl dX8_next_209 hcs (Nat.le_of_ble_eq_true rfl) ?_
                  rw [show see β ((zu (zu (zu (zu (zu (zu (zu μ 8 (μ 9)) 8 p) 9 p) 15 0) 11 0) 9 i) 11 v) 7) i = see β (μ 7) i from by simp only [zu, Int.reduceEq, reduceIte]]
                  have hv209 := see_v β (μ 7) i
                  have hbj := see_b hb (show 0 ≤ i by omega) hn1
                  refine z_iadd (pc := 212) E dX8_next_212 ?_
                  refine z_bipush (pc := 213) E (by decide) dX8_next_213 ?_
                  refine z_isub (pc := 215) E dX8_next_215 ?_
                  refine p8_11 (pc := 216) E hts hin8 hown hK hM.1 hS (Ax.at 0 (by decide)) (hts _ (List.mem_of_getElem? (i := 6) rfl)) dX8_next_216 (fun H locs hnew hoth hS => ?_)
                  have hM := W8.p hM hnew (fun a _ h => hoth a h)
                  refine lv_aload_n (pc := 219) E.1 E.2 dX8_next_219 rfl (lv_at hl 0 rfl) ?_
                  refine lv_dup (pc := 220) E.1 E.2 dX8_next_220 rfl ?_
                  refine g8_9 (pc := 221) E hts hin8 hown hK hM.1 (hts _ (List.mem_of_getElem? (i := 1) rfl)) dX8_next_221 ?_
                  refine z_iconst (pc := 224) E dX8_next_224 ?_
                  refine z_iadd (pc := 225) E dX8_next_225 ?_
                  refine p8_9 (pc := 226) E hts hin8 hown hK hM.1 hS (Ax.at 0 (by decide)) (hts _ (List.mem_of_getElem? (i := 1) rfl)) dX8_next_226 (fun H locs hnew hoth hS => ?_)
                  have hM := W8.p hM hnew (fun a _ h => hoth a h)
                  refine lv_goto (pc := 229) (tgt := 173) E.1 E.2 dX8_next_229 (by decide) ?_
                  exact ihL173  (i + 1) (((10 * v) + (see β (μ 7) i)) - 48) (by omega) (by rw [← hei, rn_s (i := i) (by omega)]) (by first | (have e := nv_s hi.1 hv (by omega); omega) | exact nv_n hi.1 hv (by omega)) (by omega)  _ _ hM hS ls (lv_sub hl [0] rfl)
        · suffices L80 : ∀ (nf : Nat), ∀  (i : Int) (y : Int), (p ≤ i ∧ i ≤ μ 7) → (rn β (μ 7) 97 122 i = rn β (μ 7) 97 122 p) → (y = wv β p (min (i - p) 8).toNat) → ((μ 7 - i).toNat) < nf → ∀  (H : Heap) (locs : List Loc), W8 G o [.ref (o 1), .ref (o 2), .ref (o 3), .int (iI (μ 3)), .int (iI (μ 4)), .ref (o 4), .int (iI (μ 6)), .int (iI (μ 7)), .int (iI p), .int (iI i), .int (iI (μ 10)), .int (iI (μ 11)), .int (iI (μ 12)), .int (iI (μ 13)), .int (iI (μ 14)), .long (iL y), .ref (o 5), .int (iI (μ 17))] σ φ κ β ω H → va_S (Ax o 6) ss.heap H locs → ∀ ls : Array Slot, lv_has ls 1 [(0, .ref (o 0))] → W pp lL ee ({ frames := 2, cells := 0, slots := 0, locals := 45 } : Room) ss mm [.ref (o 0)].toArray below meth cC H locs 0 0 (MQ below (va_Qv (fun _ : Unit => True) (fun _ tZ => ∃ (μ1 : Int → Int), W8 G o (mV o μ1) σ φ κ β ω tZ.heap ∧ (KQ μ1 μ) ∧ (μ1 12 = μ 12) ∧ (μ1 13 = μ 13) ∧ (TK β (μ 7) μ1 (μ 9)) ∧ (-9223372036854775808 ≤ μ1 15 ∧ μ1 15 < 9223372036854775808)) (Ax o 6)) [.ref (o 0)].toArray ss 0 0 (Ax o 6)) (F0 mm 80 ls []) from L80 _  p 0 (by omega) rfl (by rw [show (min (p - p) 8).toNat = 0 by omega]; rfl) (Nat.lt_succ_self _)  _ _ hM hS ls (lv_sub hl [0] rfl)
          intro nfL80
          induction nfL80 with
          | zero => intro  i y hi hei hy hmzL80; exact absurd hmzL80 (Nat.not_lt_zero _)
          | succ nfL80 ihL80 =>
            intro  i y hi hei hy hmzL80  H locs hM hS ls hl
            have hrr := rn_b β 97 122 hi.2
            have hyb : 0 ≤ y ∧ y < 1099511627776 := by rw [hy]; exact wv_r _ (fun j j0 j1 => rn_in (n := μ 7) j0 (by omega)) (by omega)
            refine lv_aload_n (pc := 80) E.1 E.2 dX8_next_80 rfl (lv_at hl 0 rfl) ?_
            refine lv_aload_n (pc := 81) E.1 E.2 dX8_next_81 rfl (lv_at hl 0 rfl) ?_
            refine g8_9 (pc := 82) E hts hin8 hown hK hM.1 (hts _ (List.mem_of_getElem? (i := 1) rfl)) dX8_next_82 ?_
            refine z_rVi (pc := 85) (As := [.int (iI i)]) (rest := []) E hml hown hts (mX8_see lL G o (zu (zu (zu (zu (zu (zu μ 8 (μ 9)) 8 p) 9 p) 15 0) 9 i) 15 y) σ φ κ β ω i (by omega) (by simpa only [zu, Int.reduceEq, reduceIte] using hn1) (by simpa only [zu, Int.reduceEq, reduceIte] using hn0)) (cwV 1 hts gX8_next_X8_see rfl rfl rfl vdX8_see ⟨Nat.le_of_ble_eq_true rfl, Nat.le_of_ble_eq_true rfl⟩) (oB.recv hK hM.1 rfl) (W8.mu hM (by simp only [mV, zu, Int.reduceEq, reduceIte])) hK rfl hl.1 rfl dX8_next_85 hcs (Nat.le_of_ble_eq_true rfl) ?_
            rw [show see β ((zu (zu (zu (zu (zu (zu μ 8 (μ 9)) 8 p) 9 p) 15 0) 9 i) 15 y) 7) i = see β (μ 7) i from by simp only [zu, Int.reduceEq, reduceIte]]
            have hv85 := see_v β (μ 7) i
            have hbi := see_b hb (show 0 ≤ i by omega) hn1
            refine z_rSi (pc := 88) (P := fun _ => True) (As := [.int (iI (see β (μ 7) i))]) (rest := []) E hml hown hts (mX8_isLetter lL G (see β (μ 7) i) ⟨by omega, by omega⟩) (va_cwS 1 hts gX8_next_X8_isLetter rfl rfl rfl vdX8_isLetter.2 ⟨Nat.le_of_ble_eq_true rfl, Nat.le_of_ble_eq_true rfl⟩) trivial hK rfl hl.1 rfl dX8_next_88 hcs (Nat.le_of_ble_eq_true rfl) ?_
            refine z_ifb_eq (pc := 91) (tgt := 146) E dX8_next_91 (by decide) (fun h91 => ?_) (fun h91 => ?_)
            · refine lv_aload_n (pc := 146) E.1 E.2 dX8_next_146 rfl (lv_at hl 0 rfl) ?_
              refine z_iconst (pc := 147) E dX8_next_147 ?_
              refine p8_10 (pc := 148) E hts hin8 hown hK hM.1 hS (Ax.at 0 (by decide)) (hts _ (List.mem_of_getElem? (i := 5) rfl)) dX8_next_148 (fun H locs hnew hoth hS => ?_)
              have hM := W8.p hM hnew (fun a _ h => hoth a h)
              refine lv_goto (pc := 151) (tgt := 255) E.1 E.2 dX8_next_151 (by decide) ?_
              exact z_retWv (P1 := fun H9 : Heap => ∃ (μ1 : Int → Int), W8 G o (mV o μ1) σ φ κ β ω H9 ∧ (KQ μ1 μ) ∧ (μ1 12 = μ 12) ∧ (μ1 13 = μ 13) ∧ (TK β (μ 7) μ1 (μ 9)) ∧ (-9223372036854775808 ≤ μ1 15 ∧ μ1 15 < 9223372036854775808)) E hr ⟨(zu (zu (zu (zu (zu (zu (zu μ 8 (μ 9)) 8 p) 9 p) 15 0) 9 i) 15 y) 10 0), (W8.mu hM (by simp only [mV, zu, Int.reduceEq, reduceIte])), (by refine ⟨?_, ?_, ?_, ?_, ?_, ?_⟩ <;> simp only [zu, Int.reduceEq, reduceIte]), (by simp only [zu, Int.reduceEq, reduceIte]), (by simp only [zu, Int.reduceEq, reduceIte]), (TKmk (p := p) (i := i) (k := 0) (y := y) (v := μ 11) (by simp only [zu, Int.reduceEq, reduceIte]) (by simp only [zu, Int.reduceEq, reduceIte]) (by simp only [zu, Int.reduceEq, reduceIte]) (by simp only [zu, Int.reduceEq, reduceIte]) (by simp only [zu, Int.reduceEq, reduceIte]) (by simp only [zu, Int.reduceEq, reduceIte]) ⟨by omega, by omega⟩ (by omega) hep (tk0 hep (by omega) (by omega) hei (by omega) hy)), (by simp only [zu, Int.reduceEq, reduceIte]; exact ⟨by omega, by omega⟩)⟩ hS hlocks dX8_next_255
            · refine lv_aload_n (pc := 94) E.1 E.2 dX8_next_94 rfl (lv_at hl 0 rfl) ?_
              refine g8_9 (pc := 95) E hts hin8 hown hK hM.1 (hts _ (List.mem_of_getElem? (i := 1) rfl)) dX8_next_95 ?_
              refine lv_aload_n (pc := 98) E.1 E.2 dX8_next_98 rfl (lv_at hl 0 rfl) ?_
              refine g8_8 (pc := 99) E hts hin8 hown hK hM.1 (hts _ (List.mem_of_getElem? (i := 2) rfl)) dX8_next_99 ?_
              refine z_isub (pc := 102) E dX8_next_102 ?_
              refine z_bipush (pc := 103) E (by decide) dX8_next_103 ?_
              refine z_icmp_ge (pc := 105) (tgt := 133) E ⟨by omega, by omega⟩ (by decide) dX8_next_105 (by decide) (fun h105 => ?_) (fun h105 => ?_)
              · refine lv_aload_n (pc := 133) E.1 E.2 dX8_next_133 rfl (lv_at hl 0 rfl) ?_
                refine lv_dup (pc := 134) E.1 E.2 dX8_next_134 rfl ?_
                refine g8_9 (pc := 135) E hts hin8 hown hK hM.1 (hts _ (List.mem_of_getElem? (i := 1) rfl)) dX8_next_135 ?_
                refine z_iconst (pc := 138) E dX8_next_138 ?_
                refine z_iadd (pc := 139) E dX8_next_139 ?_
                refine p8_9 (pc := 140) E hts hin8 hown hK hM.1 hS (Ax.at 0 (by decide)) (hts _ (List.mem_of_getElem? (i := 1) rfl)) dX8_next_140 (fun H locs hnew hoth hS => ?_)
                have hM := W8.p hM hnew (fun a _ h => hoth a h)
                refine lv_goto (pc := 143) (tgt := 80) E.1 E.2 dX8_next_143 (by decide) ?_
                exact ihL80  (i + 1) y (by omega) (by rw [← hei, rn_s (i := i) (by omega)]) (by first | (rw [wv_n (by omega)]; exact hy) | (rw [wv_s hi.1 (by omega), ← hy]; omega)) (by omega)  _ _ hM hS ls (lv_sub hl [0] rfl)
              · refine lv_aload_n (pc := 108) E.1 E.2 dX8_next_108 rfl (lv_at hl 0 rfl) ?_
                refine lv_aload_n (pc := 109) E.1 E.2 dX8_next_109 rfl (lv_at hl 0 rfl) ?_
                refine g8_15 (pc := 110) E hts hin8 hown hK hM.1 (hts _ (List.mem_of_getElem? (i := 3) rfl)) dX8_next_110 ?_
                refine z_iconst (pc := 113) E dX8_next_113 ?_
                refine z_lshl5 (pc := 114) E dX8_next_114 ?_
                refine lv_aload_n (pc := 115) E.1 E.2 dX8_next_115 rfl (lv_at hl 0 rfl) ?_
                refine lv_aload_n (pc := 116) E.1 E.2 dX8_next_116 rfl (lv_at hl 0 rfl) ?_
                refine g8_9 (pc := 117) E hts hin8 hown hK hM.1 (hts _ (List.mem_of_getElem? (i := 1) rfl)) dX8_next_117 ?_
                refine z_rVi (pc := 120) (As := [.int (iI i)]) (rest := [.long (iL (y * 32)), .ref (o 0)]) E hml hown hts (mX8_see lL G o (zu (zu (zu (zu (zu (zu μ 8 (μ 9)) 8 p) 9 p) 15 0) 9 i) 15 y) σ φ κ β ω i (by omega) (by simpa only [zu, Int.reduceEq, reduceIte] using hn1) (by simpa only [zu, Int.reduceEq, reduceIte] using hn0)) (cwV 1 hts gX8_next_X8_see rfl rfl rfl vdX8_see ⟨Nat.le_of_ble_eq_true rfl, Nat.le_of_ble_eq_true rfl⟩) (oB.recv hK hM.1 rfl) (W8.mu hM (by simp only [mV, zu, Int.reduceEq, reduceIte])) hK rfl hl.1 rfl dX8_next_120 hcs (Nat.le_of_ble_eq_true rfl) ?_
                rw [show see β ((zu (zu (zu (zu (zu (zu μ 8 (μ 9)) 8 p) 9 p) 15 0) 9 i) 15 y) 7) i = see β (μ 7) i from by simp only [zu, Int.reduceEq, reduceIte]]
                have hv120 := see_v β (μ 7) i
                have hbj := see_b hb (show 0 ≤ i by omega) hn1
                refine z_bipush (pc := 123) E (by decide) dX8_next_123 ?_
                refine z_isub (pc := 125) E dX8_next_125 ?_
                refine z_iconst (pc := 126) E dX8_next_126 ?_
                refine z_iadd (pc := 127) E dX8_next_127 ?_
                refine z_i2l (pc := 128) E ⟨by omega, by omega⟩ dX8_next_128 ?_
                refine z_lor5 (pc := 129) E ⟨by omega, by omega⟩ dX8_next_129 ?_
                refine p8_15 (pc := 130) E hts hin8 hown hK hM.1 hS (Ax.at 0 (by decide)) (hts _ (List.mem_of_getElem? (i := 3) rfl)) dX8_next_130 (fun H locs hnew hoth hS => ?_)
                have hM := W8.p hM hnew (fun a _ h => hoth a h)
                refine lv_aload_n (pc := 133) E.1 E.2 dX8_next_133 rfl (lv_at hl 0 rfl) ?_
                refine lv_dup (pc := 134) E.1 E.2 dX8_next_134 rfl ?_
                refine g8_9 (pc := 135) E hts hin8 hown hK hM.1 (hts _ (List.mem_of_getElem? (i := 1) rfl)) dX8_next_135 ?_
                refine z_iconst (pc := 138) E dX8_next_138 ?_
                refine z_iadd (pc := 139) E dX8_next_139 ?_
                refine p8_9 (pc := 140) E hts hin8 hown hK hM.1 hS (Ax.at 0 (by decide)) (hts _ (List.mem_of_getElem? (i := 1) rfl)) dX8_next_140 (fun H locs hnew hoth hS => ?_)
                have hM := W8.p hM hnew (fun a _ h => hoth a h)
                refine lv_goto (pc := 143) (tgt := 80) E.1 E.2 dX8_next_143 (by decide) ?_
                exact ihL80  (i + 1) (y * 32 + (((see β (μ 7) i) - 97) + 1)) (by omega) (by rw [← hei, rn_s (i := i) (by omega)]) (by first | (rw [wv_n (by omega)]; exact hy) | (rw [wv_s hi.1 (by omega), ← hy]; omega)) (by omega)  _ _ hM hS ls (lv_sub hl [0] rfl)
      · refine lv_aload_n (pc := 58) E.1 E.2 dX8_next_58 rfl (lv_at hl 0 rfl) ?_
        refine z_iconst (pc := 59) E dX8_next_59 ?_
        refine p8_10 (pc := 60) E hts hin8 hown hK hM.1 hS (Ax.at 0 (by decide)) (hts _ (List.mem_of_getElem? (i := 5) rfl)) dX8_next_60 (fun H locs hnew hoth hS => ?_)
        have hM := W8.p hM hnew (fun a _ h => hoth a h)
        refine lv_goto (pc := 63) (tgt := 255) E.1 E.2 dX8_next_63 (by decide) ?_
        exact z_retWv (P1 := fun H9 : Heap => ∃ (μ1 : Int → Int), W8 G o (mV o μ1) σ φ κ β ω H9 ∧ (KQ μ1 μ) ∧ (μ1 12 = μ 12) ∧ (μ1 13 = μ 13) ∧ (TK β (μ 7) μ1 (μ 9)) ∧ (-9223372036854775808 ≤ μ1 15 ∧ μ1 15 < 9223372036854775808)) E hr ⟨(zu (zu (zu (zu (zu μ 8 (μ 9)) 8 p) 9 p) 15 0) 10 3), (W8.mu hM (by simp only [mV, zu, Int.reduceEq, reduceIte])), (by refine ⟨?_, ?_, ?_, ?_, ?_, ?_⟩ <;> simp only [zu, Int.reduceEq, reduceIte]), (by simp only [zu, Int.reduceEq, reduceIte]), (by simp only [zu, Int.reduceEq, reduceIte]), (TKmk (p := p) (i := p) (k := 3) (y := 0) (v := μ 11) (by simp only [zu, Int.reduceEq, reduceIte]) (by simp only [zu, Int.reduceEq, reduceIte]) (by simp only [zu, Int.reduceEq, reduceIte]) (by simp only [zu, Int.reduceEq, reduceIte]) (by simp only [zu, Int.reduceEq, reduceIte]) (by simp only [zu, Int.reduceEq, reduceIte]) ⟨by omega, by omega⟩ (by omega) hep (tk3' hep (by omega))), (by simp only [zu, Int.reduceEq, reduceIte]; exact ⟨by decide, by decide⟩)⟩ hS hlocks dX8_next_255
    · have hpn : p < μ 7 ∧ β p = 32 := by omega
      refine lv_aload_n (pc := 21) E.1 E.2 dX8_next_21 rfl (lv_at hl 0 rfl) ?_
      refine lv_dup (pc := 22) E.1 E.2 dX8_next_22 rfl ?_
      refine g8_8 (pc := 23) E hts hin8 hown hK hM.1 (hts _ (List.mem_of_getElem? (i := 2) rfl)) dX8_next_23 ?_
      refine z_iconst (pc := 26) E dX8_next_26 ?_
      refine z_iadd (pc := 27) E dX8_next_27 ?_
      refine p8_8 (pc := 28) E hts hin8 hown hK hM.1 hS (Ax.at 0 (by decide)) (hts _ (List.mem_of_getElem? (i := 2) rfl)) dX8_next_28 (fun H locs hnew hoth hS => ?_)
      have hM := W8.p hM hnew (fun a _ h => hoth a h)
      refine lv_goto (pc := 31) (tgt := 8) E.1 E.2 dX8_next_31 (by decide) ?_
      exact ihL8  (p + 1) (by omega) (by rw [← hes, rn_s (i := p) (by omega)]) (by omega)  _ _ hM hS ls (lv_sub hl [0] rfl)
theorem mX8_next (lL : Launch) (G : GG) (o : Nat → Nat) (μ σ φ κ β ω : Int → Int) (n : Int) (c : Int) (hb : TX β) (hn : 0 ≤ n ∧ n ≤ 900) (h7 : μ 7 = n) (h9 : μ 9 = c) (hc : 0 ≤ c ∧ c ≤ n) : Met lL yX8_next wsX8_next ({ frames := 2, cells := 0, slots := 0, locals := 45 } : Room) (va_Pc [.ref (o 0)] (fun U => W8 G o (mV o μ) σ φ κ β ω U.heap ∧ KK G U)) (va_Qv (fun _ : Unit => True) (fun _ tZ => ∃ (μ1 : Int → Int), W8 G o (mV o μ1) σ φ κ β ω tZ.heap ∧ (KQ μ1 μ) ∧ (μ1 12 = μ 12) ∧ (μ1 13 = μ 13) ∧ (TK β n μ1 c) ∧ (-9223372036854775808 ≤ μ1 15 ∧ μ1 15 < 9223372036854775808)) (Ax o 6)) 0 0 (Ax o 6) := by subst h7; subst h9; exact mX8_next0 lL G o μ σ φ κ β ω hb hn hc
set_option maxHeartbeats 1000000 in
set_option maxRecDepth 100000 in
theorem mX8_failsZ (lL : Launch) (G : GG) (o : Nat → Nat) (μ σ φ κ β ω : Int → Int) (code : Int) (hcd : ¬ code = 0) (hw : μ 12 = 0) : Met lL yX8_fails wsX8_fails ({ frames := 0, cells := 0, slots := 0, locals := 0 } : Room) (va_Pc [.ref (o 0), .int (iI code)] (fun U => W8 G o (mV o μ) σ φ κ β ω U.heap ∧ KK G U)) (va_Qv (fun _ : Unit => True) (fun _ tZ => ∃ (μ1 : Int → Int), W8 G o (mV o μ1) σ φ κ β ω tZ.heap ∧ (KQ μ1 μ) ∧ (μ1 12 = code) ∧ (μ1 13 = μ 8) ∧ (μ1 15 = μ 15) ∧ (μ1 8 = μ 8) ∧ (μ1 10 = μ 10)) (Ax o 6)) 0 0 (Ax o 6) := by
  refine z_met (P := (fun H : Heap => W8 G o (mV o μ) σ φ κ β ω H)) (by decide) rfl (Nat.le_of_ble_eq_true rfl) (fun pp ee ss mm below meth cC E hr hml hown hts hlocks hM hK ls hl => ?_)
  have hl : lv_has ls 2 [(0, .ref (o 0)), (1, .int (iI code))] := hl
  have hcs : 0 ≤ (({ frames := 0, cells := 0, slots := 0, locals := 0 } : Room)).cells ∧ 0 ≤ (({ frames := 0, cells := 0, slots := 0, locals := 0 } : Room)).slots := ⟨Nat.zero_le _, Nat.zero_le _⟩
  have hS : va_S (Ax o 6) ss.heap ss.heap [] := va_S.rf
  have hin8 : ∀ w ∈ wsX80, w ∈ wsX8_fails := fun w h => List.mem_cons_of_mem _ (List.mem_append_right _ (h))
  refine lv_aload_n (pc := 0) E.1 E.2 dX8_fails_0 rfl (lv_at hl 0 rfl) ?_
  refine g8_12 (pc := 1) E hts hin8 hown hK hM.1 (hts _ (List.mem_of_getElem? (i := 1) rfl)) dX8_fails_1 ?_
  refine z_if_eq (pc := 4) (tgt := 8) E ⟨by omega, by omega⟩ dX8_fails_4 (by decide) (fun h4 => ?_) (fun h4 => ?_)
  · refine lv_aload_n (pc := 8) E.1 E.2 dX8_fails_8 rfl (lv_at hl 0 rfl) ?_
    refine lv_iload_n (pc := 9) E.1 E.2 dX8_fails_9 rfl (lv_at hl 1 rfl) ?_
    refine p8_12 (pc := 10) E hts hin8 hown hK hM.1 hS (Ax.at 0 (by decide)) (hts _ (List.mem_of_getElem? (i := 1) rfl)) dX8_fails_10 (fun H locs hnew hoth hS => ?_)
    have hM := W8.p hM hnew (fun a _ h => hoth a h)
    refine lv_aload_n (pc := 13) E.1 E.2 dX8_fails_13 rfl (lv_at hl 0 rfl) ?_
    refine lv_aload_n (pc := 14) E.1 E.2 dX8_fails_14 rfl (lv_at hl 0 rfl) ?_
    refine g8_8 (pc := 15) E hts hin8 hown hK hM.1 (hts _ (List.mem_of_getElem? (i := 2) rfl)) dX8_fails_15 ?_
    refine p8_13 (pc := 18) E hts hin8 hown hK hM.1 hS (Ax.at 0 (by decide)) (hts _ (List.mem_of_getElem? (i := 3) rfl)) dX8_fails_18 (fun H locs hnew hoth hS => ?_)
    have hM := W8.p hM hnew (fun a _ h => hoth a h)
    exact z_retWv (P1 := fun H9 : Heap => ∃ (μ1 : Int → Int), W8 G o (mV o μ1) σ φ κ β ω H9 ∧ (KQ μ1 μ) ∧ (μ1 12 = code) ∧ (μ1 13 = μ 8) ∧ (μ1 15 = μ 15) ∧ (μ1 8 = μ 8) ∧ (μ1 10 = μ 10)) E hr ⟨(zu (zu μ 12 code) 13 (μ 8)), (W8.mu hM (by simp only [mV, zu, Int.reduceEq, reduceIte])), (by refine ⟨?_, ?_, ?_, ?_, ?_, ?_⟩ <;> simp only [zu, Int.reduceEq, reduceIte]), (by simp only [zu, Int.reduceEq, reduceIte]), (by simp only [zu, Int.reduceEq, reduceIte]), (by simp only [zu, Int.reduceEq, reduceIte]), (by simp only [zu, Int.reduceEq, reduceIte]), (by simp only [zu, Int.reduceEq, reduceIte])⟩ hS hlocks dX8_fails_21
  · exact absurd hw h4
set_option maxHeartbeats 1000000 in
set_option maxRecDepth 100000 in
theorem mX8_failsN (lL : Launch) (G : GG) (o : Nat → Nat) (μ σ φ κ β ω : Int → Int) (code : Int) (h12 : -2147483648 ≤ μ 12 ∧ μ 12 < 2147483648) (hw : ¬ μ 12 = 0) : Met lL yX8_fails wsX8_fails ({ frames := 0, cells := 0, slots := 0, locals := 0 } : Room) (va_Pc [.ref (o 0), .int (iI code)] (fun U => W8 G o (mV o μ) σ φ κ β ω U.heap ∧ KK G U)) zSv 0 0 (fun _ => False) := by
  refine z_met (P := (fun H : Heap => W8 G o (mV o μ) σ φ κ β ω H)) (by decide) rfl (Nat.le_of_ble_eq_true rfl) (fun pp ee ss mm below meth cC E hr hml hown hts hlocks hM hK ls hl => ?_)
  have hl : lv_has ls 2 [(0, .ref (o 0)), (1, .int (iI code))] := hl
  have hcs : 0 ≤ (({ frames := 0, cells := 0, slots := 0, locals := 0 } : Room)).cells ∧ 0 ≤ (({ frames := 0, cells := 0, slots := 0, locals := 0 } : Room)).slots := ⟨Nat.zero_le _, Nat.zero_le _⟩
  have hin8 : ∀ w ∈ wsX80, w ∈ wsX8_fails := fun w h => List.mem_cons_of_mem _ (List.mem_append_right _ (h))
  refine lv_aload_n (pc := 0) E.1 E.2 dX8_fails_0 rfl (lv_at hl 0 rfl) ?_
  refine g8_12 (pc := 1) E hts hin8 hown hK hM.1 (hts _ (List.mem_of_getElem? (i := 1) rfl)) dX8_fails_1 ?_
  refine z_if_eq (pc := 4) (tgt := 8) E ⟨by omega, by omega⟩ dX8_fails_4 (by decide) (fun h4 => ?_) (fun h4 => ?_)
  · exact absurd h4 hw
  · exact z_retRv E hr hlocks dX8_fails_7
set_option maxHeartbeats 1000000 in
set_option maxRecDepth 100000 in
theorem mX8_mustT (lL : Launch) (G : GG) (o : Nat → Nat) (μ σ φ κ β ω : Int → Int) (r : Int) (n : Int) (c : Int) (hb : TX β) (hr1 : r = 1) (hw : μ 12 = 0) (htk : TK β n μ c) : Met lL yX8_must wsX8_must ({ frames := 3, cells := 0, slots := 0, locals := 65 } : Room) (va_Pc [.ref (o 0), .int (iI r)] (fun U => W8 G o (mV o μ) σ φ κ β ω U.heap ∧ KK G U)) (va_Qv (fun _ : Unit => True) (fun _ tZ => ∃ (μ1 : Int → Int), W8 G o (mV o μ1) σ φ κ β ω tZ.heap ∧ (KQ μ1 μ) ∧ (μ1 12 = 0) ∧ (TK β n μ1 (te β n c)) ∧ (-9223372036854775808 ≤ μ1 15 ∧ μ1 15 < 9223372036854775808)) (Ax o 6)) 0 0 (Ax o 6) := by
  refine z_met (P := (fun H : Heap => W8 G o (mV o μ) σ φ κ β ω H)) (by decide) rfl (Nat.le_of_ble_eq_true rfl) (fun pp ee ss mm below meth cC E hr hml hown hts hlocks hM hK ls hl => ?_)
  have hl : lv_has ls 2 [(0, .ref (o 0)), (1, .int (iI r))] := hl
  have hcs : 0 ≤ (({ frames := 3, cells := 0, slots := 0, locals := 65 } : Room)).cells ∧ 0 ≤ (({ frames := 3, cells := 0, slots := 0, locals := 65 } : Room)).slots := ⟨Nat.zero_le _, Nat.zero_le _⟩
  have hS : va_S (Ax o 6) ss.heap ss.heap [] := va_S.rf
  have hin8 : ∀ w ∈ wsX80, w ∈ wsX8_must := fun w h => List.mem_cons_of_mem _ (List.mem_append_right _ (h))
  have h7 := htk.n7
  have h9 := htk.be9
  have h8 := htk.at8
  have h10 := htk.ki10
  have hcn := htk.c0
  have hsn := htk.skb
  have htn := htk.teb
  have hkd := kd_b β n c
  refine lv_iload_n (pc := 0) E.1 E.2 dX8_must_0 rfl (lv_at hl 1 rfl) ?_
  refine z_if_ne (pc := 1) (tgt := 10) E ⟨by omega, by omega⟩ dX8_must_1 (by decide) (fun h1 => ?_) (fun h1 => ?_)
  · refine lv_aload_n (pc := 10) E.1 E.2 dX8_must_10 rfl (lv_at hl 0 rfl) ?_
    refine g8_12 (pc := 11) E hts hin8 hown hK hM.1 (hts _ (List.mem_of_getElem? (i := 1) rfl)) dX8_must_11 ?_
    refine z_if_ne (pc := 14) (tgt := 21) E ⟨by omega, by omega⟩ dX8_must_14 (by decide) (fun h14 => ?_) (fun h14 => ?_)
    · exact absurd hw h14
    · refine lv_aload_n (pc := 17) E.1 E.2 dX8_must_17 rfl (lv_at hl 0 rfl) ?_
      refine z_wVv (pc := 18) (P1 := fun H9 : Heap => ∃ (μ18 : Int → Int), W8 G o (mV o μ18) σ φ κ β ω H9 ∧ (KQ μ18 μ) ∧ (μ18 12 = μ 12) ∧ (μ18 13 = μ 13) ∧ (TK β n μ18 (te β n c)) ∧ (-9223372036854775808 ≤ μ18 15 ∧ μ18 15 < 9223372036854775808)) (As := []) (rest := []) E hml hown hts (mX8_next lL G o μ σ φ κ β ω n (te β n c) hb (by omega) (by omega) (by omega) (by omega)) (cwV 0 hts gX8_must_X8_next rfl rfl rfl vdX8_next ⟨Nat.le_of_ble_eq_true rfl, Nat.le_of_ble_eq_true rfl⟩) (oB.recv hK hM.1 rfl) hM hK hS (fun _ h => h) rfl hl.1 rfl dX8_must_18 hcs (Nat.le_of_ble_eq_true rfl) (fun H locs hnew hsz hoth hS => ?_)
      obtain ⟨μ18, hM, kq_18, e2_18, e3_18, tk_18, rw_18⟩ := hnew
      have hw18 : μ18 12 = 0 := by omega
      exact z_retWv (P1 := fun H9 : Heap => ∃ (μ1 : Int → Int), W8 G o (mV o μ1) σ φ κ β ω H9 ∧ (KQ μ1 μ) ∧ (μ1 12 = 0) ∧ (TK β n μ1 (te β n c)) ∧ (-9223372036854775808 ≤ μ1 15 ∧ μ1 15 < 9223372036854775808)) E hr ⟨μ18, hM, (kq_18.t (KQ.rf μ)), hw18, tk_18, rw_18⟩ hS hlocks dX8_must_21
  · exact absurd hr1 (by omega)
set_option maxHeartbeats 1000000 in
set_option maxRecDepth 100000 in
theorem mX8_mustF (lL : Launch) (G : GG) (o : Nat → Nat) (μ σ φ κ β ω : Int → Int) (r : Int) (n : Int) (c : Int) (hb : TX β) (hr0 : r = 0) (hw : μ 12 = 0) (htk : TK β n μ c) : Met lL yX8_must wsX8_must ({ frames := 3, cells := 0, slots := 0, locals := 65 } : Room) (va_Pc [.ref (o 0), .int (iI r)] (fun U => W8 G o (mV o μ) σ φ κ β ω U.heap ∧ KK G U)) (va_Qv (fun _ : Unit => True) (fun _ tZ => ∃ (μ1 : Int → Int), W8 G o (mV o μ1) σ φ κ β ω tZ.heap ∧ (KQ μ1 μ) ∧ (μ1 12 = -2) ∧ (μ1 13 = sk β n c) ∧ (μ1 15 = μ 15) ∧ (μ1 8 = μ 8) ∧ (μ1 10 = μ 10)) (Ax o 6)) 0 0 (Ax o 6) := by
  refine z_met (P := (fun H : Heap => W8 G o (mV o μ) σ φ κ β ω H)) (by decide) rfl (Nat.le_of_ble_eq_true rfl) (fun pp ee ss mm below meth cC E hr hml hown hts hlocks hM hK ls hl => ?_)
  have hl : lv_has ls 2 [(0, .ref (o 0)), (1, .int (iI r))] := hl
  have hcs : 0 ≤ (({ frames := 3, cells := 0, slots := 0, locals := 65 } : Room)).cells ∧ 0 ≤ (({ frames := 3, cells := 0, slots := 0, locals := 65 } : Room)).slots := ⟨Nat.zero_le _, Nat.zero_le _⟩
  have hS : va_S (Ax o 6) ss.heap ss.heap [] := va_S.rf
  have hin8 : ∀ w ∈ wsX80, w ∈ wsX8_must := fun w h => List.mem_cons_of_mem _ (List.mem_append_right _ (h))
  have h7 := htk.n7
  have h9 := htk.be9
  have h8 := htk.at8
  have h10 := htk.ki10
  have hcn := htk.c0
  have hsn := htk.skb
  have htn := htk.teb
  have hkd := kd_b β n c
  refine lv_iload_n (pc := 0) E.1 E.2 dX8_must_0 rfl (lv_at hl 1 rfl) ?_
  refine z_if_ne (pc := 1) (tgt := 10) E ⟨by omega, by omega⟩ dX8_must_1 (by decide) (fun h1 => ?_) (fun h1 => ?_)
  · exact absurd hr0 h1
  · refine lv_aload_n (pc := 4) E.1 E.2 dX8_must_4 rfl (lv_at hl 0 rfl) ?_
    refine z_bipush (pc := 5) E (by decide) dX8_must_5 ?_
    refine z_wVv (pc := 7) (P1 := fun H9 : Heap => ∃ (μ7 : Int → Int), W8 G o (mV o μ7) σ φ κ β ω H9 ∧ (KQ μ7 μ) ∧ (μ7 12 = (-2)) ∧ (μ7 13 = μ 8) ∧ (μ7 15 = μ 15) ∧ (μ7 8 = μ 8) ∧ (μ7 10 = μ 10)) (As := [.int (iI (-2))]) (rest := []) E hml hown hts (mX8_failsZ lL G o μ σ φ κ β ω (-2) (by decide) (by omega)) (cwV 1 hts gX8_must_X8_fails rfl rfl rfl vdX8_fails ⟨Nat.le_of_ble_eq_true rfl, Nat.le_of_ble_eq_true rfl⟩) (oB.recv hK hM.1 rfl) hM hK hS (fun _ h => h) rfl hl.1 rfl dX8_must_7 hcs (Nat.le_of_ble_eq_true rfl) (fun H locs hnew hsz hoth hS => ?_)
    obtain ⟨μ7, hM, kq_7, e2_7, e3_7, e5_7, e8_7, e10_7⟩ := hnew
    have hw7 : ¬ μ7 12 = 0 := by omega
    refine lv_aload_n (pc := 10) E.1 E.2 dX8_must_10 rfl (lv_at hl 0 rfl) ?_
    refine g8_12 (pc := 11) E hts hin8 hown hK hM.1 (hts _ (List.mem_of_getElem? (i := 1) rfl)) dX8_must_11 ?_
    refine z_if_ne (pc := 14) (tgt := 21) E ⟨by omega, by omega⟩ dX8_must_14 (by decide) (fun h14 => ?_) (fun h14 => ?_)
    · exact z_retWv (P1 := fun H9 : Heap => ∃ (μ1 : Int → Int), W8 G o (mV o μ1) σ φ κ β ω H9 ∧ (KQ μ1 μ) ∧ (μ1 12 = -2) ∧ (μ1 13 = sk β n c) ∧ (μ1 15 = μ 15) ∧ (μ1 8 = μ 8) ∧ (μ1 10 = μ 10)) E hr ⟨μ7, hM, (kq_7.t (KQ.rf μ)), (by omega), (by omega), (by omega), (by omega), (by omega)⟩ hS hlocks dX8_must_21
    · exact absurd h14 (by first | exact hw7 | exact fun q => hw7 q | omega)
set_option maxHeartbeats 1000000 in
set_option maxRecDepth 100000 in
theorem mX8_mustN (lL : Launch) (G : GG) (o : Nat → Nat) (μ σ φ κ β ω : Int → Int) (r : Int) (hr2 : r = 0 ∨ r = 1) (h12 : -2147483648 ≤ μ 12 ∧ μ 12 < 2147483648) (hw : ¬ μ 12 = 0) : Met lL yX8_must wsX8_must ({ frames := 3, cells := 0, slots := 0, locals := 65 } : Room) (va_Pc [.ref (o 0), .int (iI r)] (fun U => W8 G o (mV o μ) σ φ κ β ω U.heap ∧ KK G U)) zSv 0 0 (fun _ => False) := by
  refine z_met (P := (fun H : Heap => W8 G o (mV o μ) σ φ κ β ω H)) (by decide) rfl (Nat.le_of_ble_eq_true rfl) (fun pp ee ss mm below meth cC E hr hml hown hts hlocks hM hK ls hl => ?_)
  have hl : lv_has ls 2 [(0, .ref (o 0)), (1, .int (iI r))] := hl
  have hcs : 0 ≤ (({ frames := 3, cells := 0, slots := 0, locals := 65 } : Room)).cells ∧ 0 ≤ (({ frames := 3, cells := 0, slots := 0, locals := 65 } : Room)).slots := ⟨Nat.zero_le _, Nat.zero_le _⟩
  have hin8 : ∀ w ∈ wsX80, w ∈ wsX8_must := fun w h => List.mem_cons_of_mem _ (List.mem_append_right _ (h))
  refine lv_iload_n (pc := 0) E.1 E.2 dX8_must_0 rfl (lv_at hl 1 rfl) ?_
  refine z_if_ne (pc := 1) (tgt := 10) E ⟨by omega, by omega⟩ dX8_must_1 (by decide) (fun h1 => ?_) (fun h1 => ?_)
  · refine lv_aload_n (pc := 10) E.1 E.2 dX8_must_10 rfl (lv_at hl 0 rfl) ?_
    refine g8_12 (pc := 11) E hts hin8 hown hK hM.1 (hts _ (List.mem_of_getElem? (i := 1) rfl)) dX8_must_11 ?_
    refine z_if_ne (pc := 14) (tgt := 21) E ⟨by omega, by omega⟩ dX8_must_14 (by decide) (fun h14 => ?_) (fun h14 => ?_)
    · exact z_retRv E hr hlocks dX8_must_21
    · exact absurd h14 hw
  · refine lv_aload_n (pc := 4) E.1 E.2 dX8_must_4 rfl (lv_at hl 0 rfl) ?_
    refine z_bipush (pc := 5) E (by decide) dX8_must_5 ?_
    refine z_rVv (pc := 7) (As := [.int (iI (-2))]) (rest := []) E hml hown hts (mX8_failsN lL G o μ σ φ κ β ω (-2) (by omega) (by omega)) (cwV 1 hts gX8_must_X8_fails rfl rfl rfl vdX8_fails ⟨Nat.le_of_ble_eq_true rfl, Nat.le_of_ble_eq_true rfl⟩) (oB.recv hK hM.1 rfl) hM hK rfl hl.1 rfl dX8_must_7 hcs (Nat.le_of_ble_eq_true rfl) ?_
    refine lv_aload_n (pc := 10) E.1 E.2 dX8_must_10 rfl (lv_at hl 0 rfl) ?_
    refine g8_12 (pc := 11) E hts hin8 hown hK hM.1 (hts _ (List.mem_of_getElem? (i := 1) rfl)) dX8_must_11 ?_
    refine z_if_ne (pc := 14) (tgt := 21) E ⟨by omega, by omega⟩ dX8_must_14 (by decide) (fun h14 => ?_) (fun h14 => ?_)
    · exact z_retRv E hr hlocks dX8_must_21
    · exact absurd h14 hw
set_option maxHeartbeats 1000000 in
set_option maxRecDepth 100000 in
theorem mX8_takesZ (lL : Launch) (G : GG) (o : Nat → Nat) (μ σ φ κ β ω : Int → Int) (lo : Int) (hi : Int) (n : Int) (c : Int) (hb : TX β) (hlo : -2147483648 ≤ lo ∧ lo < 2147483648) (hhi : -2147483648 ≤ hi ∧ hi < 2147483648) (hw : μ 12 = 0) (htk : TK β n μ c) (hrw : -9223372036854775808 ≤ μ 15 ∧ μ 15 < 9223372036854775808) : Met lL yX8_takes wsX8_takes ({ frames := 3, cells := 0, slots := 0, locals := 65 } : Room) (va_Pc [.ref (o 0), .int (iI lo), .int (iI hi)] (fun U => W8 G o (mV o μ) σ φ κ β ω U.heap ∧ KK G U)) (va_Qi (fun r (_ : Unit) => r = (iI (if rNum β n c lo hi = 0 then nm β n c else 0))) (fun _ tZ => ∃ (μ1 : Int → Int), W8 G o (mV o μ1) σ φ κ β ω tZ.heap ∧ (KQ μ1 μ) ∧ (rNum β n c lo hi = 0 → μ1 12 = 0 ∧ TK β n μ1 (te β n c)) ∧ (¬ rNum β n c lo hi = 0 → μ1 12 = rNum β n c lo hi ∧ μ1 13 = sk β n c ∧ (0 ≤ μ1 8 ∧ μ1 8 ≤ 900) ∧ (0 ≤ μ1 10 ∧ μ1 10 ≤ 3)) ∧ (-9223372036854775808 ≤ μ1 15 ∧ μ1 15 < 9223372036854775808)) (Ax o 6)) 0 0 (Ax o 6) := by
  refine z_met (P := (fun H : Heap => W8 G o (mV o μ) σ φ κ β ω H)) (by decide) rfl (Nat.le_of_ble_eq_true rfl) (fun pp ee ss mm below meth cC E hr hml hown hts hlocks hM hK ls hl => ?_)
  have hl : lv_has ls 4 [(0, .ref (o 0)), (1, .int (iI lo)), (2, .int (iI hi))] := hl
  have hcs : 0 ≤ (({ frames := 3, cells := 0, slots := 0, locals := 65 } : Room)).cells ∧ 0 ≤ (({ frames := 3, cells := 0, slots := 0, locals := 65 } : Room)).slots := ⟨Nat.zero_le _, Nat.zero_le _⟩
  have hS : va_S (Ax o 6) ss.heap ss.heap [] := va_S.rf
  have hin8 : ∀ w ∈ wsX80, w ∈ wsX8_takes := fun w h => List.mem_cons_of_mem _ (List.mem_append_right _ (h))
  have h7 := htk.n7
  have h9 := htk.be9
  have h8 := htk.at8
  have h10 := htk.ki10
  have hcn := htk.c0
  have hsn := htk.skb
  have htn := htk.teb
  have hkd := kd_b β n c
  refine lv_aload_n (pc := 0) E.1 E.2 dX8_takes_0 rfl (lv_at hl 0 rfl) ?_
  refine g8_12 (pc := 1) E hts hin8 hown hK hM.1 (hts _ (List.mem_of_getElem? (i := 1) rfl)) dX8_takes_1 ?_
  refine z_if_ne (pc := 4) (tgt := 24) E ⟨by omega, by omega⟩ dX8_takes_4 (by decide) (fun h4 => ?_) (fun h4 => ?_)
  · exact absurd hw h4
  · refine lv_aload_n (pc := 7) E.1 E.2 dX8_takes_7 rfl (lv_at hl 0 rfl) ?_
    refine g8_10 (pc := 8) E hts hin8 hown hK hM.1 (hts _ (List.mem_of_getElem? (i := 2) rfl)) dX8_takes_8 ?_
    refine z_iconst (pc := 11) E dX8_takes_11 ?_
    refine z_icmp_eq (pc := 12) (tgt := 24) E ⟨by omega, by omega⟩ (by decide) dX8_takes_12 (by decide) (fun h12 => ?_) (fun h12 => ?_)
    · have hnu := htk.nu (by omega)
      have hnr := nmT_r (b := β) (n := n) (c := c) (by omega) (by omega)
      refine lv_aload_n (pc := 24) E.1 E.2 dX8_takes_24 rfl (lv_at hl 0 rfl) ?_
      refine g8_12 (pc := 25) E hts hin8 hown hK hM.1 (hts _ (List.mem_of_getElem? (i := 1) rfl)) dX8_takes_25 ?_
      refine z_if_ne (pc := 28) (tgt := 52) E ⟨by omega, by omega⟩ dX8_takes_28 (by decide) (fun h28 => ?_) (fun h28 => ?_)
      · exact absurd h28 (by first | exact h4 | exact fun q => h4 q | omega)
      · refine lv_aload_n (pc := 31) E.1 E.2 dX8_takes_31 rfl (lv_at hl 0 rfl) ?_
        refine g8_11 (pc := 32) E hts hin8 hown hK hM.1 (hts _ (List.mem_of_getElem? (i := 3) rfl)) dX8_takes_32 ?_
        refine z_i2l (pc := 35) E ⟨by omega, by omega⟩ dX8_takes_35 ?_
        refine lv_iload_n (pc := 36) E.1 E.2 dX8_takes_36 rfl (lv_at hl 1 rfl) ?_
        refine z_i2l (pc := 37) E ⟨by omega, by omega⟩ dX8_takes_37 ?_
        refine lv_iload_n (pc := 38) E.1 E.2 dX8_takes_38 rfl (lv_at hl 2 rfl) ?_
        refine z_i2l (pc := 39) E ⟨by omega, by omega⟩ dX8_takes_39 ?_
        refine z_rSi (pc := 40) (P := fun _ => True) (As := [.long (iL (μ 11)), .long (iL lo), .long (iL hi)]) (rest := []) E hml hown hts (mX8_isIn lL G (μ 11) lo hi ⟨by omega, by omega⟩ ⟨by omega, by omega⟩ ⟨by omega, by omega⟩) (va_cwS 3 hts gX8_takes_X8_isIn rfl rfl rfl vdX8_isIn.2 ⟨Nat.le_of_ble_eq_true rfl, Nat.le_of_ble_eq_true rfl⟩) trivial hK rfl hl.1 rfl dX8_takes_40 hcs (Nat.le_of_ble_eq_true rfl) ?_
        refine z_ifb_ne (pc := 43) (tgt := 52) E dX8_takes_43 (by decide) (fun h43 => ?_) (fun h43 => ?_)
        · have hx : rNum β n c lo hi = 0 := by unfold rNum; rw [if_pos (by omega), if_pos (by omega)]
          refine lv_aload_n (pc := 52) E.1 E.2 dX8_takes_52 rfl (lv_at hl 0 rfl) ?_
          refine g8_12 (pc := 53) E hts hin8 hown hK hM.1 (hts _ (List.mem_of_getElem? (i := 1) rfl)) dX8_takes_53 ?_
          refine z_if_ne (pc := 56) (tgt := 66) E ⟨by omega, by omega⟩ dX8_takes_56 (by decide) (fun h56 => ?_) (fun h56 => ?_)
          · exact absurd h56 (by first | exact h4 | exact fun q => h4 q | omega)
          · refine lv_aload_n (pc := 59) E.1 E.2 dX8_takes_59 rfl (lv_at hl 0 rfl) ?_
            refine g8_11 (pc := 60) E hts hin8 hown hK hM.1 (hts _ (List.mem_of_getElem? (i := 3) rfl)) dX8_takes_60 ?_
            refine lv_goto (pc := 63) (tgt := 67) E.1 E.2 dX8_takes_63 (by decide) ?_
            refine lv_istore_n (pc := 67) (lv' := [(3, .int (iI (μ 11))), (0, .ref (o 0)), (1, .int (iI lo)), (2, .int (iI hi))]) E.1 E.2 dX8_takes_67 rfl hl (by decide) rfl (fun ls hl => ?_)
            refine lv_aload_n (pc := 68) E.1 E.2 dX8_takes_68 rfl (lv_at hl 1 rfl) ?_
            refine g8_12 (pc := 69) E hts hin8 hown hK hM.1 (hts _ (List.mem_of_getElem? (i := 1) rfl)) dX8_takes_69 ?_
            refine z_if_ne (pc := 72) (tgt := 79) E ⟨by omega, by omega⟩ dX8_takes_72 (by decide) (fun h72 => ?_) (fun h72 => ?_)
            · exact absurd h72 (by first | exact h4 | exact fun q => h4 q | omega)
            · refine lv_aload_n (pc := 75) E.1 E.2 dX8_takes_75 rfl (lv_at hl 1 rfl) ?_
              refine z_wVv (pc := 76) (P1 := fun H9 : Heap => ∃ (μ76 : Int → Int), W8 G o (mV o μ76) σ φ κ β ω H9 ∧ (KQ μ76 μ) ∧ (μ76 12 = μ 12) ∧ (μ76 13 = μ 13) ∧ (TK β n μ76 (te β n c)) ∧ (-9223372036854775808 ≤ μ76 15 ∧ μ76 15 < 9223372036854775808)) (As := []) (rest := []) E hml hown hts (mX8_next lL G o μ σ φ κ β ω n (te β n c) hb (by omega) (by omega) (by omega) (by omega)) (cwV 0 hts gX8_takes_X8_next rfl rfl rfl vdX8_next ⟨Nat.le_of_ble_eq_true rfl, Nat.le_of_ble_eq_true rfl⟩) (oB.recv hK hM.1 rfl) hM hK hS (fun _ h => h) rfl hl.1 rfl dX8_takes_76 hcs (Nat.le_of_ble_eq_true rfl) (fun H locs hnew hsz hoth hS => ?_)
              obtain ⟨μ76, hM, kq_76, e2_76, e3_76, tk_76, rw_76⟩ := hnew
              have hw76 : μ76 12 = 0 := by omega
              refine lv_iload_n (pc := 79) E.1 E.2 dX8_takes_79 rfl (lv_at hl 0 rfl) ?_
              exact z_retWi (P1 := fun H9 : Heap => ∃ (μ1 : Int → Int), W8 G o (mV o μ1) σ φ κ β ω H9 ∧ (KQ μ1 μ) ∧ (rNum β n c lo hi = 0 → μ1 12 = 0 ∧ TK β n μ1 (te β n c)) ∧ (¬ rNum β n c lo hi = 0 → μ1 12 = rNum β n c lo hi ∧ μ1 13 = sk β n c ∧ (0 ≤ μ1 8 ∧ μ1 8 ≤ 900) ∧ (0 ≤ μ1 10 ∧ μ1 10 ≤ 3)) ∧ (-9223372036854775808 ≤ μ1 15 ∧ μ1 15 < 9223372036854775808)) E hr (congrArg iI (by (rw [hx]; first | exact (if_neg (by decide)).symm | (rw [if_pos rfl]; omega)))) ⟨μ76, hM, (kq_76.t (KQ.rf μ)), (fun z => And.intro hw76 tk_76), (fun z => absurd hx z), rw_76⟩ hS hlocks dX8_takes_80
        · have hx : rNum β n c lo hi = -3 := by unfold rNum; rw [if_pos (by omega), if_neg (by omega)]
          refine lv_aload_n (pc := 46) E.1 E.2 dX8_takes_46 rfl (lv_at hl 0 rfl) ?_
          refine z_bipush (pc := 47) E (by decide) dX8_takes_47 ?_
          refine z_wVv (pc := 49) (P1 := fun H9 : Heap => ∃ (μ49 : Int → Int), W8 G o (mV o μ49) σ φ κ β ω H9 ∧ (KQ μ49 μ) ∧ (μ49 12 = (-3)) ∧ (μ49 13 = μ 8) ∧ (μ49 15 = μ 15) ∧ (μ49 8 = μ 8) ∧ (μ49 10 = μ 10)) (As := [.int (iI (-3))]) (rest := []) E hml hown hts (mX8_failsZ lL G o μ σ φ κ β ω (-3) (by decide) (by omega)) (cwV 1 hts gX8_takes_X8_fails rfl rfl rfl vdX8_fails ⟨Nat.le_of_ble_eq_true rfl, Nat.le_of_ble_eq_true rfl⟩) (oB.recv hK hM.1 rfl) hM hK hS (fun _ h => h) rfl hl.1 rfl dX8_takes_49 hcs (Nat.le_of_ble_eq_true rfl) (fun H locs hnew hsz hoth hS => ?_)
          obtain ⟨μ49, hM, kq_49, e2_49, e3_49, e5_49, e8_49, e10_49⟩ := hnew
          have hw49 : ¬ μ49 12 = 0 := by omega
          refine lv_aload_n (pc := 52) E.1 E.2 dX8_takes_52 rfl (lv_at hl 0 rfl) ?_
          refine g8_12 (pc := 53) E hts hin8 hown hK hM.1 (hts _ (List.mem_of_getElem? (i := 1) rfl)) dX8_takes_53 ?_
          refine z_if_ne (pc := 56) (tgt := 66) E ⟨by omega, by omega⟩ dX8_takes_56 (by decide) (fun h56 => ?_) (fun h56 => ?_)
          · refine z_iconst (pc := 66) E dX8_takes_66 ?_
            refine lv_istore_n (pc := 67) (lv' := [(3, .int (iI 0)), (0, .ref (o 0)), (1, .int (iI lo)), (2, .int (iI hi))]) E.1 E.2 dX8_takes_67 rfl hl (by decide) rfl (fun ls hl => ?_)
            refine lv_aload_n (pc := 68) E.1 E.2 dX8_takes_68 rfl (lv_at hl 1 rfl) ?_
            refine g8_12 (pc := 69) E hts hin8 hown hK hM.1 (hts _ (List.mem_of_getElem? (i := 1) rfl)) dX8_takes_69 ?_
            refine z_if_ne (pc := 72) (tgt := 79) E ⟨by omega, by omega⟩ dX8_takes_72 (by decide) (fun h72 => ?_) (fun h72 => ?_)
            · refine lv_iload_n (pc := 79) E.1 E.2 dX8_takes_79 rfl (lv_at hl 0 rfl) ?_
              exact z_retWi (P1 := fun H9 : Heap => ∃ (μ1 : Int → Int), W8 G o (mV o μ1) σ φ κ β ω H9 ∧ (KQ μ1 μ) ∧ (rNum β n c lo hi = 0 → μ1 12 = 0 ∧ TK β n μ1 (te β n c)) ∧ (¬ rNum β n c lo hi = 0 → μ1 12 = rNum β n c lo hi ∧ μ1 13 = sk β n c ∧ (0 ≤ μ1 8 ∧ μ1 8 ≤ 900) ∧ (0 ≤ μ1 10 ∧ μ1 10 ≤ 3)) ∧ (-9223372036854775808 ≤ μ1 15 ∧ μ1 15 < 9223372036854775808)) E hr (congrArg iI (by (rw [hx]; first | exact (if_neg (by decide)).symm | (rw [if_pos rfl]; omega)))) ⟨μ49, hM, (kq_49.t (KQ.rf μ)), (fun z => absurd z (by omega)), (fun z => And.intro (by omega) (by omega)), (by omega)⟩ hS hlocks dX8_takes_80
            · exact absurd h72 (by first | exact hw49 | exact fun q => hw49 q | omega)
          · exact absurd h56 (by first | exact hw49 | exact fun q => hw49 q | omega)
    · have hx : rNum β n c lo hi = -2 := by unfold rNum; rw [if_neg (by omega)]
      refine lv_aload_n (pc := 15) E.1 E.2 dX8_takes_15 rfl (lv_at hl 0 rfl) ?_
      refine z_bipush (pc := 16) E (by decide) dX8_takes_16 ?_
      refine z_wVv (pc := 18) (P1 := fun H9 : Heap => ∃ (μ18 : Int → Int), W8 G o (mV o μ18) σ φ κ β ω H9 ∧ (KQ μ18 μ) ∧ (μ18 12 = (-2)) ∧ (μ18 13 = μ 8) ∧ (μ18 15 = μ 15) ∧ (μ18 8 = μ 8) ∧ (μ18 10 = μ 10)) (As := [.int (iI (-2))]) (rest := []) E hml hown hts (mX8_failsZ lL G o μ σ φ κ β ω (-2) (by decide) (by omega)) (cwV 1 hts gX8_takes_X8_fails rfl rfl rfl vdX8_fails ⟨Nat.le_of_ble_eq_true rfl, Nat.le_of_ble_eq_true rfl⟩) (oB.recv hK hM.1 rfl) hM hK hS (fun _ h => h) rfl hl.1 rfl dX8_takes_18 hcs (Nat.le_of_ble_eq_true rfl) (fun H locs hnew hsz hoth hS => ?_)
      obtain ⟨μ18, hM, kq_18, e2_18, e3_18, e5_18, e8_18, e10_18⟩ := hnew
      have hw18 : ¬ μ18 12 = 0 := by omega
      refine lv_goto (pc := 21) (tgt := 52) E.1 E.2 dX8_takes_21 (by decide) ?_
      refine lv_aload_n (pc := 52) E.1 E.2 dX8_takes_52 rfl (lv_at hl 0 rfl) ?_
      refine g8_12 (pc := 53) E hts hin8 hown hK hM.1 (hts _ (List.mem_of_getElem? (i := 1) rfl)) dX8_takes_53 ?_
      refine z_if_ne (pc := 56) (tgt := 66) E ⟨by omega, by omega⟩ dX8_takes_56 (by decide) (fun h56 => ?_) (fun h56 => ?_)
      · refine z_iconst (pc := 66) E dX8_takes_66 ?_
        refine lv_istore_n (pc := 67) (lv' := [(3, .int (iI 0)), (0, .ref (o 0)), (1, .int (iI lo)), (2, .int (iI hi))]) E.1 E.2 dX8_takes_67 rfl hl (by decide) rfl (fun ls hl => ?_)
        refine lv_aload_n (pc := 68) E.1 E.2 dX8_takes_68 rfl (lv_at hl 1 rfl) ?_
        refine g8_12 (pc := 69) E hts hin8 hown hK hM.1 (hts _ (List.mem_of_getElem? (i := 1) rfl)) dX8_takes_69 ?_
        refine z_if_ne (pc := 72) (tgt := 79) E ⟨by omega, by omega⟩ dX8_takes_72 (by decide) (fun h72 => ?_) (fun h72 => ?_)
        · refine lv_iload_n (pc := 79) E.1 E.2 dX8_takes_79 rfl (lv_at hl 0 rfl) ?_
          exact z_retWi (P1 := fun H9 : Heap => ∃ (μ1 : Int → Int), W8 G o (mV o μ1) σ φ κ β ω H9 ∧ (KQ μ1 μ) ∧ (rNum β n c lo hi = 0 → μ1 12 = 0 ∧ TK β n μ1 (te β n c)) ∧ (¬ rNum β n c lo hi = 0 → μ1 12 = rNum β n c lo hi ∧ μ1 13 = sk β n c ∧ (0 ≤ μ1 8 ∧ μ1 8 ≤ 900) ∧ (0 ≤ μ1 10 ∧ μ1 10 ≤ 3)) ∧ (-9223372036854775808 ≤ μ1 15 ∧ μ1 15 < 9223372036854775808)) E hr (congrArg iI (by (rw [hx]; first | exact (if_neg (by decide)).symm | (rw [if_pos rfl]; omega)))) ⟨μ18, hM, (kq_18.t (KQ.rf μ)), (fun z => absurd z (by omega)), (fun z => And.intro (by omega) (by omega)), (by omega)⟩ hS hlocks dX8_takes_80
        · exact absurd h72 (by first | exact hw18 | exact fun q => hw18 q | omega)
      · exact absurd h56 (by first | exact hw18 | exact fun q => hw18 q | omega)
set_option maxHeartbeats 1000000 in
set_option maxRecDepth 100000 in
theorem mX8_takesN (lL : Launch) (G : GG) (o : Nat → Nat) (μ σ φ κ β ω : Int → Int) (lo : Int) (hi : Int) (h12 : -2147483648 ≤ μ 12 ∧ μ 12 < 2147483648) (hw : ¬ μ 12 = 0) : Met lL yX8_takes wsX8_takes ({ frames := 3, cells := 0, slots := 0, locals := 65 } : Room) (va_Pc [.ref (o 0), .int (iI lo), .int (iI hi)] (fun U => W8 G o (mV o μ) σ φ κ β ω U.heap ∧ KK G U)) (vp_Si (fun r => r = (iI 0))) 0 0 (fun _ => False) := by
  refine z_met (P := (fun H : Heap => W8 G o (mV o μ) σ φ κ β ω H)) (by decide) rfl (Nat.le_of_ble_eq_true rfl) (fun pp ee ss mm below meth cC E hr hml hown hts hlocks hM hK ls hl => ?_)
  have hl : lv_has ls 4 [(0, .ref (o 0)), (1, .int (iI lo)), (2, .int (iI hi))] := hl
  have hcs : 0 ≤ (({ frames := 3, cells := 0, slots := 0, locals := 65 } : Room)).cells ∧ 0 ≤ (({ frames := 3, cells := 0, slots := 0, locals := 65 } : Room)).slots := ⟨Nat.zero_le _, Nat.zero_le _⟩
  have hin8 : ∀ w ∈ wsX80, w ∈ wsX8_takes := fun w h => List.mem_cons_of_mem _ (List.mem_append_right _ (h))
  refine lv_aload_n (pc := 0) E.1 E.2 dX8_takes_0 rfl (lv_at hl 0 rfl) ?_
  refine g8_12 (pc := 1) E hts hin8 hown hK hM.1 (hts _ (List.mem_of_getElem? (i := 1) rfl)) dX8_takes_1 ?_
  refine z_if_ne (pc := 4) (tgt := 24) E ⟨by omega, by omega⟩ dX8_takes_4 (by decide) (fun h4 => ?_) (fun h4 => ?_)
  · refine lv_aload_n (pc := 24) E.1 E.2 dX8_takes_24 rfl (lv_at hl 0 rfl) ?_
    refine g8_12 (pc := 25) E hts hin8 hown hK hM.1 (hts _ (List.mem_of_getElem? (i := 1) rfl)) dX8_takes_25 ?_
    refine z_if_ne (pc := 28) (tgt := 52) E ⟨by omega, by omega⟩ dX8_takes_28 (by decide) (fun h28 => ?_) (fun h28 => ?_)
    · refine lv_aload_n (pc := 52) E.1 E.2 dX8_takes_52 rfl (lv_at hl 0 rfl) ?_
      refine g8_12 (pc := 53) E hts hin8 hown hK hM.1 (hts _ (List.mem_of_getElem? (i := 1) rfl)) dX8_takes_53 ?_
      refine z_if_ne (pc := 56) (tgt := 66) E ⟨by omega, by omega⟩ dX8_takes_56 (by decide) (fun h56 => ?_) (fun h56 => ?_)
      · refine z_iconst (pc := 66) E dX8_takes_66 ?_
        refine lv_istore_n (pc := 67) (lv' := [(3, .int (iI 0)), (0, .ref (o 0)), (1, .int (iI lo)), (2, .int (iI hi))]) E.1 E.2 dX8_takes_67 rfl hl (by decide) rfl (fun ls hl => ?_)
        refine lv_aload_n (pc := 68) E.1 E.2 dX8_takes_68 rfl (lv_at hl 1 rfl) ?_
        refine g8_12 (pc := 69) E hts hin8 hown hK hM.1 (hts _ (List.mem_of_getElem? (i := 1) rfl)) dX8_takes_69 ?_
        refine z_if_ne (pc := 72) (tgt := 79) E ⟨by omega, by omega⟩ dX8_takes_72 (by decide) (fun h72 => ?_) (fun h72 => ?_)
        · refine lv_iload_n (pc := 79) E.1 E.2 dX8_takes_79 rfl (lv_at hl 0 rfl) ?_
          exact z_retRi E hr rfl hlocks dX8_takes_80
        · exact absurd h72 (by first | exact h4 | exact fun q => h4 q | omega)
      · exact absurd h56 (by first | exact h4 | exact fun q => h4 q | omega)
    · exact absurd h28 (by first | exact h4 | exact fun q => h4 q | omega)
  · exact absurd h4 hw
set_option maxHeartbeats 1000000 in
set_option maxRecDepth 100000 in
theorem mX8_takesNamerFol (lL : Launch) (G : GG) (o : Nat → Nat) (μ σ φ κ β ω : Int → Int) (e : Int) (n : Int) (c : Int) (hb : TX β) (he : e = 1) (hw : μ 12 = 0) (htk : TK β n μ c) (hrw : -9223372036854775808 ≤ μ 15 ∧ μ 15 < 9223372036854775808) (hJ : In φ) : Met lL yX8_takesName wsX8_takesName ({ frames := 3, cells := 0, slots := 0, locals := 65 } : Room) (va_Pc [.ref (o 0), .int (iI e)] (fun U => W8 G o (mV o μ) σ φ κ β ω U.heap ∧ KK G U)) (va_Ql (fun r (_ : Unit) => r = (iL (μ 15))) (fun _ tZ => ∃ (μ1 : Int → Int), W8 G o (mV o μ1) σ φ κ β ω tZ.heap ∧ (KQ μ1 μ) ∧ (rFol β n φ c = 0 → μ1 12 = 0 ∧ TK β n μ1 (te β n c)) ∧ (¬ rFol β n φ c = 0 → μ1 12 = rFol β n φ c ∧ μ1 13 = sk β n c ∧ (0 ≤ μ1 8 ∧ μ1 8 ≤ 900) ∧ (0 ≤ μ1 10 ∧ μ1 10 ≤ 3)) ∧ (-9223372036854775808 ≤ μ1 15 ∧ μ1 15 < 9223372036854775808)) (Ax o 6)) 0 0 (Ax o 6) := by
  refine z_met (P := (fun H : Heap => W8 G o (mV o μ) σ φ κ β ω H)) (by decide) rfl (Nat.le_of_ble_eq_true rfl) (fun pp ee ss mm below meth cC E hr hml hown hts hlocks hM hK ls hl => ?_)
  have hl : lv_has ls 4 [(0, .ref (o 0)), (1, .int (iI e))] := hl
  have hcs : 0 ≤ (({ frames := 3, cells := 0, slots := 0, locals := 65 } : Room)).cells ∧ 0 ≤ (({ frames := 3, cells := 0, slots := 0, locals := 65 } : Room)).slots := ⟨Nat.zero_le _, Nat.zero_le _⟩
  have hS : va_S (Ax o 6) ss.heap ss.heap [] := va_S.rf
  have hin8 : ∀ w ∈ wsX80, w ∈ wsX8_takesName := fun w h => List.mem_cons_of_mem _ (List.mem_append_right _ (h))
  have h7 := htk.n7
  have h9 := htk.be9
  have h8 := htk.at8
  have h10 := htk.ki10
  have hcn := htk.c0
  have hsn := htk.skb
  have htn := htk.teb
  have hkd := kd_b β n c
  have hJF := hJ.F
  refine lv_aload_n (pc := 0) E.1 E.2 dX8_takesName_0 rfl (lv_at hl 0 rfl) ?_
  refine g8_12 (pc := 1) E hts hin8 hown hK hM.1 (hts _ (List.mem_of_getElem? (i := 1) rfl)) dX8_takesName_1 ?_
  refine z_if_ne (pc := 4) (tgt := 34) E ⟨by omega, by omega⟩ dX8_takesName_4 (by decide) (fun h4 => ?_) (fun h4 => ?_)
  · exact absurd hw h4
  · refine lv_aload_n (pc := 7) E.1 E.2 dX8_takesName_7 rfl (lv_at hl 0 rfl) ?_
    refine g8_10 (pc := 8) E hts hin8 hown hK hM.1 (hts _ (List.mem_of_getElem? (i := 2) rfl)) dX8_takesName_8 ?_
    refine z_if_ne (pc := 11) (tgt := 28) E ⟨by omega, by omega⟩ dX8_takesName_11 (by decide) (fun h11 => ?_) (fun h11 => ?_)
    · have hx : rFol β n φ c = -2 := by unfold rFol rWd; rw [if_neg (fun z => by omega)]
      refine lv_aload_n (pc := 28) E.1 E.2 dX8_takesName_28 rfl (lv_at hl 0 rfl) ?_
      refine z_bipush (pc := 29) E (by decide) dX8_takesName_29 ?_
      refine z_wVv (pc := 31) (P1 := fun H9 : Heap => ∃ (μ31 : Int → Int), W8 G o (mV o μ31) σ φ κ β ω H9 ∧ (KQ μ31 μ) ∧ (μ31 12 = (-2)) ∧ (μ31 13 = μ 8) ∧ (μ31 15 = μ 15) ∧ (μ31 8 = μ 8) ∧ (μ31 10 = μ 10)) (As := [.int (iI (-2))]) (rest := []) E hml hown hts (mX8_failsZ lL G o μ σ φ κ β ω (-2) (by decide) (by omega)) (cwV 1 hts gX8_takesName_X8_fails rfl rfl rfl vdX8_fails ⟨Nat.le_of_ble_eq_true rfl, Nat.le_of_ble_eq_true rfl⟩) (oB.recv hK hM.1 rfl) hM hK hS (fun _ h => h) rfl hl.1 rfl dX8_takesName_31 hcs (Nat.le_of_ble_eq_true rfl) (fun H locs hnew hsz hoth hS => ?_)
      obtain ⟨μ31, hM, kq_31, e2_31, e3_31, e5_31, e8_31, e10_31⟩ := hnew
      have hw31 : ¬ μ31 12 = 0 := by omega
      refine lv_aload_n (pc := 34) E.1 E.2 dX8_takesName_34 rfl (lv_at hl 0 rfl) ?_
      refine g8_12 (pc := 35) E hts hin8 hown hK hM.1 (hts _ (List.mem_of_getElem? (i := 1) rfl)) dX8_takesName_35 ?_
      refine z_if_ne (pc := 38) (tgt := 71) E ⟨by omega, by omega⟩ dX8_takesName_38 (by decide) (fun h38 => ?_) (fun h38 => ?_)
      · refine lv_aload_n (pc := 71) E.1 E.2 dX8_takesName_71 rfl (lv_at hl 0 rfl) ?_
        refine g8_15 (pc := 72) E hts hin8 hown hK hM.1 (hts _ (List.mem_of_getElem? (i := 6) rfl)) dX8_takesName_72 ?_
        refine lv_lstore_n (pc := 75) (lv' := [(2, .long (iL (μ31 15))), (0, .ref (o 0)), (1, .int (iI e))]) E.1 E.2 dX8_takesName_75 rfl hl (by decide) rfl (fun ls hl => ?_)
        refine lv_aload_n (pc := 76) E.1 E.2 dX8_takesName_76 rfl (lv_at hl 1 rfl) ?_
        refine g8_12 (pc := 77) E hts hin8 hown hK hM.1 (hts _ (List.mem_of_getElem? (i := 1) rfl)) dX8_takesName_77 ?_
        refine z_if_ne (pc := 80) (tgt := 87) E ⟨by omega, by omega⟩ dX8_takesName_80 (by decide) (fun h80 => ?_) (fun h80 => ?_)
        · refine lv_lload_n (pc := 87) E.1 E.2 dX8_takesName_87 rfl (lv_at hl 0 rfl) ?_
          exact z_retWl (P1 := fun H9 : Heap => ∃ (μ1 : Int → Int), W8 G o (mV o μ1) σ φ κ β ω H9 ∧ (KQ μ1 μ) ∧ (rFol β n φ c = 0 → μ1 12 = 0 ∧ TK β n μ1 (te β n c)) ∧ (¬ rFol β n φ c = 0 → μ1 12 = rFol β n φ c ∧ μ1 13 = sk β n c ∧ (0 ≤ μ1 8 ∧ μ1 8 ≤ 900) ∧ (0 ≤ μ1 10 ∧ μ1 10 ≤ 3)) ∧ (-9223372036854775808 ≤ μ1 15 ∧ μ1 15 < 9223372036854775808)) E hr (congrArg iL (by (first | rfl | omega))) ⟨μ31, hM, (kq_31.t (KQ.rf μ)), (fun z => absurd z (by omega)), (fun z => And.intro (by omega) (by omega)), (by omega)⟩ hS hlocks dX8_takesName_88
        · exact absurd h80 (by first | exact hw31 | exact fun q => hw31 q | omega)
      · exact absurd h38 (by first | exact hw31 | exact fun q => hw31 q | omega)
    · refine lv_aload_n (pc := 14) E.1 E.2 dX8_takesName_14 rfl (lv_at hl 0 rfl) ?_
      refine g8_9 (pc := 15) E hts hin8 hown hK hM.1 (hts _ (List.mem_of_getElem? (i := 3) rfl)) dX8_takesName_15 ?_
      refine lv_aload_n (pc := 18) E.1 E.2 dX8_takesName_18 rfl (lv_at hl 0 rfl) ?_
      refine g8_8 (pc := 19) E hts hin8 hown hK hM.1 (hts _ (List.mem_of_getElem? (i := 4) rfl)) dX8_takesName_19 ?_
      refine z_isub (pc := 22) E dX8_takesName_22 ?_
      refine z_bipush (pc := 23) E (by decide) dX8_takesName_23 ?_
      refine z_icmp_le (pc := 25) (tgt := 34) E ⟨by omega, by omega⟩ (by decide) dX8_takesName_25 (by decide) (fun h25 => ?_) (fun h25 => ?_)
      · have hwo := htk.wo (by omega)
        have hrd : rWd β n c = 0 := by unfold rWd; rw [if_pos ⟨by omega, by omega⟩]
        refine lv_aload_n (pc := 34) E.1 E.2 dX8_takesName_34 rfl (lv_at hl 0 rfl) ?_
        refine g8_12 (pc := 35) E hts hin8 hown hK hM.1 (hts _ (List.mem_of_getElem? (i := 1) rfl)) dX8_takesName_35 ?_
        refine z_if_ne (pc := 38) (tgt := 71) E ⟨by omega, by omega⟩ dX8_takesName_38 (by decide) (fun h38 => ?_) (fun h38 => ?_)
        · exact absurd h38 (by first | exact h4 | exact fun q => h4 q | omega)
        · refine lv_aload_n (pc := 41) E.1 E.2 dX8_takesName_41 rfl (lv_at hl 0 rfl) ?_
          refine g8_1 (pc := 42) E hts hin8 hown hK hM.1 (hts _ (List.mem_of_getElem? (i := 5) rfl)) dX8_takesName_42 ?_
          refine lv_aload_n (pc := 45) E.1 E.2 dX8_takesName_45 rfl (lv_at hl 0 rfl) ?_
          refine g8_15 (pc := 46) E hts hin8 hown hK hM.1 (hts _ (List.mem_of_getElem? (i := 6) rfl)) dX8_takesName_46 ?_
          refine z_rSi (pc := 49) (As := [.ref (o 2), .long (iL (μ 15))]) (rest := []) E hml hown hts (mX8_named lL G (o 2) φ (μ 15) (by omega) hJ.bd (by omega)) (va_cwS 2 hts gX8_takesName_X8_named rfl rfl rfl vdX8_named.2 ⟨Nat.le_of_ble_eq_true rfl, Nat.le_of_ble_eq_true rfl⟩) hM.2.2.1 hK rfl hl.1 rfl dX8_takesName_49 hcs (Nat.le_of_ble_eq_true rfl) ?_
          have hfn := fnS_r hJ (μ 15)
          refine z_iconst (pc := 52) E dX8_takesName_52 ?_
          refine z_icmp_eq (pc := 53) (tgt := 60) E ⟨by omega, by omega⟩ (by decide) dX8_takesName_53 (by decide) (fun h53 => ?_) (fun h53 => ?_)
          · refine z_iconst (pc := 60) E dX8_takesName_60 ?_
            refine lv_iload_n (pc := 61) E.1 E.2 dX8_takesName_61 rfl (lv_at hl 1 rfl) ?_
            refine z_icmp_eq (pc := 62) (tgt := 71) E (by decide) ⟨by omega, by omega⟩ dX8_takesName_62 (by decide) (fun h62 => ?_) (fun h62 => ?_)
            · have hx : rFol β n φ c = 0 := by unfold rFol; rw [if_pos hrd, ← hwo]; first | exact if_pos (by omega) | exact if_neg (by omega)
              refine lv_aload_n (pc := 71) E.1 E.2 dX8_takesName_71 rfl (lv_at hl 0 rfl) ?_
              refine g8_15 (pc := 72) E hts hin8 hown hK hM.1 (hts _ (List.mem_of_getElem? (i := 6) rfl)) dX8_takesName_72 ?_
              refine lv_lstore_n (pc := 75) (lv' := [(2, .long (iL (μ 15))), (0, .ref (o 0)), (1, .int (iI e))]) E.1 E.2 dX8_takesName_75 rfl hl (by decide) rfl (fun ls hl => ?_)
              refine lv_aload_n (pc := 76) E.1 E.2 dX8_takesName_76 rfl (lv_at hl 1 rfl) ?_
              refine g8_12 (pc := 77) E hts hin8 hown hK hM.1 (hts _ (List.mem_of_getElem? (i := 1) rfl)) dX8_takesName_77 ?_
              refine z_if_ne (pc := 80) (tgt := 87) E ⟨by omega, by omega⟩ dX8_takesName_80 (by decide) (fun h80 => ?_) (fun h80 => ?_)
              · exact absurd h80 (by first | exact h4 | exact fun q => h4 q | omega)
              · refine lv_aload_n (pc := 83) E.1 E.2 dX8_takesName_83 rfl (lv_at hl 1 rfl) ?_
                refine z_wVv (pc := 84) (P1 := fun H9 : Heap => ∃ (μ84 : Int → Int), W8 G o (mV o μ84) σ φ κ β ω H9 ∧ (KQ μ84 μ) ∧ (μ84 12 = μ 12) ∧ (μ84 13 = μ 13) ∧ (TK β n μ84 (te β n c)) ∧ (-9223372036854775808 ≤ μ84 15 ∧ μ84 15 < 9223372036854775808)) (As := []) (rest := []) E hml hown hts (mX8_next lL G o μ σ φ κ β ω n (te β n c) hb (by omega) (by omega) (by omega) (by omega)) (cwV 0 hts gX8_takesName_X8_next rfl rfl rfl vdX8_next ⟨Nat.le_of_ble_eq_true rfl, Nat.le_of_ble_eq_true rfl⟩) (oB.recv hK hM.1 rfl) hM hK hS (fun _ h => h) rfl hl.1 rfl dX8_takesName_84 hcs (Nat.le_of_ble_eq_true rfl) (fun H locs hnew hsz hoth hS => ?_)
                obtain ⟨μ84, hM, kq_84, e2_84, e3_84, tk_84, rw_84⟩ := hnew
                have hw84 : μ84 12 = 0 := by omega
                refine lv_lload_n (pc := 87) E.1 E.2 dX8_takesName_87 rfl (lv_at hl 0 rfl) ?_
                exact z_retWl (P1 := fun H9 : Heap => ∃ (μ1 : Int → Int), W8 G o (mV o μ1) σ φ κ β ω H9 ∧ (KQ μ1 μ) ∧ (rFol β n φ c = 0 → μ1 12 = 0 ∧ TK β n μ1 (te β n c)) ∧ (¬ rFol β n φ c = 0 → μ1 12 = rFol β n φ c ∧ μ1 13 = sk β n c ∧ (0 ≤ μ1 8 ∧ μ1 8 ≤ 900) ∧ (0 ≤ μ1 10 ∧ μ1 10 ≤ 3)) ∧ (-9223372036854775808 ≤ μ1 15 ∧ μ1 15 < 9223372036854775808)) E hr rfl ⟨μ84, hM, (kq_84.t (KQ.rf μ)), (fun z => And.intro hw84 tk_84), (fun z => absurd hx z), rw_84⟩ hS hlocks dX8_takesName_88
            · have hx : rFol β n φ c = -3 := by unfold rFol; rw [if_pos hrd, ← hwo]; first | exact if_pos (by omega) | exact if_neg (by omega)
              refine lv_aload_n (pc := 65) E.1 E.2 dX8_takesName_65 rfl (lv_at hl 0 rfl) ?_
              refine z_bipush (pc := 66) E (by decide) dX8_takesName_66 ?_
              refine z_wVv (pc := 68) (P1 := fun H9 : Heap => ∃ (μ68 : Int → Int), W8 G o (mV o μ68) σ φ κ β ω H9 ∧ (KQ μ68 μ) ∧ (μ68 12 = (-3)) ∧ (μ68 13 = μ 8) ∧ (μ68 15 = μ 15) ∧ (μ68 8 = μ 8) ∧ (μ68 10 = μ 10)) (As := [.int (iI (-3))]) (rest := []) E hml hown hts (mX8_failsZ lL G o μ σ φ κ β ω (-3) (by decide) (by omega)) (cwV 1 hts gX8_takesName_X8_fails rfl rfl rfl vdX8_fails ⟨Nat.le_of_ble_eq_true rfl, Nat.le_of_ble_eq_true rfl⟩) (oB.recv hK hM.1 rfl) hM hK hS (fun _ h => h) rfl hl.1 rfl dX8_takesName_68 hcs (Nat.le_of_ble_eq_true rfl) (fun H locs hnew hsz hoth hS => ?_)
              obtain ⟨μ68, hM, kq_68, e2_68, e3_68, e5_68, e8_68, e10_68⟩ := hnew
              have hw68 : ¬ μ68 12 = 0 := by omega
              refine lv_aload_n (pc := 71) E.1 E.2 dX8_takesName_71 rfl (lv_at hl 0 rfl) ?_
              refine g8_15 (pc := 72) E hts hin8 hown hK hM.1 (hts _ (List.mem_of_getElem? (i := 6) rfl)) dX8_takesName_72 ?_
              refine lv_lstore_n (pc := 75) (lv' := [(2, .long (iL (μ68 15))), (0, .ref (o 0)), (1, .int (iI e))]) E.1 E.2 dX8_takesName_75 rfl hl (by decide) rfl (fun ls hl => ?_)
              refine lv_aload_n (pc := 76) E.1 E.2 dX8_takesName_76 rfl (lv_at hl 1 rfl) ?_
              refine g8_12 (pc := 77) E hts hin8 hown hK hM.1 (hts _ (List.mem_of_getElem? (i := 1) rfl)) dX8_takesName_77 ?_
              refine z_if_ne (pc := 80) (tgt := 87) E ⟨by omega, by omega⟩ dX8_takesName_80 (by decide) (fun h80 => ?_) (fun h80 => ?_)
              · refine lv_lload_n (pc := 87) E.1 E.2 dX8_takesName_87 rfl (lv_at hl 0 rfl) ?_
                exact z_retWl (P1 := fun H9 : Heap => ∃ (μ1 : Int → Int), W8 G o (mV o μ1) σ φ κ β ω H9 ∧ (KQ μ1 μ) ∧ (rFol β n φ c = 0 → μ1 12 = 0 ∧ TK β n μ1 (te β n c)) ∧ (¬ rFol β n φ c = 0 → μ1 12 = rFol β n φ c ∧ μ1 13 = sk β n c ∧ (0 ≤ μ1 8 ∧ μ1 8 ≤ 900) ∧ (0 ≤ μ1 10 ∧ μ1 10 ≤ 3)) ∧ (-9223372036854775808 ≤ μ1 15 ∧ μ1 15 < 9223372036854775808)) E hr (congrArg iL (by (first | rfl | omega))) ⟨μ68, hM, (kq_68.t (KQ.rf μ)), (fun z => absurd z (by omega)), (fun z => And.intro (by omega) (by omega)), (by omega)⟩ hS hlocks dX8_takesName_88
              · exact absurd h80 (by first | exact hw68 | exact fun q => hw68 q | omega)
          · refine z_iconst (pc := 56) E dX8_takesName_56 ?_
            refine lv_goto (pc := 57) (tgt := 61) E.1 E.2 dX8_takesName_57 (by decide) ?_
            refine lv_iload_n (pc := 61) E.1 E.2 dX8_takesName_61 rfl (lv_at hl 1 rfl) ?_
            refine z_icmp_eq (pc := 62) (tgt := 71) E (by decide) ⟨by omega, by omega⟩ dX8_takesName_62 (by decide) (fun h62 => ?_) (fun h62 => ?_)
            · have hx : rFol β n φ c = 0 := by unfold rFol; rw [if_pos hrd, ← hwo]; first | exact if_pos (by omega) | exact if_neg (by omega)
              refine lv_aload_n (pc := 71) E.1 E.2 dX8_takesName_71 rfl (lv_at hl 0 rfl) ?_
              refine g8_15 (pc := 72) E hts hin8 hown hK hM.1 (hts _ (List.mem_of_getElem? (i := 6) rfl)) dX8_takesName_72 ?_
              refine lv_lstore_n (pc := 75) (lv' := [(2, .long (iL (μ 15))), (0, .ref (o 0)), (1, .int (iI e))]) E.1 E.2 dX8_takesName_75 rfl hl (by decide) rfl (fun ls hl => ?_)
              refine lv_aload_n (pc := 76) E.1 E.2 dX8_takesName_76 rfl (lv_at hl 1 rfl) ?_
              refine g8_12 (pc := 77) E hts hin8 hown hK hM.1 (hts _ (List.mem_of_getElem? (i := 1) rfl)) dX8_takesName_77 ?_
              refine z_if_ne (pc := 80) (tgt := 87) E ⟨by omega, by omega⟩ dX8_takesName_80 (by decide) (fun h80 => ?_) (fun h80 => ?_)
              · exact absurd h80 (by first | exact h4 | exact fun q => h4 q | omega)
              · refine lv_aload_n (pc := 83) E.1 E.2 dX8_takesName_83 rfl (lv_at hl 1 rfl) ?_
                refine z_wVv (pc := 84) (P1 := fun H9 : Heap => ∃ (μ84 : Int → Int), W8 G o (mV o μ84) σ φ κ β ω H9 ∧ (KQ μ84 μ) ∧ (μ84 12 = μ 12) ∧ (μ84 13 = μ 13) ∧ (TK β n μ84 (te β n c)) ∧ (-9223372036854775808 ≤ μ84 15 ∧ μ84 15 < 9223372036854775808)) (As := []) (rest := []) E hml hown hts (mX8_next lL G o μ σ φ κ β ω n (te β n c) hb (by omega) (by omega) (by omega) (by omega)) (cwV 0 hts gX8_takesName_X8_next rfl rfl rfl vdX8_next ⟨Nat.le_of_ble_eq_true rfl, Nat.le_of_ble_eq_true rfl⟩) (oB.recv hK hM.1 rfl) hM hK hS (fun _ h => h) rfl hl.1 rfl dX8_takesName_84 hcs (Nat.le_of_ble_eq_true rfl) (fun H locs hnew hsz hoth hS => ?_)
                obtain ⟨μ84, hM, kq_84, e2_84, e3_84, tk_84, rw_84⟩ := hnew
                have hw84 : μ84 12 = 0 := by omega
                refine lv_lload_n (pc := 87) E.1 E.2 dX8_takesName_87 rfl (lv_at hl 0 rfl) ?_
                exact z_retWl (P1 := fun H9 : Heap => ∃ (μ1 : Int → Int), W8 G o (mV o μ1) σ φ κ β ω H9 ∧ (KQ μ1 μ) ∧ (rFol β n φ c = 0 → μ1 12 = 0 ∧ TK β n μ1 (te β n c)) ∧ (¬ rFol β n φ c = 0 → μ1 12 = rFol β n φ c ∧ μ1 13 = sk β n c ∧ (0 ≤ μ1 8 ∧ μ1 8 ≤ 900) ∧ (0 ≤ μ1 10 ∧ μ1 10 ≤ 3)) ∧ (-9223372036854775808 ≤ μ1 15 ∧ μ1 15 < 9223372036854775808)) E hr rfl ⟨μ84, hM, (kq_84.t (KQ.rf μ)), (fun z => And.intro hw84 tk_84), (fun z => absurd hx z), rw_84⟩ hS hlocks dX8_takesName_88
            · have hx : rFol β n φ c = -3 := by unfold rFol; rw [if_pos hrd, ← hwo]; first | exact if_pos (by omega) | exact if_neg (by omega)
              refine lv_aload_n (pc := 65) E.1 E.2 dX8_takesName_65 rfl (lv_at hl 0 rfl) ?_
              refine z_bipush (pc := 66) E (by decide) dX8_takesName_66 ?_
              refine z_wVv (pc := 68) (P1 := fun H9 : Heap => ∃ (μ68 : Int → Int), W8 G o (mV o μ68) σ φ κ β ω H9 ∧ (KQ μ68 μ) ∧ (μ68 12 = (-3)) ∧ (μ68 13 = μ 8) ∧ (μ68 15 = μ 15) ∧ (μ68 8 = μ 8) ∧ (μ68 10 = μ 10)) (As := [.int (iI (-3))]) (rest := []) E hml hown hts (mX8_failsZ lL G o μ σ φ κ β ω (-3) (by decide) (by omega)) (cwV 1 hts gX8_takesName_X8_fails rfl rfl rfl vdX8_fails ⟨Nat.le_of_ble_eq_true rfl, Nat.le_of_ble_eq_true rfl⟩) (oB.recv hK hM.1 rfl) hM hK hS (fun _ h => h) rfl hl.1 rfl dX8_takesName_68 hcs (Nat.le_of_ble_eq_true rfl) (fun H locs hnew hsz hoth hS => ?_)
              obtain ⟨μ68, hM, kq_68, e2_68, e3_68, e5_68, e8_68, e10_68⟩ := hnew
              have hw68 : ¬ μ68 12 = 0 := by omega
              refine lv_aload_n (pc := 71) E.1 E.2 dX8_takesName_71 rfl (lv_at hl 0 rfl) ?_
              refine g8_15 (pc := 72) E hts hin8 hown hK hM.1 (hts _ (List.mem_of_getElem? (i := 6) rfl)) dX8_takesName_72 ?_
              refine lv_lstore_n (pc := 75) (lv' := [(2, .long (iL (μ68 15))), (0, .ref (o 0)), (1, .int (iI e))]) E.1 E.2 dX8_takesName_75 rfl hl (by decide) rfl (fun ls hl => ?_)
              refine lv_aload_n (pc := 76) E.1 E.2 dX8_takesName_76 rfl (lv_at hl 1 rfl) ?_
              refine g8_12 (pc := 77) E hts hin8 hown hK hM.1 (hts _ (List.mem_of_getElem? (i := 1) rfl)) dX8_takesName_77 ?_
              refine z_if_ne (pc := 80) (tgt := 87) E ⟨by omega, by omega⟩ dX8_takesName_80 (by decide) (fun h80 => ?_) (fun h80 => ?_)
              · refine lv_lload_n (pc := 87) E.1 E.2 dX8_takesName_87 rfl (lv_at hl 0 rfl) ?_
                exact z_retWl (P1 := fun H9 : Heap => ∃ (μ1 : Int → Int), W8 G o (mV o μ1) σ φ κ β ω H9 ∧ (KQ μ1 μ) ∧ (rFol β n φ c = 0 → μ1 12 = 0 ∧ TK β n μ1 (te β n c)) ∧ (¬ rFol β n φ c = 0 → μ1 12 = rFol β n φ c ∧ μ1 13 = sk β n c ∧ (0 ≤ μ1 8 ∧ μ1 8 ≤ 900) ∧ (0 ≤ μ1 10 ∧ μ1 10 ≤ 3)) ∧ (-9223372036854775808 ≤ μ1 15 ∧ μ1 15 < 9223372036854775808)) E hr (congrArg iL (by (first | rfl | omega))) ⟨μ68, hM, (kq_68.t (KQ.rf μ)), (fun z => absurd z (by omega)), (fun z => And.intro (by omega) (by omega)), (by omega)⟩ hS hlocks dX8_takesName_88
              · exact absurd h80 (by first | exact hw68 | exact fun q => hw68 q | omega)
      · have hx : rFol β n φ c = -2 := by unfold rFol rWd; rw [if_neg (fun z => by omega)]
        refine lv_aload_n (pc := 28) E.1 E.2 dX8_takesName_28 rfl (lv_at hl 0 rfl) ?_
        refine z_bipush (pc := 29) E (by decide) dX8_takesName_29 ?_
        refine z_wVv (pc := 31) (P1 := fun H9 : Heap => ∃ (μ31 : Int → Int), W8 G o (mV o μ31) σ φ κ β ω H9 ∧ (KQ μ31 μ) ∧ (μ31 12 = (-2)) ∧ (μ31 13 = μ 8) ∧ (μ31 15 = μ 15) ∧ (μ31 8 = μ 8) ∧ (μ31 10 = μ 10)) (As := [.int (iI (-2))]) (rest := []) E hml hown hts (mX8_failsZ lL G o μ σ φ κ β ω (-2) (by decide) (by omega)) (cwV 1 hts gX8_takesName_X8_fails rfl rfl rfl vdX8_fails ⟨Nat.le_of_ble_eq_true rfl, Nat.le_of_ble_eq_true rfl⟩) (oB.recv hK hM.1 rfl) hM hK hS (fun _ h => h) rfl hl.1 rfl dX8_takesName_31 hcs (Nat.le_of_ble_eq_true rfl) (fun H locs hnew hsz hoth hS => ?_)
        obtain ⟨μ31, hM, kq_31, e2_31, e3_31, e5_31, e8_31, e10_31⟩ := hnew
        have hw31 : ¬ μ31 12 = 0 := by omega
        refine lv_aload_n (pc := 34) E.1 E.2 dX8_takesName_34 rfl (lv_at hl 0 rfl) ?_
        refine g8_12 (pc := 35) E hts hin8 hown hK hM.1 (hts _ (List.mem_of_getElem? (i := 1) rfl)) dX8_takesName_35 ?_
        refine z_if_ne (pc := 38) (tgt := 71) E ⟨by omega, by omega⟩ dX8_takesName_38 (by decide) (fun h38 => ?_) (fun h38 => ?_)
        · refine lv_aload_n (pc := 71) E.1 E.2 dX8_takesName_71 rfl (lv_at hl 0 rfl) ?_
          refine g8_15 (pc := 72) E hts hin8 hown hK hM.1 (hts _ (List.mem_of_getElem? (i := 6) rfl)) dX8_takesName_72 ?_
          refine lv_lstore_n (pc := 75) (lv' := [(2, .long (iL (μ31 15))), (0, .ref (o 0)), (1, .int (iI e))]) E.1 E.2 dX8_takesName_75 rfl hl (by decide) rfl (fun ls hl => ?_)
          refine lv_aload_n (pc := 76) E.1 E.2 dX8_takesName_76 rfl (lv_at hl 1 rfl) ?_
          refine g8_12 (pc := 77) E hts hin8 hown hK hM.1 (hts _ (List.mem_of_getElem? (i := 1) rfl)) dX8_takesName_77 ?_
          refine z_if_ne (pc := 80) (tgt := 87) E ⟨by omega, by omega⟩ dX8_takesName_80 (by decide) (fun h80 => ?_) (fun h80 => ?_)
          · refine lv_lload_n (pc := 87) E.1 E.2 dX8_takesName_87 rfl (lv_at hl 0 rfl) ?_
            exact z_retWl (P1 := fun H9 : Heap => ∃ (μ1 : Int → Int), W8 G o (mV o μ1) σ φ κ β ω H9 ∧ (KQ μ1 μ) ∧ (rFol β n φ c = 0 → μ1 12 = 0 ∧ TK β n μ1 (te β n c)) ∧ (¬ rFol β n φ c = 0 → μ1 12 = rFol β n φ c ∧ μ1 13 = sk β n c ∧ (0 ≤ μ1 8 ∧ μ1 8 ≤ 900) ∧ (0 ≤ μ1 10 ∧ μ1 10 ≤ 3)) ∧ (-9223372036854775808 ≤ μ1 15 ∧ μ1 15 < 9223372036854775808)) E hr (congrArg iL (by (first | rfl | omega))) ⟨μ31, hM, (kq_31.t (KQ.rf μ)), (fun z => absurd z (by omega)), (fun z => And.intro (by omega) (by omega)), (by omega)⟩ hS hlocks dX8_takesName_88
          · exact absurd h80 (by first | exact hw31 | exact fun q => hw31 q | omega)
        · exact absurd h38 (by first | exact hw31 | exact fun q => hw31 q | omega)
set_option maxHeartbeats 1000000 in
set_option maxRecDepth 100000 in
theorem mX8_takesNamerNew (lL : Launch) (G : GG) (o : Nat → Nat) (μ σ φ κ β ω : Int → Int) (e : Int) (n : Int) (c : Int) (hb : TX β) (he : e = 0) (hw : μ 12 = 0) (htk : TK β n μ c) (hrw : -9223372036854775808 ≤ μ 15 ∧ μ 15 < 9223372036854775808) (hJ : In φ) : Met lL yX8_takesName wsX8_takesName ({ frames := 3, cells := 0, slots := 0, locals := 65 } : Room) (va_Pc [.ref (o 0), .int (iI e)] (fun U => W8 G o (mV o μ) σ φ κ β ω U.heap ∧ KK G U)) (va_Ql (fun r (_ : Unit) => r = (iL (μ 15))) (fun _ tZ => ∃ (μ1 : Int → Int), W8 G o (mV o μ1) σ φ κ β ω tZ.heap ∧ (KQ μ1 μ) ∧ (rNew β n φ c = 0 → μ1 12 = 0 ∧ TK β n μ1 (te β n c)) ∧ (¬ rNew β n φ c = 0 → μ1 12 = rNew β n φ c ∧ μ1 13 = sk β n c ∧ (0 ≤ μ1 8 ∧ μ1 8 ≤ 900) ∧ (0 ≤ μ1 10 ∧ μ1 10 ≤ 3)) ∧ (-9223372036854775808 ≤ μ1 15 ∧ μ1 15 < 9223372036854775808)) (Ax o 6)) 0 0 (Ax o 6) := by
  refine z_met (P := (fun H : Heap => W8 G o (mV o μ) σ φ κ β ω H)) (by decide) rfl (Nat.le_of_ble_eq_true rfl) (fun pp ee ss mm below meth cC E hr hml hown hts hlocks hM hK ls hl => ?_)
  have hl : lv_has ls 4 [(0, .ref (o 0)), (1, .int (iI e))] := hl
  have hcs : 0 ≤ (({ frames := 3, cells := 0, slots := 0, locals := 65 } : Room)).cells ∧ 0 ≤ (({ frames := 3, cells := 0, slots := 0, locals := 65 } : Room)).slots := ⟨Nat.zero_le _, Nat.zero_le _⟩
  have hS : va_S (Ax o 6) ss.heap ss.heap [] := va_S.rf
  have hin8 : ∀ w ∈ wsX80, w ∈ wsX8_takesName := fun w h => List.mem_cons_of_mem _ (List.mem_append_right _ (h))
  have h7 := htk.n7
  have h9 := htk.be9
  have h8 := htk.at8
  have h10 := htk.ki10
  have hcn := htk.c0
  have hsn := htk.skb
  have htn := htk.teb
  have hkd := kd_b β n c
  have hJF := hJ.F
  refine lv_aload_n (pc := 0) E.1 E.2 dX8_takesName_0 rfl (lv_at hl 0 rfl) ?_
  refine g8_12 (pc := 1) E hts hin8 hown hK hM.1 (hts _ (List.mem_of_getElem? (i := 1) rfl)) dX8_takesName_1 ?_
  refine z_if_ne (pc := 4) (tgt := 34) E ⟨by omega, by omega⟩ dX8_takesName_4 (by decide) (fun h4 => ?_) (fun h4 => ?_)
  · exact absurd hw h4
  · refine lv_aload_n (pc := 7) E.1 E.2 dX8_takesName_7 rfl (lv_at hl 0 rfl) ?_
    refine g8_10 (pc := 8) E hts hin8 hown hK hM.1 (hts _ (List.mem_of_getElem? (i := 2) rfl)) dX8_takesName_8 ?_
    refine z_if_ne (pc := 11) (tgt := 28) E ⟨by omega, by omega⟩ dX8_takesName_11 (by decide) (fun h11 => ?_) (fun h11 => ?_)
    · have hx : rNew β n φ c = -2 := by unfold rNew rWd; rw [if_neg (fun z => by omega)]
      refine lv_aload_n (pc := 28) E.1 E.2 dX8_takesName_28 rfl (lv_at hl 0 rfl) ?_
      refine z_bipush (pc := 29) E (by decide) dX8_takesName_29 ?_
      refine z_wVv (pc := 31) (P1 := fun H9 : Heap => ∃ (μ31 : Int → Int), W8 G o (mV o μ31) σ φ κ β ω H9 ∧ (KQ μ31 μ) ∧ (μ31 12 = (-2)) ∧ (μ31 13 = μ 8) ∧ (μ31 15 = μ 15) ∧ (μ31 8 = μ 8) ∧ (μ31 10 = μ 10)) (As := [.int (iI (-2))]) (rest := []) E hml hown hts (mX8_failsZ lL G o μ σ φ κ β ω (-2) (by decide) (by omega)) (cwV 1 hts gX8_takesName_X8_fails rfl rfl rfl vdX8_fails ⟨Nat.le_of_ble_eq_true rfl, Nat.le_of_ble_eq_true rfl⟩) (oB.recv hK hM.1 rfl) hM hK hS (fun _ h => h) rfl hl.1 rfl dX8_takesName_31 hcs (Nat.le_of_ble_eq_true rfl) (fun H locs hnew hsz hoth hS => ?_)
      obtain ⟨μ31, hM, kq_31, e2_31, e3_31, e5_31, e8_31, e10_31⟩ := hnew
      have hw31 : ¬ μ31 12 = 0 := by omega
      refine lv_aload_n (pc := 34) E.1 E.2 dX8_takesName_34 rfl (lv_at hl 0 rfl) ?_
      refine g8_12 (pc := 35) E hts hin8 hown hK hM.1 (hts _ (List.mem_of_getElem? (i := 1) rfl)) dX8_takesName_35 ?_
      refine z_if_ne (pc := 38) (tgt := 71) E ⟨by omega, by omega⟩ dX8_takesName_38 (by decide) (fun h38 => ?_) (fun h38 => ?_)
      · refine lv_aload_n (pc := 71) E.1 E.2 dX8_takesName_71 rfl (lv_at hl 0 rfl) ?_
        refine g8_15 (pc := 72) E hts hin8 hown hK hM.1 (hts _ (List.mem_of_getElem? (i := 6) rfl)) dX8_takesName_72 ?_
        refine lv_lstore_n (pc := 75) (lv' := [(2, .long (iL (μ31 15))), (0, .ref (o 0)), (1, .int (iI e))]) E.1 E.2 dX8_takesName_75 rfl hl (by decide) rfl (fun ls hl => ?_)
        refine lv_aload_n (pc := 76) E.1 E.2 dX8_takesName_76 rfl (lv_at hl 1 rfl) ?_
        refine g8_12 (pc := 77) E hts hin8 hown hK hM.1 (hts _ (List.mem_of_getElem? (i := 1) rfl)) dX8_takesName_77 ?_
        refine z_if_ne (pc := 80) (tgt := 87) E ⟨by omega, by omega⟩ dX8_takesName_80 (by decide) (fun h80 => ?_) (fun h80 => ?_)
        · refine lv_lload_n (pc := 87) E.1 E.2 dX8_takesName_87 rfl (lv_at hl 0 rfl) ?_
          exact z_retWl (P1 := fun H9 : Heap => ∃ (μ1 : Int → Int), W8 G o (mV o μ1) σ φ κ β ω H9 ∧ (KQ μ1 μ) ∧ (rNew β n φ c = 0 → μ1 12 = 0 ∧ TK β n μ1 (te β n c)) ∧ (¬ rNew β n φ c = 0 → μ1 12 = rNew β n φ c ∧ μ1 13 = sk β n c ∧ (0 ≤ μ1 8 ∧ μ1 8 ≤ 900) ∧ (0 ≤ μ1 10 ∧ μ1 10 ≤ 3)) ∧ (-9223372036854775808 ≤ μ1 15 ∧ μ1 15 < 9223372036854775808)) E hr (congrArg iL (by (first | rfl | omega))) ⟨μ31, hM, (kq_31.t (KQ.rf μ)), (fun z => absurd z (by omega)), (fun z => And.intro (by omega) (by omega)), (by omega)⟩ hS hlocks dX8_takesName_88
        · exact absurd h80 (by first | exact hw31 | exact fun q => hw31 q | omega)
      · exact absurd h38 (by first | exact hw31 | exact fun q => hw31 q | omega)
    · refine lv_aload_n (pc := 14) E.1 E.2 dX8_takesName_14 rfl (lv_at hl 0 rfl) ?_
      refine g8_9 (pc := 15) E hts hin8 hown hK hM.1 (hts _ (List.mem_of_getElem? (i := 3) rfl)) dX8_takesName_15 ?_
      refine lv_aload_n (pc := 18) E.1 E.2 dX8_takesName_18 rfl (lv_at hl 0 rfl) ?_
      refine g8_8 (pc := 19) E hts hin8 hown hK hM.1 (hts _ (List.mem_of_getElem? (i := 4) rfl)) dX8_takesName_19 ?_
      refine z_isub (pc := 22) E dX8_takesName_22 ?_
      refine z_bipush (pc := 23) E (by decide) dX8_takesName_23 ?_
      refine z_icmp_le (pc := 25) (tgt := 34) E ⟨by omega, by omega⟩ (by decide) dX8_takesName_25 (by decide) (fun h25 => ?_) (fun h25 => ?_)
      · have hwo := htk.wo (by omega)
        have hrd : rWd β n c = 0 := by unfold rWd; rw [if_pos ⟨by omega, by omega⟩]
        refine lv_aload_n (pc := 34) E.1 E.2 dX8_takesName_34 rfl (lv_at hl 0 rfl) ?_
        refine g8_12 (pc := 35) E hts hin8 hown hK hM.1 (hts _ (List.mem_of_getElem? (i := 1) rfl)) dX8_takesName_35 ?_
        refine z_if_ne (pc := 38) (tgt := 71) E ⟨by omega, by omega⟩ dX8_takesName_38 (by decide) (fun h38 => ?_) (fun h38 => ?_)
        · exact absurd h38 (by first | exact h4 | exact fun q => h4 q | omega)
        · refine lv_aload_n (pc := 41) E.1 E.2 dX8_takesName_41 rfl (lv_at hl 0 rfl) ?_
          refine g8_1 (pc := 42) E hts hin8 hown hK hM.1 (hts _ (List.mem_of_getElem? (i := 5) rfl)) dX8_takesName_42 ?_
          refine lv_aload_n (pc := 45) E.1 E.2 dX8_takesName_45 rfl (lv_at hl 0 rfl) ?_
          refine g8_15 (pc := 46) E hts hin8 hown hK hM.1 (hts _ (List.mem_of_getElem? (i := 6) rfl)) dX8_takesName_46 ?_
          refine z_rSi (pc := 49) (As := [.ref (o 2), .long (iL (μ 15))]) (rest := []) E hml hown hts (mX8_named lL G (o 2) φ (μ 15) (by omega) hJ.bd (by omega)) (va_cwS 2 hts gX8_takesName_X8_named rfl rfl rfl vdX8_named.2 ⟨Nat.le_of_ble_eq_true rfl, Nat.le_of_ble_eq_true rfl⟩) hM.2.2.1 hK rfl hl.1 rfl dX8_takesName_49 hcs (Nat.le_of_ble_eq_true rfl) ?_
          have hfn := fnS_r hJ (μ 15)
          refine z_iconst (pc := 52) E dX8_takesName_52 ?_
          refine z_icmp_eq (pc := 53) (tgt := 60) E ⟨by omega, by omega⟩ (by decide) dX8_takesName_53 (by decide) (fun h53 => ?_) (fun h53 => ?_)
          · refine z_iconst (pc := 60) E dX8_takesName_60 ?_
            refine lv_iload_n (pc := 61) E.1 E.2 dX8_takesName_61 rfl (lv_at hl 1 rfl) ?_
            refine z_icmp_eq (pc := 62) (tgt := 71) E (by decide) ⟨by omega, by omega⟩ dX8_takesName_62 (by decide) (fun h62 => ?_) (fun h62 => ?_)
            · have hx : rNew β n φ c = 0 := by unfold rNew; rw [if_pos hrd, ← hwo]; first | exact if_pos (by omega) | exact if_neg (by omega)
              refine lv_aload_n (pc := 71) E.1 E.2 dX8_takesName_71 rfl (lv_at hl 0 rfl) ?_
              refine g8_15 (pc := 72) E hts hin8 hown hK hM.1 (hts _ (List.mem_of_getElem? (i := 6) rfl)) dX8_takesName_72 ?_
              refine lv_lstore_n (pc := 75) (lv' := [(2, .long (iL (μ 15))), (0, .ref (o 0)), (1, .int (iI e))]) E.1 E.2 dX8_takesName_75 rfl hl (by decide) rfl (fun ls hl => ?_)
              refine lv_aload_n (pc := 76) E.1 E.2 dX8_takesName_76 rfl (lv_at hl 1 rfl) ?_
              refine g8_12 (pc := 77) E hts hin8 hown hK hM.1 (hts _ (List.mem_of_getElem? (i := 1) rfl)) dX8_takesName_77 ?_
              refine z_if_ne (pc := 80) (tgt := 87) E ⟨by omega, by omega⟩ dX8_takesName_80 (by decide) (fun h80 => ?_) (fun h80 => ?_)
              · exact absurd h80 (by first | exact h4 | exact fun q => h4 q | omega)
              · refine lv_aload_n (pc := 83) E.1 E.2 dX8_takesName_83 rfl (lv_at hl 1 rfl) ?_
                refine z_wVv (pc := 84) (P1 := fun H9 : Heap => ∃ (μ84 : Int → Int), W8 G o (mV o μ84) σ φ κ β ω H9 ∧ (KQ μ84 μ) ∧ (μ84 12 = μ 12) ∧ (μ84 13 = μ 13) ∧ (TK β n μ84 (te β n c)) ∧ (-9223372036854775808 ≤ μ84 15 ∧ μ84 15 < 9223372036854775808)) (As := []) (rest := []) E hml hown hts (mX8_next lL G o μ σ φ κ β ω n (te β n c) hb (by omega) (by omega) (by omega) (by omega)) (cwV 0 hts gX8_takesName_X8_next rfl rfl rfl vdX8_next ⟨Nat.le_of_ble_eq_true rfl, Nat.le_of_ble_eq_true rfl⟩) (oB.recv hK hM.1 rfl) hM hK hS (fun _ h => h) rfl hl.1 rfl dX8_takesName_84 hcs (Nat.le_of_ble_eq_true rfl) (fun H locs hnew hsz hoth hS => ?_)
                obtain ⟨μ84, hM, kq_84, e2_84, e3_84, tk_84, rw_84⟩ := hnew
                have hw84 : μ84 12 = 0 := by omega
                refine lv_lload_n (pc := 87) E.1 E.2 dX8_takesName_87 rfl (lv_at hl 0 rfl) ?_
                exact z_retWl (P1 := fun H9 : Heap => ∃ (μ1 : Int → Int), W8 G o (mV o μ1) σ φ κ β ω H9 ∧ (KQ μ1 μ) ∧ (rNew β n φ c = 0 → μ1 12 = 0 ∧ TK β n μ1 (te β n c)) ∧ (¬ rNew β n φ c = 0 → μ1 12 = rNew β n φ c ∧ μ1 13 = sk β n c ∧ (0 ≤ μ1 8 ∧ μ1 8 ≤ 900) ∧ (0 ≤ μ1 10 ∧ μ1 10 ≤ 3)) ∧ (-9223372036854775808 ≤ μ1 15 ∧ μ1 15 < 9223372036854775808)) E hr rfl ⟨μ84, hM, (kq_84.t (KQ.rf μ)), (fun z => And.intro hw84 tk_84), (fun z => absurd hx z), rw_84⟩ hS hlocks dX8_takesName_88
            · have hx : rNew β n φ c = -3 := by unfold rNew; rw [if_pos hrd, ← hwo]; first | exact if_pos (by omega) | exact if_neg (by omega)
              refine lv_aload_n (pc := 65) E.1 E.2 dX8_takesName_65 rfl (lv_at hl 0 rfl) ?_
              refine z_bipush (pc := 66) E (by decide) dX8_takesName_66 ?_
              refine z_wVv (pc := 68) (P1 := fun H9 : Heap => ∃ (μ68 : Int → Int), W8 G o (mV o μ68) σ φ κ β ω H9 ∧ (KQ μ68 μ) ∧ (μ68 12 = (-3)) ∧ (μ68 13 = μ 8) ∧ (μ68 15 = μ 15) ∧ (μ68 8 = μ 8) ∧ (μ68 10 = μ 10)) (As := [.int (iI (-3))]) (rest := []) E hml hown hts (mX8_failsZ lL G o μ σ φ κ β ω (-3) (by decide) (by omega)) (cwV 1 hts gX8_takesName_X8_fails rfl rfl rfl vdX8_fails ⟨Nat.le_of_ble_eq_true rfl, Nat.le_of_ble_eq_true rfl⟩) (oB.recv hK hM.1 rfl) hM hK hS (fun _ h => h) rfl hl.1 rfl dX8_takesName_68 hcs (Nat.le_of_ble_eq_true rfl) (fun H locs hnew hsz hoth hS => ?_)
              obtain ⟨μ68, hM, kq_68, e2_68, e3_68, e5_68, e8_68, e10_68⟩ := hnew
              have hw68 : ¬ μ68 12 = 0 := by omega
              refine lv_aload_n (pc := 71) E.1 E.2 dX8_takesName_71 rfl (lv_at hl 0 rfl) ?_
              refine g8_15 (pc := 72) E hts hin8 hown hK hM.1 (hts _ (List.mem_of_getElem? (i := 6) rfl)) dX8_takesName_72 ?_
              refine lv_lstore_n (pc := 75) (lv' := [(2, .long (iL (μ68 15))), (0, .ref (o 0)), (1, .int (iI e))]) E.1 E.2 dX8_takesName_75 rfl hl (by decide) rfl (fun ls hl => ?_)
              refine lv_aload_n (pc := 76) E.1 E.2 dX8_takesName_76 rfl (lv_at hl 1 rfl) ?_
              refine g8_12 (pc := 77) E hts hin8 hown hK hM.1 (hts _ (List.mem_of_getElem? (i := 1) rfl)) dX8_takesName_77 ?_
              refine z_if_ne (pc := 80) (tgt := 87) E ⟨by omega, by omega⟩ dX8_takesName_80 (by decide) (fun h80 => ?_) (fun h80 => ?_)
              · refine lv_lload_n (pc := 87) E.1 E.2 dX8_takesName_87 rfl (lv_at hl 0 rfl) ?_
                exact z_retWl (P1 := fun H9 : Heap => ∃ (μ1 : Int → Int), W8 G o (mV o μ1) σ φ κ β ω H9 ∧ (KQ μ1 μ) ∧ (rNew β n φ c = 0 → μ1 12 = 0 ∧ TK β n μ1 (te β n c)) ∧ (¬ rNew β n φ c = 0 → μ1 12 = rNew β n φ c ∧ μ1 13 = sk β n c ∧ (0 ≤ μ1 8 ∧ μ1 8 ≤ 900) ∧ (0 ≤ μ1 10 ∧ μ1 10 ≤ 3)) ∧ (-9223372036854775808 ≤ μ1 15 ∧ μ1 15 < 9223372036854775808)) E hr (congrArg iL (by (first | rfl | omega))) ⟨μ68, hM, (kq_68.t (KQ.rf μ)), (fun z => absurd z (by omega)), (fun z => And.intro (by omega) (by omega)), (by omega)⟩ hS hlocks dX8_takesName_88
              · exact absurd h80 (by first | exact hw68 | exact fun q => hw68 q | omega)
          · refine z_iconst (pc := 56) E dX8_takesName_56 ?_
            refine lv_goto (pc := 57) (tgt := 61) E.1 E.2 dX8_takesName_57 (by decide) ?_
            refine lv_iload_n (pc := 61) E.1 E.2 dX8_takesName_61 rfl (lv_at hl 1 rfl) ?_
            refine z_icmp_eq (pc := 62) (tgt := 71) E (by decide) ⟨by omega, by omega⟩ dX8_takesName_62 (by decide) (fun h62 => ?_) (fun h62 => ?_)
            · have hx : rNew β n φ c = 0 := by unfold rNew; rw [if_pos hrd, ← hwo]; first | exact if_pos (by omega) | exact if_neg (by omega)
              refine lv_aload_n (pc := 71) E.1 E.2 dX8_takesName_71 rfl (lv_at hl 0 rfl) ?_
              refine g8_15 (pc := 72) E hts hin8 hown hK hM.1 (hts _ (List.mem_of_getElem? (i := 6) rfl)) dX8_takesName_72 ?_
              refine lv_lstore_n (pc := 75) (lv' := [(2, .long (iL (μ 15))), (0, .ref (o 0)), (1, .int (iI e))]) E.1 E.2 dX8_takesName_75 rfl hl (by decide) rfl (fun ls hl => ?_)
              refine lv_aload_n (pc := 76) E.1 E.2 dX8_takesName_76 rfl (lv_at hl 1 rfl) ?_
              refine g8_12 (pc := 77) E hts hin8 hown hK hM.1 (hts _ (List.mem_of_getElem? (i := 1) rfl)) dX8_takesName_77 ?_
              refine z_if_ne (pc := 80) (tgt := 87) E ⟨by omega, by omega⟩ dX8_takesName_80 (by decide) (fun h80 => ?_) (fun h80 => ?_)
              · exact absurd h80 (by first | exact h4 | exact fun q => h4 q | omega)
              · refine lv_aload_n (pc := 83) E.1 E.2 dX8_takesName_83 rfl (lv_at hl 1 rfl) ?_
                refine z_wVv (pc := 84) (P1 := fun H9 : Heap => ∃ (μ84 : Int → Int), W8 G o (mV o μ84) σ φ κ β ω H9 ∧ (KQ μ84 μ) ∧ (μ84 12 = μ 12) ∧ (μ84 13 = μ 13) ∧ (TK β n μ84 (te β n c)) ∧ (-9223372036854775808 ≤ μ84 15 ∧ μ84 15 < 9223372036854775808)) (As := []) (rest := []) E hml hown hts (mX8_next lL G o μ σ φ κ β ω n (te β n c) hb (by omega) (by omega) (by omega) (by omega)) (cwV 0 hts gX8_takesName_X8_next rfl rfl rfl vdX8_next ⟨Nat.le_of_ble_eq_true rfl, Nat.le_of_ble_eq_true rfl⟩) (oB.recv hK hM.1 rfl) hM hK hS (fun _ h => h) rfl hl.1 rfl dX8_takesName_84 hcs (Nat.le_of_ble_eq_true rfl) (fun H locs hnew hsz hoth hS => ?_)
                obtain ⟨μ84, hM, kq_84, e2_84, e3_84, tk_84, rw_84⟩ := hnew
                have hw84 : μ84 12 = 0 := by omega
                refine lv_lload_n (pc := 87) E.1 E.2 dX8_takesName_87 rfl (lv_at hl 0 rfl) ?_
                exact z_retWl (P1 := fun H9 : Heap => ∃ (μ1 : Int → Int), W8 G o (mV o μ1) σ φ κ β ω H9 ∧ (KQ μ1 μ) ∧ (rNew β n φ c = 0 → μ1 12 = 0 ∧ TK β n μ1 (te β n c)) ∧ (¬ rNew β n φ c = 0 → μ1 12 = rNew β n φ c ∧ μ1 13 = sk β n c ∧ (0 ≤ μ1 8 ∧ μ1 8 ≤ 900) ∧ (0 ≤ μ1 10 ∧ μ1 10 ≤ 3)) ∧ (-9223372036854775808 ≤ μ1 15 ∧ μ1 15 < 9223372036854775808)) E hr rfl ⟨μ84, hM, (kq_84.t (KQ.rf μ)), (fun z => And.intro hw84 tk_84), (fun z => absurd hx z), rw_84⟩ hS hlocks dX8_takesName_88
            · have hx : rNew β n φ c = -3 := by unfold rNew; rw [if_pos hrd, ← hwo]; first | exact if_pos (by omega) | exact if_neg (by omega)
              refine lv_aload_n (pc := 65) E.1 E.2 dX8_takesName_65 rfl (lv_at hl 0 rfl) ?_
              refine z_bipush (pc := 66) E (by decide) dX8_takesName_66 ?_
              refine z_wVv (pc := 68) (P1 := fun H9 : Heap => ∃ (μ68 : Int → Int), W8 G o (mV o μ68) σ φ κ β ω H9 ∧ (KQ μ68 μ) ∧ (μ68 12 = (-3)) ∧ (μ68 13 = μ 8) ∧ (μ68 15 = μ 15) ∧ (μ68 8 = μ 8) ∧ (μ68 10 = μ 10)) (As := [.int (iI (-3))]) (rest := []) E hml hown hts (mX8_failsZ lL G o μ σ φ κ β ω (-3) (by decide) (by omega)) (cwV 1 hts gX8_takesName_X8_fails rfl rfl rfl vdX8_fails ⟨Nat.le_of_ble_eq_true rfl, Nat.le_of_ble_eq_true rfl⟩) (oB.recv hK hM.1 rfl) hM hK hS (fun _ h => h) rfl hl.1 rfl dX8_takesName_68 hcs (Nat.le_of_ble_eq_true rfl) (fun H locs hnew hsz hoth hS => ?_)
              obtain ⟨μ68, hM, kq_68, e2_68, e3_68, e5_68, e8_68, e10_68⟩ := hnew
              have hw68 : ¬ μ68 12 = 0 := by omega
              refine lv_aload_n (pc := 71) E.1 E.2 dX8_takesName_71 rfl (lv_at hl 0 rfl) ?_
              refine g8_15 (pc := 72) E hts hin8 hown hK hM.1 (hts _ (List.mem_of_getElem? (i := 6) rfl)) dX8_takesName_72 ?_
              refine lv_lstore_n (pc := 75) (lv' := [(2, .long (iL (μ68 15))), (0, .ref (o 0)), (1, .int (iI e))]) E.1 E.2 dX8_takesName_75 rfl hl (by decide) rfl (fun ls hl => ?_)
              refine lv_aload_n (pc := 76) E.1 E.2 dX8_takesName_76 rfl (lv_at hl 1 rfl) ?_
              refine g8_12 (pc := 77) E hts hin8 hown hK hM.1 (hts _ (List.mem_of_getElem? (i := 1) rfl)) dX8_takesName_77 ?_
              refine z_if_ne (pc := 80) (tgt := 87) E ⟨by omega, by omega⟩ dX8_takesName_80 (by decide) (fun h80 => ?_) (fun h80 => ?_)
              · refine lv_lload_n (pc := 87) E.1 E.2 dX8_takesName_87 rfl (lv_at hl 0 rfl) ?_
                exact z_retWl (P1 := fun H9 : Heap => ∃ (μ1 : Int → Int), W8 G o (mV o μ1) σ φ κ β ω H9 ∧ (KQ μ1 μ) ∧ (rNew β n φ c = 0 → μ1 12 = 0 ∧ TK β n μ1 (te β n c)) ∧ (¬ rNew β n φ c = 0 → μ1 12 = rNew β n φ c ∧ μ1 13 = sk β n c ∧ (0 ≤ μ1 8 ∧ μ1 8 ≤ 900) ∧ (0 ≤ μ1 10 ∧ μ1 10 ≤ 3)) ∧ (-9223372036854775808 ≤ μ1 15 ∧ μ1 15 < 9223372036854775808)) E hr (congrArg iL (by (first | rfl | omega))) ⟨μ68, hM, (kq_68.t (KQ.rf μ)), (fun z => absurd z (by omega)), (fun z => And.intro (by omega) (by omega)), (by omega)⟩ hS hlocks dX8_takesName_88
              · exact absurd h80 (by first | exact hw68 | exact fun q => hw68 q | omega)
      · have hx : rNew β n φ c = -2 := by unfold rNew rWd; rw [if_neg (fun z => by omega)]
        refine lv_aload_n (pc := 28) E.1 E.2 dX8_takesName_28 rfl (lv_at hl 0 rfl) ?_
        refine z_bipush (pc := 29) E (by decide) dX8_takesName_29 ?_
        refine z_wVv (pc := 31) (P1 := fun H9 : Heap => ∃ (μ31 : Int → Int), W8 G o (mV o μ31) σ φ κ β ω H9 ∧ (KQ μ31 μ) ∧ (μ31 12 = (-2)) ∧ (μ31 13 = μ 8) ∧ (μ31 15 = μ 15) ∧ (μ31 8 = μ 8) ∧ (μ31 10 = μ 10)) (As := [.int (iI (-2))]) (rest := []) E hml hown hts (mX8_failsZ lL G o μ σ φ κ β ω (-2) (by decide) (by omega)) (cwV 1 hts gX8_takesName_X8_fails rfl rfl rfl vdX8_fails ⟨Nat.le_of_ble_eq_true rfl, Nat.le_of_ble_eq_true rfl⟩) (oB.recv hK hM.1 rfl) hM hK hS (fun _ h => h) rfl hl.1 rfl dX8_takesName_31 hcs (Nat.le_of_ble_eq_true rfl) (fun H locs hnew hsz hoth hS => ?_)
        obtain ⟨μ31, hM, kq_31, e2_31, e3_31, e5_31, e8_31, e10_31⟩ := hnew
        have hw31 : ¬ μ31 12 = 0 := by omega
        refine lv_aload_n (pc := 34) E.1 E.2 dX8_takesName_34 rfl (lv_at hl 0 rfl) ?_
        refine g8_12 (pc := 35) E hts hin8 hown hK hM.1 (hts _ (List.mem_of_getElem? (i := 1) rfl)) dX8_takesName_35 ?_
        refine z_if_ne (pc := 38) (tgt := 71) E ⟨by omega, by omega⟩ dX8_takesName_38 (by decide) (fun h38 => ?_) (fun h38 => ?_)
        · refine lv_aload_n (pc := 71) E.1 E.2 dX8_takesName_71 rfl (lv_at hl 0 rfl) ?_
          refine g8_15 (pc := 72) E hts hin8 hown hK hM.1 (hts _ (List.mem_of_getElem? (i := 6) rfl)) dX8_takesName_72 ?_
          refine lv_lstore_n (pc := 75) (lv' := [(2, .long (iL (μ31 15))), (0, .ref (o 0)), (1, .int (iI e))]) E.1 E.2 dX8_takesName_75 rfl hl (by decide) rfl (fun ls hl => ?_)
          refine lv_aload_n (pc := 76) E.1 E.2 dX8_takesName_76 rfl (lv_at hl 1 rfl) ?_
          refine g8_12 (pc := 77) E hts hin8 hown hK hM.1 (hts _ (List.mem_of_getElem? (i := 1) rfl)) dX8_takesName_77 ?_
          refine z_if_ne (pc := 80) (tgt := 87) E ⟨by omega, by omega⟩ dX8_takesName_80 (by decide) (fun h80 => ?_) (fun h80 => ?_)
          · refine lv_lload_n (pc := 87) E.1 E.2 dX8_takesName_87 rfl (lv_at hl 0 rfl) ?_
            exact z_retWl (P1 := fun H9 : Heap => ∃ (μ1 : Int → Int), W8 G o (mV o μ1) σ φ κ β ω H9 ∧ (KQ μ1 μ) ∧ (rNew β n φ c = 0 → μ1 12 = 0 ∧ TK β n μ1 (te β n c)) ∧ (¬ rNew β n φ c = 0 → μ1 12 = rNew β n φ c ∧ μ1 13 = sk β n c ∧ (0 ≤ μ1 8 ∧ μ1 8 ≤ 900) ∧ (0 ≤ μ1 10 ∧ μ1 10 ≤ 3)) ∧ (-9223372036854775808 ≤ μ1 15 ∧ μ1 15 < 9223372036854775808)) E hr (congrArg iL (by (first | rfl | omega))) ⟨μ31, hM, (kq_31.t (KQ.rf μ)), (fun z => absurd z (by omega)), (fun z => And.intro (by omega) (by omega)), (by omega)⟩ hS hlocks dX8_takesName_88
          · exact absurd h80 (by first | exact hw31 | exact fun q => hw31 q | omega)
        · exact absurd h38 (by first | exact hw31 | exact fun q => hw31 q | omega)
set_option maxHeartbeats 1000000 in
set_option maxRecDepth 100000 in
theorem mX8_takesNameN (lL : Launch) (G : GG) (o : Nat → Nat) (μ σ φ κ β ω : Int → Int) (e : Int) (h12 : -2147483648 ≤ μ 12 ∧ μ 12 < 2147483648) (hw : ¬ μ 12 = 0) (hr2 : e = 0 ∨ e = 1) : Met lL yX8_takesName wsX8_takesName ({ frames := 3, cells := 0, slots := 0, locals := 65 } : Room) (va_Pc [.ref (o 0), .int (iI e)] (fun U => W8 G o (mV o μ) σ φ κ β ω U.heap ∧ KK G U)) (vp_Sl (fun r => r = (iL (μ 15)))) 0 0 (fun _ => False) := by
  refine z_met (P := (fun H : Heap => W8 G o (mV o μ) σ φ κ β ω H)) (by decide) rfl (Nat.le_of_ble_eq_true rfl) (fun pp ee ss mm below meth cC E hr hml hown hts hlocks hM hK ls hl => ?_)
  have hl : lv_has ls 4 [(0, .ref (o 0)), (1, .int (iI e))] := hl
  have hcs : 0 ≤ (({ frames := 3, cells := 0, slots := 0, locals := 65 } : Room)).cells ∧ 0 ≤ (({ frames := 3, cells := 0, slots := 0, locals := 65 } : Room)).slots := ⟨Nat.zero_le _, Nat.zero_le _⟩
  have hin8 : ∀ w ∈ wsX80, w ∈ wsX8_takesName := fun w h => List.mem_cons_of_mem _ (List.mem_append_right _ (h))
  refine lv_aload_n (pc := 0) E.1 E.2 dX8_takesName_0 rfl (lv_at hl 0 rfl) ?_
  refine g8_12 (pc := 1) E hts hin8 hown hK hM.1 (hts _ (List.mem_of_getElem? (i := 1) rfl)) dX8_takesName_1 ?_
  refine z_if_ne (pc := 4) (tgt := 34) E ⟨by omega, by omega⟩ dX8_takesName_4 (by decide) (fun h4 => ?_) (fun h4 => ?_)
  · refine lv_aload_n (pc := 34) E.1 E.2 dX8_takesName_34 rfl (lv_at hl 0 rfl) ?_
    refine g8_12 (pc := 35) E hts hin8 hown hK hM.1 (hts _ (List.mem_of_getElem? (i := 1) rfl)) dX8_takesName_35 ?_
    refine z_if_ne (pc := 38) (tgt := 71) E ⟨by omega, by omega⟩ dX8_takesName_38 (by decide) (fun h38 => ?_) (fun h38 => ?_)
    · refine lv_aload_n (pc := 71) E.1 E.2 dX8_takesName_71 rfl (lv_at hl 0 rfl) ?_
      refine g8_15 (pc := 72) E hts hin8 hown hK hM.1 (hts _ (List.mem_of_getElem? (i := 6) rfl)) dX8_takesName_72 ?_
      refine lv_lstore_n (pc := 75) (lv' := [(2, .long (iL (μ 15))), (0, .ref (o 0)), (1, .int (iI e))]) E.1 E.2 dX8_takesName_75 rfl hl (by decide) rfl (fun ls hl => ?_)
      refine lv_aload_n (pc := 76) E.1 E.2 dX8_takesName_76 rfl (lv_at hl 1 rfl) ?_
      refine g8_12 (pc := 77) E hts hin8 hown hK hM.1 (hts _ (List.mem_of_getElem? (i := 1) rfl)) dX8_takesName_77 ?_
      refine z_if_ne (pc := 80) (tgt := 87) E ⟨by omega, by omega⟩ dX8_takesName_80 (by decide) (fun h80 => ?_) (fun h80 => ?_)
      · refine lv_lload_n (pc := 87) E.1 E.2 dX8_takesName_87 rfl (lv_at hl 0 rfl) ?_
        exact z_retRl E hr rfl hlocks dX8_takesName_88
      · exact absurd h80 (by first | exact h4 | exact fun q => h4 q | omega)
    · exact absurd h38 (by first | exact h4 | exact fun q => h4 q | omega)
  · exact absurd h4 hw
set_option maxHeartbeats 1000000 in
set_option maxRecDepth 100000 in
theorem mX8_takesFolderZ (lL : Launch) (G : GG) (o : Nat → Nat) (μ σ φ κ β ω : Int → Int) (n : Int) (c : Int) (hb : TX β) (hw : μ 12 = 0) (htk : TK β n μ c) (hrw : -9223372036854775808 ≤ μ 15 ∧ μ 15 < 9223372036854775808) (hJ : In φ) : Met lL yX8_takesFolder wsX8_takesFolder ({ frames := 4, cells := 0, slots := 0, locals := 88 } : Room) (va_Pc [.ref (o 0)] (fun U => W8 G o (mV o μ) σ φ κ β ω U.heap ∧ KK G U)) (va_Qi (fun r (_ : Unit) => r = (iI (fnS φ (μ 15) 0))) (fun _ tZ => ∃ (μ1 : Int → Int), W8 G o (mV o μ1) σ φ κ β ω tZ.heap ∧ (KQ μ1 μ) ∧ (rFol β n φ c = 0 → μ1 12 = 0 ∧ TK β n μ1 (te β n c)) ∧ (¬ rFol β n φ c = 0 → μ1 12 = rFol β n φ c ∧ μ1 13 = sk β n c ∧ (0 ≤ μ1 8 ∧ μ1 8 ≤ 900) ∧ (0 ≤ μ1 10 ∧ μ1 10 ≤ 3)) ∧ (-9223372036854775808 ≤ μ1 15 ∧ μ1 15 < 9223372036854775808)) (Ax o 6)) 0 0 (Ax o 6) := by
  refine z_met (P := (fun H : Heap => W8 G o (mV o μ) σ φ κ β ω H)) (by decide) rfl (Nat.le_of_ble_eq_true rfl) (fun pp ee ss mm below meth cC E hr hml hown hts hlocks hM hK ls hl => ?_)
  have hl : lv_has ls 1 [(0, .ref (o 0))] := hl
  have hcs : 0 ≤ (({ frames := 4, cells := 0, slots := 0, locals := 88 } : Room)).cells ∧ 0 ≤ (({ frames := 4, cells := 0, slots := 0, locals := 88 } : Room)).slots := ⟨Nat.zero_le _, Nat.zero_le _⟩
  have hS : va_S (Ax o 6) ss.heap ss.heap [] := va_S.rf
  have hin8 : ∀ w ∈ wsX80, w ∈ wsX8_takesFolder := fun w h => List.mem_cons_of_mem _ (List.mem_append_right _ (h))
  have h7 := htk.n7
  have h9 := htk.be9
  have h8 := htk.at8
  have h10 := htk.ki10
  have hcn := htk.c0
  have hsn := htk.skb
  have htn := htk.teb
  have hkd := kd_b β n c
  have hJF := hJ.F
  refine lv_aload_n (pc := 0) E.1 E.2 dX8_takesFolder_0 rfl (lv_at hl 0 rfl) ?_
  refine g8_1 (pc := 1) E hts hin8 hown hK hM.1 (hts _ (List.mem_of_getElem? (i := 1) rfl)) dX8_takesFolder_1 ?_
  refine lv_aload_n (pc := 4) E.1 E.2 dX8_takesFolder_4 rfl (lv_at hl 0 rfl) ?_
  refine z_iconst (pc := 5) E dX8_takesFolder_5 ?_
  refine z_wVl (pc := 6) (P1 := fun H9 : Heap => ∃ (μ6 : Int → Int), W8 G o (mV o μ6) σ φ κ β ω H9 ∧ (KQ μ6 μ) ∧ (rFol β n φ c = 0 → μ6 12 = 0 ∧ TK β n μ6 (te β n c)) ∧ (¬ rFol β n φ c = 0 → μ6 12 = rFol β n φ c ∧ μ6 13 = sk β n c ∧ (0 ≤ μ6 8 ∧ μ6 8 ≤ 900) ∧ (0 ≤ μ6 10 ∧ μ6 10 ≤ 3)) ∧ (-9223372036854775808 ≤ μ6 15 ∧ μ6 15 < 9223372036854775808)) (As := [.int (iI 1)]) (rest := [.ref (o 2)]) E hml hown hts (mX8_takesNamerFol lL G o μ σ φ κ β ω 1 n c hb (by omega) (by omega) (by assumption) (by omega) hJ) (cwV 1 hts gX8_takesFolder_X8_takesName rfl rfl rfl vdX8_takesName ⟨Nat.le_of_ble_eq_true rfl, Nat.le_of_ble_eq_true rfl⟩) (oB.recv hK hM.1 rfl) hM hK hS (fun _ h => h) rfl hl.1 rfl dX8_takesFolder_6 hcs (Nat.le_of_ble_eq_true rfl) (fun H locs hnew hsz hoth hS => ?_)
  obtain ⟨μ6, hM, kq_6, x_6, y_6, rw_6⟩ := hnew
  refine z_rSi (pc := 9) (As := [.ref (o 2), .long (iL (μ 15))]) (rest := []) E hml hown hts (mX8_named lL G (o 2) φ (μ 15) (by omega) hJ.bd (by omega)) (va_cwS 2 hts gX8_takesFolder_X8_named rfl rfl rfl vdX8_named.2 ⟨Nat.le_of_ble_eq_true rfl, Nat.le_of_ble_eq_true rfl⟩) hM.2.2.1 hK rfl hl.1 rfl dX8_takesFolder_9 hcs (Nat.le_of_ble_eq_true rfl) ?_
  exact z_retWi (P1 := fun H9 : Heap => ∃ (μ1 : Int → Int), W8 G o (mV o μ1) σ φ κ β ω H9 ∧ (KQ μ1 μ) ∧ (rFol β n φ c = 0 → μ1 12 = 0 ∧ TK β n μ1 (te β n c)) ∧ (¬ rFol β n φ c = 0 → μ1 12 = rFol β n φ c ∧ μ1 13 = sk β n c ∧ (0 ≤ μ1 8 ∧ μ1 8 ≤ 900) ∧ (0 ≤ μ1 10 ∧ μ1 10 ≤ 3)) ∧ (-9223372036854775808 ≤ μ1 15 ∧ μ1 15 < 9223372036854775808)) E hr rfl ⟨μ6, hM, (kq_6.t (KQ.rf μ)), x_6, y_6, rw_6⟩ hS hlocks dX8_takesFolder_12
set_option maxHeartbeats 1000000 in
set_option maxRecDepth 100000 in
theorem mX8_takesFolderN (lL : Launch) (G : GG) (o : Nat → Nat) (μ σ φ κ β ω : Int → Int) (h12 : -2147483648 ≤ μ 12 ∧ μ 12 < 2147483648) (hw : ¬ μ 12 = 0) (hrw : -9223372036854775808 ≤ μ 15 ∧ μ 15 < 9223372036854775808) (hJ : In φ) : Met lL yX8_takesFolder wsX8_takesFolder ({ frames := 4, cells := 0, slots := 0, locals := 88 } : Room) (va_Pc [.ref (o 0)] (fun U => W8 G o (mV o μ) σ φ κ β ω U.heap ∧ KK G U)) (vp_Si (fun r => r = (iI (fnS φ (μ 15) 0)))) 0 0 (fun _ => False) := by
  refine z_met (P := (fun H : Heap => W8 G o (mV o μ) σ φ κ β ω H)) (by decide) rfl (Nat.le_of_ble_eq_true rfl) (fun pp ee ss mm below meth cC E hr hml hown hts hlocks hM hK ls hl => ?_)
  have hl : lv_has ls 1 [(0, .ref (o 0))] := hl
  have hcs : 0 ≤ (({ frames := 4, cells := 0, slots := 0, locals := 88 } : Room)).cells ∧ 0 ≤ (({ frames := 4, cells := 0, slots := 0, locals := 88 } : Room)).slots := ⟨Nat.zero_le _, Nat.zero_le _⟩
  have hin8 : ∀ w ∈ wsX80, w ∈ wsX8_takesFolder := fun w h => List.mem_cons_of_mem _ (List.mem_append_right _ (h))
  have hJF := hJ.F
  refine lv_aload_n (pc := 0) E.1 E.2 dX8_takesFolder_0 rfl (lv_at hl 0 rfl) ?_
  refine g8_1 (pc := 1) E hts hin8 hown hK hM.1 (hts _ (List.mem_of_getElem? (i := 1) rfl)) dX8_takesFolder_1 ?_
  refine lv_aload_n (pc := 4) E.1 E.2 dX8_takesFolder_4 rfl (lv_at hl 0 rfl) ?_
  refine z_iconst (pc := 5) E dX8_takesFolder_5 ?_
  refine z_rVl (pc := 6) (As := [.int (iI 1)]) (rest := [.ref (o 2)]) E hml hown hts (mX8_takesNameN lL G o μ σ φ κ β ω 1 (by omega) (by omega) (by omega)) (cwV 1 hts gX8_takesFolder_X8_takesName rfl rfl rfl vdX8_takesName ⟨Nat.le_of_ble_eq_true rfl, Nat.le_of_ble_eq_true rfl⟩) (oB.recv hK hM.1 rfl) hM hK rfl hl.1 rfl dX8_takesFolder_6 hcs (Nat.le_of_ble_eq_true rfl) ?_
  refine z_rSi (pc := 9) (As := [.ref (o 2), .long (iL (μ 15))]) (rest := []) E hml hown hts (mX8_named lL G (o 2) φ (μ 15) (by omega) hJ.bd (by omega)) (va_cwS 2 hts gX8_takesFolder_X8_named rfl rfl rfl vdX8_named.2 ⟨Nat.le_of_ble_eq_true rfl, Nat.le_of_ble_eq_true rfl⟩) hM.2.2.1 hK rfl hl.1 rfl dX8_takesFolder_9 hcs (Nat.le_of_ble_eq_true rfl) ?_
  exact z_retRi E hr rfl hlocks dX8_takesFolder_12
