theorem vdX8_see : yX8_see.cls = RX8 ∧ yX8_see.cls ≠ "java/lang/invoke/MethodHandle" ∧ yX8_see.cls ≠ "java/lang/invoke/VarHandle" ∧ (parseMethodDescriptor yX8_see.desc).map (fun d => d.parameters.length) = some 1 := by decide +kernel
theorem vdX8_isLetter : yX8_isLetter.cls = RX8 ∧ yX8_isLetter.cls ≠ "java/lang/invoke/MethodHandle" ∧ yX8_isLetter.cls ≠ "java/lang/invoke/VarHandle" ∧ (parseMethodDescriptor yX8_isLetter.desc).map (fun d => d.parameters.length) = some 1 := by decide +kernel
theorem vdX8_isDigit : yX8_isDigit.cls = RX8 ∧ yX8_isDigit.cls ≠ "java/lang/invoke/MethodHandle" ∧ yX8_isDigit.cls ≠ "java/lang/invoke/VarHandle" ∧ (parseMethodDescriptor yX8_isDigit.desc).map (fun d => d.parameters.length) = some 1 := by decide +kernel
theorem vdX8_next : yX8_next.cls = RX8 ∧ yX8_next.cls ≠ "java/lang/invoke/MethodHandle" ∧ yX8_next.cls ≠ "java/lang/invoke/VarHandle" ∧ (parseMethodDescriptor yX8_next.desc).map (fun d => d.parameters.length) = some 0 := by decide +kernel
set_option maxHeartbeats 1000000 in
set_option maxRecDepth 100000 in
theorem mX8_see (lL : Launch) (G : GG) (o : Nat → Nat) (μ σ φ κ β ω : Int → Int) (k : Int) (hk : 0 ≤ k ∧ k < 2147483648) (hn : μ 7 ≤ 900) (hn0 : 0 ≤ μ 7) : Met lL yX8_see wsX8_see ({ frames := 0, cells := 0, slots := 0, locals := 0 } : Room) (va_Pc [.ref (o 0), .int (iI k)] (fun U => W8 G o (mV o μ) σ φ κ β ω U.heap ∧ KK G U)) (vp_Si (fun r => r = (iI (see β (μ 7) k)))) 0 0 (fun _ => False) := by
  refine z_met (P := (fun H : Heap => W8 G o (mV o μ) σ φ κ β ω H)) (by decide) rfl (Nat.le_of_ble_eq_true rfl) (fun pp ee ss mm below meth cC E hr hml hown hts hlocks hM hK ls hl => ?_)
  have hl : lv_has ls 2 [(0, .ref (o 0)), (1, .int (iI k))] := hl
  have hcs : 0 ≤ (({ frames := 0, cells := 0, slots := 0, locals := 0 } : Room)).cells ∧ 0 ≤ (({ frames := 0, cells := 0, slots := 0, locals := 0 } : Room)).slots := ⟨Nat.zero_le _, Nat.zero_le _⟩
  have hin8 : ∀ w ∈ wsX80, w ∈ wsX8_see := fun w h => List.mem_cons_of_mem _ (List.mem_append_right _ (h))
  refine lv_iload_n (pc := 0) E.1 E.2 dX8_see_0 rfl (lv_at hl 1 rfl) ?_
  refine lv_aload_n (pc := 1) E.1 E.2 dX8_see_1 rfl (lv_at hl 0 rfl) ?_
  refine g8_7 (pc := 2) E hts hin8 hown hK hM.1 (hts _ (List.mem_of_getElem? (i := 1) rfl)) dX8_see_2 ?_
  refine z_icmp_ge (pc := 5) (tgt := 17) E ⟨by omega, by omega⟩ ⟨by omega, by omega⟩ dX8_see_5 (by decide) (fun h5 => ?_) (fun h5 => ?_)
  · refine z_iconst (pc := 17) E dX8_see_17 ?_
    exact z_retRi E hr (congrArg iI (by (have q := see_v β (μ 7) k; omega))) hlocks dX8_see_18
  · refine lv_aload_n (pc := 8) E.1 E.2 dX8_see_8 rfl (lv_at hl 0 rfl) ?_
    refine g8_5 (pc := 9) E hts hin8 hown hK hM.1 (hts _ (List.mem_of_getElem? (i := 2) rfl)) dX8_see_9 ?_
    refine lv_iload_n (pc := 12) E.1 E.2 dX8_see_12 rfl (lv_at hl 1 rfl) ?_
    refine z_iaload (pc := 13) E hK hM.2.2.2.2.1 ⟨by omega, by omega⟩ (by decide) dX8_see_13 ?_
    refine lv_goto (pc := 14) (tgt := 18) E.1 E.2 dX8_see_14 (by decide) ?_
    exact z_retRi E hr (congrArg iI (by (have q := see_v β (μ 7) k; omega))) hlocks dX8_see_18
set_option maxHeartbeats 1000000 in
set_option maxRecDepth 100000 in
theorem mX8_isLetter (lL : Launch) (G : GG) (c : Int) (hc : -2147483648 ≤ c ∧ c < 2147483648) : Met lL yX8_isLetter wsX8_isLetter ({ frames := 1, cells := 0, slots := 0, locals := 25 } : Room) (va_Pc [.int (iI c)] (fun U => True ∧ KK G U)) (vp_Si (fun r => r = (iI (if 97 ≤ c ∧ c ≤ 122 then 1 else 0)))) 0 0 (fun _ => False) := by
  refine z_met (P := (fun H : Heap => True)) (by decide) rfl (Nat.le_of_ble_eq_true rfl) (fun pp ee ss mm below meth cC E hr hml hown hts hlocks hM hK ls hl => ?_)
  have hl : lv_has ls 1 [(0, .int (iI c))] := hl
  have hcs : 0 ≤ (({ frames := 1, cells := 0, slots := 0, locals := 25 } : Room)).cells ∧ 0 ≤ (({ frames := 1, cells := 0, slots := 0, locals := 25 } : Room)).slots := ⟨Nat.zero_le _, Nat.zero_le _⟩
  refine lv_iload_n (pc := 0) E.1 E.2 dX8_isLetter_0 rfl (lv_at hl 0 rfl) ?_
  refine z_i2l (pc := 1) E ⟨by omega, by omega⟩ dX8_isLetter_1 ?_
  refine lv_ldc2 (pc := 2) (v := iL (97)) E.1 E.2 hown (show (Jvm.Cond.constantLong RX8 55 (iL (97))).before _ ss = true from (hts _ (List.mem_of_getElem? (i := 1) rfl))) dX8_isLetter_2 ?_
  refine lv_ldc2 (pc := 5) (v := iL (122)) E.1 E.2 hown (show (Jvm.Cond.constantLong RX8 57 (iL (122))).before _ ss = true from (hts _ (List.mem_of_getElem? (i := 2) rfl))) dX8_isLetter_5 ?_
  refine z_rSi (pc := 8) (P := fun _ => True) (As := [.long (iL c), .long (iL 97), .long (iL 122)]) (rest := []) E hml hown hts (mX8_isIn lL G c 97 122 ⟨by omega, by omega⟩ ⟨by omega, by omega⟩ ⟨by omega, by omega⟩) (va_cwS 3 hts gX8_isLetter_X8_isIn rfl rfl rfl vdX8_isIn.2 ⟨Nat.le_of_ble_eq_true rfl, Nat.le_of_ble_eq_true rfl⟩) trivial hK rfl hl.1 rfl dX8_isLetter_8 hcs (Nat.le_of_ble_eq_true rfl) ?_
  exact z_retRz E hr (z_nb _) rfl hlocks dX8_isLetter_11
set_option maxHeartbeats 1000000 in
set_option maxRecDepth 100000 in
theorem mX8_isDigit (lL : Launch) (G : GG) (c : Int) (hc : -2147483648 ≤ c ∧ c < 2147483648) : Met lL yX8_isDigit wsX8_isDigit ({ frames := 1, cells := 0, slots := 0, locals := 25 } : Room) (va_Pc [.int (iI c)] (fun U => True ∧ KK G U)) (vp_Si (fun r => r = (iI (if 48 ≤ c ∧ c ≤ 57 then 1 else 0)))) 0 0 (fun _ => False) := by
  refine z_met (P := (fun H : Heap => True)) (by decide) rfl (Nat.le_of_ble_eq_true rfl) (fun pp ee ss mm below meth cC E hr hml hown hts hlocks hM hK ls hl => ?_)
  have hl : lv_has ls 1 [(0, .int (iI c))] := hl
  have hcs : 0 ≤ (({ frames := 1, cells := 0, slots := 0, locals := 25 } : Room)).cells ∧ 0 ≤ (({ frames := 1, cells := 0, slots := 0, locals := 25 } : Room)).slots := ⟨Nat.zero_le _, Nat.zero_le _⟩
  refine lv_iload_n (pc := 0) E.1 E.2 dX8_isDigit_0 rfl (lv_at hl 0 rfl) ?_
  refine z_i2l (pc := 1) E ⟨by omega, by omega⟩ dX8_isDigit_1 ?_
  refine lv_ldc2 (pc := 2) (v := iL (48)) E.1 E.2 hown (show (Jvm.Cond.constantLong RX8 63 (iL (48))).before _ ss = true from (hts _ (List.mem_of_getElem? (i := 1) rfl))) dX8_isDigit_2 ?_
  refine lv_ldc2 (pc := 5) (v := iL (57)) E.1 E.2 hown (show (Jvm.Cond.constantLong RX8 65 (iL (57))).before _ ss = true from (hts _ (List.mem_of_getElem? (i := 2) rfl))) dX8_isDigit_5 ?_
  refine z_rSi (pc := 8) (P := fun _ => True) (As := [.long (iL c), .long (iL 48), .long (iL 57)]) (rest := []) E hml hown hts (mX8_isIn lL G c 48 57 ⟨by omega, by omega⟩ ⟨by omega, by omega⟩ ⟨by omega, by omega⟩) (va_cwS 3 hts gX8_isDigit_X8_isIn rfl rfl rfl vdX8_isIn.2 ⟨Nat.le_of_ble_eq_true rfl, Nat.le_of_ble_eq_true rfl⟩) trivial hK rfl hl.1 rfl dX8_isDigit_8 hcs (Nat.le_of_ble_eq_true rfl) ?_
  exact z_retRz E hr (z_nb _) rfl hlocks dX8_isDigit_11
set_option maxHeartbeats 1000000 in
set_option maxRecDepth 100000 in
theorem mX8_next (lL : Launch) (G : GG) (o : Nat → Nat) (μ σ φ κ β ω : Int → Int) (hb : TX β) (hn : 0 ≤ μ 7 ∧ μ 7 ≤ 900) (hc : 0 ≤ μ 9 ∧ μ 9 ≤ μ 7) : Met lL yX8_next wsX8_next ({ frames := 2, cells := 0, slots := 0, locals := 45 } : Room) (va_Pc [.ref (o 0)] (fun U => W8 G o (mV o μ) σ φ κ β ω U.heap ∧ KK G U)) (va_Qv (fun _ : Unit => True) (fun _ tZ => ∃ (μ1 : Int → Int), W8 G o (mV o μ1) σ φ κ β ω tZ.heap ∧ (KQ μ1 μ) ∧ (μ1 12 = μ 12) ∧ (μ1 13 = μ 13) ∧ (TK β μ1 (μ 9)) ∧ (R64 (μ1 15))) (Ax o 6)) 0 0 (Ax o 6) := by
  refine z_met (P := (fun H : Heap => W8 G o (mV o μ) σ φ κ β ω H)) (by decide) rfl (Nat.le_of_ble_eq_true rfl) (fun pp ee ss mm below meth cC E hr hml hown hts hlocks hM hK ls hl => ?_)
  have hl : lv_has ls 1 [(0, .ref (o 0))] := hl
  have hcs : 0 ≤ (({ frames := 2, cells := 0, slots := 0, locals := 45 } : Room)).cells ∧ 0 ≤ (({ frames := 2, cells := 0, slots := 0, locals := 45 } : Room)).slots := ⟨Nat.zero_le _, Nat.zero_le _⟩
  have hS : va_S (Ax o 6) ss.heap ss.heap [] := va_S.rf
  have hin8 : ∀ w ∈ wsX80, w ∈ wsX8_next := fun w h => List.mem_cons_of_mem _ (List.mem_append_right _ (h))
  have hn1 : μ 7 ≤ 900 := hn.2
  have hn0 : 0 ≤ μ 7 := hn.1
  refine lv_aload_n (pc := 0) E.1 E.2 dX8_next_0 rfl (lv_at hl 0 rfl) ?_
  refine lv_aload_n (pc := 1) E.1 E.2 dX8_next_1 rfl (lv_at hl 0 rfl) ?_
  refine g8_9 (pc := 2) E hts hin8 hown hK hM.1 (hts _ (List.mem_of_getElem? (i := 1) rfl)) dX8_next_2 ?_
  refine p8_8 (pc := 5) E hts hin8 hown hK hM.1 hS (Ax.at 0 (by decide)) (hts _ (List.mem_of_getElem? (i := 2) rfl)) dX8_next_5 (fun H locs hnew hoth hS => ?_)
  have hM := W8.p hM hnew (fun a _ h => hoth a h)
  suffices L8 : ∀ (nf : Nat), ∀  (p : Int), (μ 9 ≤ p ∧ p ≤ μ 7) → (rn β (μ 7) 32 32 p = sk β (μ 7) (μ 9)) → ((μ 7 - p).toNat) < nf → ∀  (H : Heap) (locs : List Loc), W8 G o [.ref (o 1), .ref (o 2), .ref (o 3), .int (iI (μ 3)), .int (iI (μ 4)), .ref (o 4), .int (iI (μ 6)), .int (iI (μ 7)), .int (iI p), .int (iI (μ 9)), .int (iI (μ 10)), .int (iI (μ 11)), .int (iI (μ 12)), .int (iI (μ 13)), .int (iI (μ 14)), .long (iL (μ 15)), .ref (o 5), .int (iI (μ 17))] σ φ κ β ω H → va_S (Ax o 6) ss.heap H locs → ∀ ls : Array Slot, lv_has ls 1 [(0, .ref (o 0))] → W pp lL ee ({ frames := 2, cells := 0, slots := 0, locals := 45 } : Room) ss mm [.ref (o 0)].toArray below meth cC H locs 0 0 (MQ below (va_Qv (fun _ : Unit => True) (fun _ tZ => ∃ (μ1 : Int → Int), W8 G o (mV o μ1) σ φ κ β ω tZ.heap ∧ (KQ μ1 μ) ∧ (μ1 12 = μ 12) ∧ (μ1 13 = μ 13) ∧ (TK β μ1 (μ 9)) ∧ (R64 (μ1 15))) (Ax o 6)) [.ref (o 0)].toArray ss 0 0 (Ax o 6)) (F0 mm 8 ls []) from L8 _  (μ 9) (by omega) rfl (Nat.lt_succ_self _)  _ _ hM hS ls (lv_sub hl [0] rfl)
  intro nfL8
  induction nfL8 with
  | zero => intro  p hp hes hmzL8; exact absurd hmzL8 (Nat.not_lt_zero _)
  | succ nfL8 ihL8 =>
    intro  p hp hes hmzL8  H locs hM hS ls hl
    refine lv_aload_n (pc := 8) E.1 E.2 dX8_next_8 rfl (lv_at hl 0 rfl) ?_
    refine lv_aload_n (pc := 9) E.1 E.2 dX8_next_9 rfl (lv_at hl 0 rfl) ?_
    refine g8_8 (pc := 10) E hts hin8 hown hK hM.1 (hts _ (List.mem_of_getElem? (i := 2) rfl)) dX8_next_10 ?_
    refine z_rVi (pc := 13) (As := [.int (iI p)]) (rest := []) E hml hown hts (mX8_see lL G o (zu (zu μ 8 (μ 9)) 8 p) σ φ κ β ω p (by omega) (by simpa only [zu, Int.reduceEq, reduceIte] using hn1) (by simpa only [zu, Int.reduceEq, reduceIte] using hn0)) (cwV 1 hts gX8_next_X8_see rfl rfl rfl vdX8_see ⟨Nat.le_of_ble_eq_true rfl, Nat.le_of_ble_eq_true rfl⟩) (oB.recv hK hM.1 rfl) (W8.mu hM (by simp only [mV, zu, Int.reduceEq, reduceIte])) hK rfl hl.1 rfl dX8_next_13 hcs (Nat.le_of_ble_eq_true rfl) ?_
    have hv13 := see_v β (μ 7) p
    have hbp := fun z : p < 900 => hb p (by omega) z
    refine z_bipush (pc := 16) E (by decide) dX8_next_16 ?_
    refine z_icmp_ne (pc := 18) (tgt := 34) E ⟨by omega, by omega⟩ (by decide) dX8_next_18 (by decide) (fun h18 => ?_) (fun h18 => ?_)
    · have hep : p = sk β (μ 7) (μ 9) := by rw [← hes, rn_e (by omega)]
      refine lv_aload_n (pc := 34) E.1 E.2 dX8_next_34 rfl (lv_at hl 0 rfl) ?_
      refine lv_aload_n (pc := 35) E.1 E.2 dX8_next_35 rfl (lv_at hl 0 rfl) ?_
      refine g8_8 (pc := 36) E hts hin8 hown hK hM.1 (hts _ (List.mem_of_getElem? (i := 2) rfl)) dX8_next_36 ?_
      refine p8_9 (pc := 39) E hts hin8 hown hK hM.1 hS (Ax.at 0 (by decide)) (hts _ (List.mem_of_getElem? (i := 1) rfl)) dX8_next_39 (fun H locs hnew hoth hS => ?_)
      have hM := W8.p hM hnew (fun a _ h => hoth a h)
      refine lv_aload_n (pc := 42) E.1 E.2 dX8_next_42 rfl (lv_at hl 0 rfl) ?_
      refine z_lconst (pc := 43) (v := 0) E (by decide) dX8_next_43 ?_
      refine p8_15 (pc := 44) E hts hin8 hown hK hM.1 hS (Ax.at 0 (by decide)) (hts _ (List.mem_of_getElem? (i := 3) rfl)) dX8_next_44 (fun H locs hnew hoth hS => ?_)
      have hM := W8.p hM hnew (fun a _ h => hoth a h)
      refine lv_aload_n (pc := 47) E.1 E.2 dX8_next_47 rfl (lv_at hl 0 rfl) ?_
      refine g8_8 (pc := 48) E hts hin8 hown hK hM.1 (hts _ (List.mem_of_getElem? (i := 2) rfl)) dX8_next_48 ?_
      refine lv_aload_n (pc := 51) E.1 E.2 dX8_next_51 rfl (lv_at hl 0 rfl) ?_
      refine g8_7 (pc := 52) E hts hin8 hown hK hM.1 (hts _ (List.mem_of_getElem? (i := 4) rfl)) dX8_next_52 ?_
      refine z_icmp_lt (pc := 55) (tgt := 66) E ⟨by omega, by omega⟩ ⟨by omega, by omega⟩ dX8_next_55 (by decide) (fun h55 => ?_) (fun h55 => ?_)
      · refine lv_aload_n (pc := 66) E.1 E.2 dX8_next_66 rfl (lv_at hl 0 rfl) ?_
        refine lv_aload_n (pc := 67) E.1 E.2 dX8_next_67 rfl (lv_at hl 0 rfl) ?_
        refine g8_8 (pc := 68) E hts hin8 hown hK hM.1 (hts _ (List.mem_of_getElem? (i := 2) rfl)) dX8_next_68 ?_
        refine z_rVi (pc := 71) (As := [.int (iI p)]) (rest := []) E hml hown hts (mX8_see lL G o (zu (zu (zu (zu μ 8 (μ 9)) 8 p) 9 p) 15 0) σ φ κ β ω p (by omega) (by simpa only [zu, Int.reduceEq, reduceIte] using hn1) (by simpa only [zu, Int.reduceEq, reduceIte] using hn0)) (cwV 1 hts gX8_next_X8_see rfl rfl rfl vdX8_see ⟨Nat.le_of_ble_eq_true rfl, Nat.le_of_ble_eq_true rfl⟩) (oB.recv hK hM.1 rfl) (W8.mu hM (by simp only [mV, zu, Int.reduceEq, reduceIte])) hK rfl hl.1 rfl dX8_next_71 hcs (Nat.le_of_ble_eq_true rfl) ?_
        have hv71 := see_v β (μ 7) p
        have hbp := fun z : p < 900 => hb p (by omega) z
        refine z_rSi (pc := 74) (P := fun _ => True) (As := [.int (iI (see β (μ 7) p))]) (rest := []) E hml hown hts (mX8_isLetter lL G (see β (μ 7) p) ⟨by omega, by omega⟩) (va_cwS 1 hts gX8_next_X8_isLetter rfl rfl rfl vdX8_isLetter.2 ⟨Nat.le_of_ble_eq_true rfl, Nat.le_of_ble_eq_true rfl⟩) trivial hK rfl hl.1 rfl dX8_next_74 hcs (Nat.le_of_ble_eq_true rfl) ?_
        refine z_ifb_eq (pc := 77) (tgt := 154) E dX8_next_77 (by decide) (fun h77 => ?_) (fun h77 => ?_)
        · refine lv_aload_n (pc := 154) E.1 E.2 dX8_next_154 rfl (lv_at hl 0 rfl) ?_
          refine lv_aload_n (pc := 155) E.1 E.2 dX8_next_155 rfl (lv_at hl 0 rfl) ?_
          refine g8_8 (pc := 156) E hts hin8 hown hK hM.1 (hts _ (List.mem_of_getElem? (i := 2) rfl)) dX8_next_156 ?_
          refine z_rVi (pc := 159) (As := [.int (iI p)]) (rest := []) E hml hown hts (mX8_see lL G o (zu (zu (zu (zu μ 8 (μ 9)) 8 p) 9 p) 15 0) σ φ κ β ω p (by omega) (by simpa only [zu, Int.reduceEq, reduceIte] using hn1) (by simpa only [zu, Int.reduceEq, reduceIte] using hn0)) (cwV 1 hts gX8_next_X8_see rfl rfl rfl vdX8_see ⟨Nat.le_of_ble_eq_true rfl, Nat.le_of_ble_eq_true rfl⟩) (oB.recv hK hM.1 rfl) (W8.mu hM (by simp only [mV, zu, Int.reduceEq, reduceIte])) hK rfl hl.1 rfl dX8_next_159 hcs (Nat.le_of_ble_eq_true rfl) ?_
          have hv159 := see_v β (μ 7) p
          refine z_rSi (pc := 162) (P := fun _ => True) (As := [.int (iI (see β (μ 7) p))]) (rest := []) E hml hown hts (mX8_isDigit lL G (see β (μ 7) p) ⟨by omega, by omega⟩) (va_cwS 1 hts gX8_next_X8_isDigit rfl rfl rfl vdX8_isDigit.2 ⟨Nat.le_of_ble_eq_true rfl, Nat.le_of_ble_eq_true rfl⟩) trivial hK rfl hl.1 rfl dX8_next_162 hcs (Nat.le_of_ble_eq_true rfl) ?_
          refine z_ifb_eq (pc := 165) (tgt := 240) E dX8_next_165 (by decide) (fun h165 => ?_) (fun h165 => ?_)
          · refine lv_aload_n (pc := 240) E.1 E.2 dX8_next_240 rfl (lv_at hl 0 rfl) ?_
            refine lv_dup (pc := 241) E.1 E.2 dX8_next_241 rfl ?_
            refine g8_9 (pc := 242) E hts hin8 hown hK hM.1 (hts _ (List.mem_of_getElem? (i := 1) rfl)) dX8_next_242 ?_
            refine z_iconst (pc := 245) E dX8_next_245 ?_
            refine z_iadd (pc := 246) E dX8_next_246 ?_
            refine p8_9 (pc := 247) E hts hin8 hown hK hM.1 hS (Ax.at 0 (by decide)) (hts _ (List.mem_of_getElem? (i := 1) rfl)) dX8_next_247 (fun H locs hnew hoth hS => ?_)
            have hM := W8.p hM hnew (fun a _ h => hoth a h)
            refine lv_aload_n (pc := 250) E.1 E.2 dX8_next_250 rfl (lv_at hl 0 rfl) ?_
            refine z_iconst (pc := 251) E dX8_next_251 ?_
            refine p8_10 (pc := 252) E hts hin8 hown hK hM.1 hS (Ax.at 0 (by decide)) (hts _ (List.mem_of_getElem? (i := 5) rfl)) dX8_next_252 (fun H locs hnew hoth hS => ?_)
            have hM := W8.p hM hnew (fun a _ h => hoth a h)
            exact z_retWv E hr ⟨(zu (zu (zu (zu (zu (zu μ 8 (μ 9)) 8 p) 9 p) 15 0) 9 (p + 1)) 10 2), (W8.mu hM (by simp only [mV, zu, Int.reduceEq, reduceIte])), (by refine ⟨?_, ?_, ?_, ?_, ?_, ?_⟩ <;> simp only [zu, Int.reduceEq, reduceIte]), (by simp only [zu, Int.reduceEq, reduceIte]), (by simp only [zu, Int.reduceEq, reduceIte]), (by unfold TK; simp only [zu, Int.reduceEq, reduceIte]; exact ⟨⟨by omega, by omega⟩, hep, (tk2 hep (by omega) (by omega) (by omega))⟩), (by simp only [zu, Int.reduceEq, reduceIte]; exact ⟨by decide, by decide⟩)⟩ hS hlocks dX8_next_255
          · refine lv_aload_n (pc := 168) E.1 E.2 dX8_next_168 rfl (lv_at hl 0 rfl) ?_
            refine z_iconst (pc := 169) E dX8_next_169 ?_
            refine p8_11 (pc := 170) E hts hin8 hown hK hM.1 hS (Ax.at 0 (by decide)) (hts _ (List.mem_of_getElem? (i := 6) rfl)) dX8_next_170 (fun H locs hnew hoth hS => ?_)
            have hM := W8.p hM hnew (fun a _ h => hoth a h)
            suffices L173 : ∀ (nf : Nat), ∀  (i : Int) (v : Int), (p ≤ i ∧ i ≤ μ 7) → (rn β (μ 7) 48 57 i = rn β (μ 7) 48 57 p) → (v = nv β p (i - p).toNat) → (0 ≤ v ∧ v ≤ 9999999) → ((μ 7 - i).toNat) < nf → ∀  (H : Heap) (locs : List Loc), W8 G o [.ref (o 1), .ref (o 2), .ref (o 3), .int (iI (μ 3)), .int (iI (μ 4)), .ref (o 4), .int (iI (μ 6)), .int (iI (μ 7)), .int (iI p), .int (iI i), .int (iI (μ 10)), .int (iI v), .int (iI (μ 12)), .int (iI (μ 13)), .int (iI (μ 14)), .long (iL 0), .ref (o 5), .int (iI (μ 17))] σ φ κ β ω H → va_S (Ax o 6) ss.heap H locs → ∀ ls : Array Slot, lv_has ls 1 [(0, .ref (o 0))] → W pp lL ee ({ frames := 2, cells := 0, slots := 0, locals := 45 } : Room) ss mm [.ref (o 0)].toArray below meth cC H locs 0 0 (MQ below (va_Qv (fun _ : Unit => True) (fun _ tZ => ∃ (μ1 : Int → Int), W8 G o (mV o μ1) σ φ κ β ω tZ.heap ∧ (KQ μ1 μ) ∧ (μ1 12 = μ 12) ∧ (μ1 13 = μ 13) ∧ (TK β μ1 (μ 9)) ∧ (R64 (μ1 15))) (Ax o 6)) [.ref (o 0)].toArray ss 0 0 (Ax o 6)) (F0 mm 173 ls []) from L173 _  p 0 (by omega) rfl (by rw [show (p - p).toNat = 0 by omega]; rfl) (by omega) (Nat.lt_succ_self _)  _ _ hM hS ls (lv_sub hl [0] rfl)
            intro nfL173
            induction nfL173 with
            | zero => intro  i v hi hei hv hvb hmzL173; exact absurd hmzL173 (Nat.not_lt_zero _)
            | succ nfL173 ihL173 =>
              intro  i v hi hei hv hvb hmzL173  H locs hM hS ls hl
              refine lv_aload_n (pc := 173) E.1 E.2 dX8_next_173 rfl (lv_at hl 0 rfl) ?_
              refine lv_aload_n (pc := 174) E.1 E.2 dX8_next_174 rfl (lv_at hl 0 rfl) ?_
              refine g8_9 (pc := 175) E hts hin8 hown hK hM.1 (hts _ (List.mem_of_getElem? (i := 1) rfl)) dX8_next_175 ?_
              refine z_rVi (pc := 178) (As := [.int (iI i)]) (rest := []) E hml hown hts (mX8_see lL G o (zu (zu (zu (zu (zu (zu (zu μ 8 (μ 9)) 8 p) 9 p) 15 0) 11 0) 9 i) 11 v) σ φ κ β ω i (by omega) (by simpa only [zu, Int.reduceEq, reduceIte] using hn1) (by simpa only [zu, Int.reduceEq, reduceIte] using hn0)) (cwV 1 hts gX8_next_X8_see rfl rfl rfl vdX8_see ⟨Nat.le_of_ble_eq_true rfl, Nat.le_of_ble_eq_true rfl⟩) (oB.recv hK hM.1 rfl) (W8.mu hM (by simp only [mV, zu, Int.reduceEq, reduceIte])) hK rfl hl.1 rfl dX8_next_178 hcs (Nat.le_of_ble_eq_true rfl) ?_
              have hv178 := see_v β (μ 7) i
              have hbi := fun z : i < 900 => hb i (by omega) z
              refine z_rSi (pc := 181) (P := fun _ => True) (As := [.int (iI (see β (μ 7) i))]) (rest := []) E hml hown hts (mX8_isDigit lL G (see β (μ 7) i) ⟨by omega, by omega⟩) (va_cwS 1 hts gX8_next_X8_isDigit rfl rfl rfl vdX8_isDigit.2 ⟨Nat.le_of_ble_eq_true rfl, Nat.le_of_ble_eq_true rfl⟩) trivial hK rfl hl.1 rfl dX8_next_181 hcs (Nat.le_of_ble_eq_true rfl) ?_
              refine z_ifb_eq (pc := 184) (tgt := 232) E dX8_next_184 (by decide) (fun h184 => ?_) (fun h184 => ?_)
              · refine lv_aload_n (pc := 232) E.1 E.2 dX8_next_232 rfl (lv_at hl 0 rfl) ?_
                refine z_iconst (pc := 233) E dX8_next_233 ?_
                refine p8_10 (pc := 234) E hts hin8 hown hK hM.1 hS (Ax.at 0 (by decide)) (hts _ (List.mem_of_getElem? (i := 5) rfl)) dX8_next_234 (fun H locs hnew hoth hS => ?_)
                have hM := W8.p hM hnew (fun a _ h => hoth a h)
                refine lv_goto (pc := 237) (tgt := 255) E.1 E.2 dX8_next_237 (by decide) ?_
                exact z_retWv E hr ⟨(zu (zu (zu (zu (zu (zu (zu (zu μ 8 (μ 9)) 8 p) 9 p) 15 0) 11 0) 9 i) 11 v) 10 1), (W8.mu hM (by simp only [mV, zu, Int.reduceEq, reduceIte])), (by refine ⟨?_, ?_, ?_, ?_, ?_, ?_⟩ <;> simp only [zu, Int.reduceEq, reduceIte]), (by simp only [zu, Int.reduceEq, reduceIte]), (by simp only [zu, Int.reduceEq, reduceIte]), (by unfold TK; simp only [zu, Int.reduceEq, reduceIte]; exact ⟨⟨by omega, by omega⟩, hep, (tk1 hep (by omega) (by omega) hei (by omega) hv)⟩), (by simp only [zu, Int.reduceEq, reduceIte]; exact ⟨by decide, by decide⟩)⟩ hS hlocks dX8_next_255
              · refine lv_aload_n (pc := 187) E.1 E.2 dX8_next_187 rfl (lv_at hl 0 rfl) ?_
                refine g8_11 (pc := 188) E hts hin8 hown hK hM.1 (hts _ (List.mem_of_getElem? (i := 6) rfl)) dX8_next_188 ?_
                refine lv_ldc (pc := 191) (v := iI (1000000)) E.1 E.2 hown (show (Jvm.Cond.constant RX8 94 (iI (1000000))).before _ ss = true from (hts _ (List.mem_of_getElem? (i := 7) rfl))) dX8_next_191 ?_
                refine z_icmp_ge (pc := 193) (tgt := 219) E ⟨by omega, by omega⟩ (by decide) dX8_next_193 (by decide) (fun h193 => ?_) (fun h193 => ?_)
                · refine lv_aload_n (pc := 219) E.1 E.2 dX8_next_219 rfl (lv_at hl 0 rfl) ?_
                  refine lv_dup (pc := 220) E.1 E.2 dX8_next_220 rfl ?_
                  refine g8_9 (pc := 221) E hts hin8 hown hK hM.1 (hts _ (List.mem_of_getElem? (i := 1) rfl)) dX8_next_221 ?_
                  refine z_iconst (pc := 224) E dX8_next_224 ?_
                  refine z_iadd (pc := 225) E dX8_next_225 ?_
                  refine p8_9 (pc := 226) E hts hin8 hown hK hM.1 hS (Ax.at 0 (by decide)) (hts _ (List.mem_of_getElem? (i := 1) rfl)) dX8_next_226 (fun H locs hnew hoth hS => ?_)
                  have hM := W8.p hM hnew (fun a _ h => hoth a h)
                  refine lv_goto (pc := 229) (tgt := 173) E.1 E.2 dX8_next_229 (by decide) ?_
                  exact ihL173  (i + 1) v (by omega) (by rw [← hei, rn_s (i := i) (by omega)]) (by first | exact nv_s hi.1 hv (by omega) | exact nv_n hi.1 hv (by omega)) (by omega) (by omega)  _ _ hM hS ls (lv_sub hl [0] rfl)
                · refine lv_aload_n (pc := 196) E.1 E.2 dX8_next_196 rfl (lv_at hl 0 rfl) ?_
                  refine z_bipush (pc := 197) E (by decide) dX8_next_197 ?_
                  refine lv_aload_n (pc := 199) E.1 E.2 dX8_next_199 rfl (lv_at hl 0 rfl) ?_
                  refine g8_11 (pc := 200) E hts hin8 hown hK hM.1 (hts _ (List.mem_of_getElem? (i := 6) rfl)) dX8_next_200 ?_
                  refine z_imul (pc := 203) E dX8_next_203 ?_
                  refine lv_aload_n (pc := 204) E.1 E.2 dX8_next_204 rfl (lv_at hl 0 rfl) ?_
                  refine lv_aload_n (pc := 205) E.1 E.2 dX8_next_205 rfl (lv_at hl 0 rfl) ?_
                  refine g8_9 (pc := 206) E hts hin8 hown hK hM.1 (hts _ (List.mem_of_getElem? (i := 1) rfl)) dX8_next_206 ?_
                  refine z_rVi (pc := 209) (As := [.int (iI i)]) (rest := [.int (iI (10 * v)), .ref (o 0)]) E hml hown hts (mX8_see lL G o (zu (zu (zu (zu (zu (zu (zu μ 8 (μ 9)) 8 p) 9 p) 15 0) 11 0) 9 i) 11 v) σ φ κ β ω i (by omega) (by simpa only [zu, Int.reduceEq, reduceIte] using hn1) (by simpa only [zu, Int.reduceEq, reduceIte] using hn0)) (cwV 1 hts gX8_next_X8_see rfl rfl rfl vdX8_see ⟨Nat.le_of_ble_eq_true rfl, Nat.le_of_ble_eq_true rfl⟩) (oB.recv hK hM.1 rfl) (W8.mu hM (by simp only [mV, zu, Int.reduceEq, reduceIte])) hK rfl hl.1 rfl dX8_next_209 hcs (Nat.le_of_ble_eq_true rfl) ?_
                  have hv209 := see_v β (μ 7) i
                  refine z_iadd (pc := 212) E dX8_next_212 ?_
                  refine z_bipush (pc := 213) E (by decide) dX8_next_213 ?_
                  refine z_isub (pc := 215) E dX8_next_215 ?_
                  refine p8_11 (pc := 216) E hts hin8 hown hK hM.1 hS (Ax.at 0 (by decide)) (hts _ (List.mem_of_getElem? (i := 6) rfl)) dX8_next_216 (fun H locs hnew hoth hS => ?_)
                  have hM := W8.p hM hnew (fun a _ h => hoth a h)
                  refine lv_aload_n (pc := 219) E.1 E.2 dX8_next_219 rfl (lv_at hl 0 rfl) ?_
                  refine lv_dup (pc := 220) E.1 E.2 dX8_next_220 rfl ?_
                  refine g8_9 (pc := 221) E hts hin8 hown hK hM.1 (hts _ (List.mem_of_getElem? (i := 1) rfl)) dX8_next_221 ?_
                  refine z_iconst (pc := 224) E dX8_next_224 ?_
                  refine z_iadd (pc := 225) E dX8_next_225 ?_
                  refine p8_9 (pc := 226) E hts hin8 hown hK hM.1 hS (Ax.at 0 (by decide)) (hts _ (List.mem_of_getElem? (i := 1) rfl)) dX8_next_226 (fun H locs hnew hoth hS => ?_)
                  have hM := W8.p hM hnew (fun a _ h => hoth a h)
                  refine lv_goto (pc := 229) (tgt := 173) E.1 E.2 dX8_next_229 (by decide) ?_
                  exact ihL173  (i + 1) (((10 * v) + (see β (μ 7) i)) - 48) (by omega) (by rw [← hei, rn_s (i := i) (by omega)]) (by first | exact nv_s hi.1 hv (by omega) | exact nv_n hi.1 hv (by omega)) (by omega) (by omega)  _ _ hM hS ls (lv_sub hl [0] rfl)
        · suffices L80 : ∀ (nf : Nat), ∀  (i : Int) (y : Int), (p ≤ i ∧ i ≤ μ 7) → (rn β (μ 7) 97 122 i = rn β (μ 7) 97 122 p) → (y = wv β p (min (i - p) 8).toNat) → (0 ≤ y ∧ y < 1099511627776) → ((μ 7 - i).toNat) < nf → ∀  (H : Heap) (locs : List Loc), W8 G o [.ref (o 1), .ref (o 2), .ref (o 3), .int (iI (μ 3)), .int (iI (μ 4)), .ref (o 4), .int (iI (μ 6)), .int (iI (μ 7)), .int (iI p), .int (iI i), .int (iI (μ 10)), .int (iI (μ 11)), .int (iI (μ 12)), .int (iI (μ 13)), .int (iI (μ 14)), .long (iL y), .ref (o 5), .int (iI (μ 17))] σ φ κ β ω H → va_S (Ax o 6) ss.heap H locs → ∀ ls : Array Slot, lv_has ls 1 [(0, .ref (o 0))] → W pp lL ee ({ frames := 2, cells := 0, slots := 0, locals := 45 } : Room) ss mm [.ref (o 0)].toArray below meth cC H locs 0 0 (MQ below (va_Qv (fun _ : Unit => True) (fun _ tZ => ∃ (μ1 : Int → Int), W8 G o (mV o μ1) σ φ κ β ω tZ.heap ∧ (KQ μ1 μ) ∧ (μ1 12 = μ 12) ∧ (μ1 13 = μ 13) ∧ (TK β μ1 (μ 9)) ∧ (R64 (μ1 15))) (Ax o 6)) [.ref (o 0)].toArray ss 0 0 (Ax o 6)) (F0 mm 80 ls []) from L80 _  p 0 (by omega) rfl (by rw [show (min (p - p) 8).toNat = 0 by omega]; rfl) (by omega) (Nat.lt_succ_self _)  _ _ hM hS ls (lv_sub hl [0] rfl)
          intro nfL80
          induction nfL80 with
          | zero => intro  i y hi hei hy hyb hmzL80; exact absurd hmzL80 (Nat.not_lt_zero _)
          | succ nfL80 ihL80 =>
            intro  i y hi hei hy hyb hmzL80  H locs hM hS ls hl
            refine lv_aload_n (pc := 80) E.1 E.2 dX8_next_80 rfl (lv_at hl 0 rfl) ?_
            refine lv_aload_n (pc := 81) E.1 E.2 dX8_next_81 rfl (lv_at hl 0 rfl) ?_
            refine g8_9 (pc := 82) E hts hin8 hown hK hM.1 (hts _ (List.mem_of_getElem? (i := 1) rfl)) dX8_next_82 ?_
            refine z_rVi (pc := 85) (As := [.int (iI i)]) (rest := []) E hml hown hts (mX8_see lL G o (zu (zu (zu (zu (zu (zu μ 8 (μ 9)) 8 p) 9 p) 15 0) 9 i) 15 y) σ φ κ β ω i (by omega) (by simpa only [zu, Int.reduceEq, reduceIte] using hn1) (by simpa only [zu, Int.reduceEq, reduceIte] using hn0)) (cwV 1 hts gX8_next_X8_see rfl rfl rfl vdX8_see ⟨Nat.le_of_ble_eq_true rfl, Nat.le_of_ble_eq_true rfl⟩) (oB.recv hK hM.1 rfl) (W8.mu hM (by simp only [mV, zu, Int.reduceEq, reduceIte])) hK rfl hl.1 rfl dX8_next_85 hcs (Nat.le_of_ble_eq_true rfl) ?_
            have hv85 := see_v β (μ 7) i
            have hbi := fun z : i < 900 => hb i (by omega) z
            refine z_rSi (pc := 88) (P := fun _ => True) (As := [.int (iI (see β (μ 7) i))]) (rest := []) E hml hown hts (mX8_isLetter lL G (see β (μ 7) i) ⟨by omega, by omega⟩) (va_cwS 1 hts gX8_next_X8_isLetter rfl rfl rfl vdX8_isLetter.2 ⟨Nat.le_of_ble_eq_true rfl, Nat.le_of_ble_eq_true rfl⟩) trivial hK rfl hl.1 rfl dX8_next_88 hcs (Nat.le_of_ble_eq_true rfl) ?_
            refine z_ifb_eq (pc := 91) (tgt := 146) E dX8_next_91 (by decide) (fun h91 => ?_) (fun h91 => ?_)
            · refine lv_aload_n (pc := 146) E.1 E.2 dX8_next_146 rfl (lv_at hl 0 rfl) ?_
              refine z_iconst (pc := 147) E dX8_next_147 ?_
              refine p8_10 (pc := 148) E hts hin8 hown hK hM.1 hS (Ax.at 0 (by decide)) (hts _ (List.mem_of_getElem? (i := 5) rfl)) dX8_next_148 (fun H locs hnew hoth hS => ?_)
              have hM := W8.p hM hnew (fun a _ h => hoth a h)
              refine lv_goto (pc := 151) (tgt := 255) E.1 E.2 dX8_next_151 (by decide) ?_
              exact z_retWv E hr ⟨(zu (zu (zu (zu (zu (zu (zu μ 8 (μ 9)) 8 p) 9 p) 15 0) 9 i) 15 y) 10 0), (W8.mu hM (by simp only [mV, zu, Int.reduceEq, reduceIte])), (by refine ⟨?_, ?_, ?_, ?_, ?_, ?_⟩ <;> simp only [zu, Int.reduceEq, reduceIte]), (by simp only [zu, Int.reduceEq, reduceIte]), (by simp only [zu, Int.reduceEq, reduceIte]), (by unfold TK; simp only [zu, Int.reduceEq, reduceIte]; exact ⟨⟨by omega, by omega⟩, hep, (tk0 hep (by omega) (by omega) hei (by omega) hy)⟩), (by simp only [zu, Int.reduceEq, reduceIte]; exact ⟨by omega, by omega⟩)⟩ hS hlocks dX8_next_255
            · refine lv_aload_n (pc := 94) E.1 E.2 dX8_next_94 rfl (lv_at hl 0 rfl) ?_
              refine g8_9 (pc := 95) E hts hin8 hown hK hM.1 (hts _ (List.mem_of_getElem? (i := 1) rfl)) dX8_next_95 ?_
              refine lv_aload_n (pc := 98) E.1 E.2 dX8_next_98 rfl (lv_at hl 0 rfl) ?_
              refine g8_8 (pc := 99) E hts hin8 hown hK hM.1 (hts _ (List.mem_of_getElem? (i := 2) rfl)) dX8_next_99 ?_
              refine z_isub (pc := 102) E dX8_next_102 ?_
              refine z_bipush (pc := 103) E (by decide) dX8_next_103 ?_
              refine z_icmp_ge (pc := 105) (tgt := 133) E ⟨by omega, by omega⟩ (by decide) dX8_next_105 (by decide) (fun h105 => ?_) (fun h105 => ?_)
              · refine lv_aload_n (pc := 133) E.1 E.2 dX8_next_133 rfl (lv_at hl 0 rfl) ?_
                refine lv_dup (pc := 134) E.1 E.2 dX8_next_134 rfl ?_
                refine g8_9 (pc := 135) E hts hin8 hown hK hM.1 (hts _ (List.mem_of_getElem? (i := 1) rfl)) dX8_next_135 ?_
                refine z_iconst (pc := 138) E dX8_next_138 ?_
                refine z_iadd (pc := 139) E dX8_next_139 ?_
                refine p8_9 (pc := 140) E hts hin8 hown hK hM.1 hS (Ax.at 0 (by decide)) (hts _ (List.mem_of_getElem? (i := 1) rfl)) dX8_next_140 (fun H locs hnew hoth hS => ?_)
                have hM := W8.p hM hnew (fun a _ h => hoth a h)
                refine lv_goto (pc := 143) (tgt := 80) E.1 E.2 dX8_next_143 (by decide) ?_
                exact ihL80  (i + 1) y (by omega) (by rw [← hei, rn_s (i := i) (by omega)]) hy2 hyb2 (by omega)  _ _ hM hS ls (lv_sub hl [0] rfl)
              · refine lv_aload_n (pc := 108) E.1 E.2 dX8_next_108 rfl (lv_at hl 0 rfl) ?_
                refine lv_aload_n (pc := 109) E.1 E.2 dX8_next_109 rfl (lv_at hl 0 rfl) ?_
                refine g8_15 (pc := 110) E hts hin8 hown hK hM.1 (hts _ (List.mem_of_getElem? (i := 3) rfl)) dX8_next_110 ?_
                refine z_iconst (pc := 113) E dX8_next_113 ?_
                refine z_lshl5 (pc := 114) E dX8_next_114 ?_
                refine lv_aload_n (pc := 115) E.1 E.2 dX8_next_115 rfl (lv_at hl 0 rfl) ?_
                refine lv_aload_n (pc := 116) E.1 E.2 dX8_next_116 rfl (lv_at hl 0 rfl) ?_
                refine g8_9 (pc := 117) E hts hin8 hown hK hM.1 (hts _ (List.mem_of_getElem? (i := 1) rfl)) dX8_next_117 ?_
                refine z_rVi (pc := 120) (As := [.int (iI i)]) (rest := [.long (iL (y * 32)), .ref (o 0)]) E hml hown hts (mX8_see lL G o (zu (zu (zu (zu (zu (zu μ 8 (μ 9)) 8 p) 9 p) 15 0) 9 i) 15 y) σ φ κ β ω i (by omega) (by simpa only [zu, Int.reduceEq, reduceIte] using hn1) (by simpa only [zu, Int.reduceEq, reduceIte] using hn0)) (cwV 1 hts gX8_next_X8_see rfl rfl rfl vdX8_see ⟨Nat.le_of_ble_eq_true rfl, Nat.le_of_ble_eq_true rfl⟩) (oB.recv hK hM.1 rfl) (W8.mu hM (by simp only [mV, zu, Int.reduceEq, reduceIte])) hK rfl hl.1 rfl dX8_next_120 hcs (Nat.le_of_ble_eq_true rfl) ?_
                have hv120 := see_v β (μ 7) i
                refine z_bipush (pc := 123) E (by decide) dX8_next_123 ?_
                refine z_isub (pc := 125) E dX8_next_125 ?_
                refine z_iconst (pc := 126) E dX8_next_126 ?_
                refine z_iadd (pc := 127) E dX8_next_127 ?_
                refine z_i2l (pc := 128) E ⟨by omega, by omega⟩ dX8_next_128 ?_
                refine z_lor5 (pc := 129) E ⟨by omega, by omega⟩ dX8_next_129 ?_
                refine p8_15 (pc := 130) E hts hin8 hown hK hM.1 hS (Ax.at 0 (by decide)) (hts _ (List.mem_of_getElem? (i := 3) rfl)) dX8_next_130 (fun H locs hnew hoth hS => ?_)
                have hM := W8.p hM hnew (fun a _ h => hoth a h)
                refine lv_aload_n (pc := 133) E.1 E.2 dX8_next_133 rfl (lv_at hl 0 rfl) ?_
                refine lv_dup (pc := 134) E.1 E.2 dX8_next_134 rfl ?_
                refine g8_9 (pc := 135) E hts hin8 hown hK hM.1 (hts _ (List.mem_of_getElem? (i := 1) rfl)) dX8_next_135 ?_
                refine z_iconst (pc := 138) E dX8_next_138 ?_
                refine z_iadd (pc := 139) E dX8_next_139 ?_
                refine p8_9 (pc := 140) E hts hin8 hown hK hM.1 hS (Ax.at 0 (by decide)) (hts _ (List.mem_of_getElem? (i := 1) rfl)) dX8_next_140 (fun H locs hnew hoth hS => ?_)
                have hM := W8.p hM hnew (fun a _ h => hoth a h)
                refine lv_goto (pc := 143) (tgt := 80) E.1 E.2 dX8_next_143 (by decide) ?_
                exact ihL80  (i + 1) (y * 32 + (((see β (μ 7) i) - 97) + 1)) (by omega) (by rw [← hei, rn_s (i := i) (by omega)]) hy2 hyb2 (by omega)  _ _ hM hS ls (lv_sub hl [0] rfl)
      · refine lv_aload_n (pc := 58) E.1 E.2 dX8_next_58 rfl (lv_at hl 0 rfl) ?_
        refine z_iconst (pc := 59) E dX8_next_59 ?_
        refine p8_10 (pc := 60) E hts hin8 hown hK hM.1 hS (Ax.at 0 (by decide)) (hts _ (List.mem_of_getElem? (i := 5) rfl)) dX8_next_60 (fun H locs hnew hoth hS => ?_)
        have hM := W8.p hM hnew (fun a _ h => hoth a h)
        refine lv_goto (pc := 63) (tgt := 255) E.1 E.2 dX8_next_63 (by decide) ?_
        exact z_retWv E hr ⟨(zu (zu (zu (zu (zu μ 8 (μ 9)) 8 p) 9 p) 15 0) 10 3), (W8.mu hM (by simp only [mV, zu, Int.reduceEq, reduceIte])), (by refine ⟨?_, ?_, ?_, ?_, ?_, ?_⟩ <;> simp only [zu, Int.reduceEq, reduceIte]), (by simp only [zu, Int.reduceEq, reduceIte]), (by simp only [zu, Int.reduceEq, reduceIte]), (by unfold TK; simp only [zu, Int.reduceEq, reduceIte]; exact ⟨⟨by omega, by omega⟩, hep, (hep ▸ (tk3 (by omega)))⟩), (by simp only [zu, Int.reduceEq, reduceIte]; exact ⟨by decide, by decide⟩)⟩ hS hlocks dX8_next_255
    · have hpn : p < μ 7 ∧ β p = 32 := by omega
      refine lv_aload_n (pc := 21) E.1 E.2 dX8_next_21 rfl (lv_at hl 0 rfl) ?_
      refine lv_dup (pc := 22) E.1 E.2 dX8_next_22 rfl ?_
      refine g8_8 (pc := 23) E hts hin8 hown hK hM.1 (hts _ (List.mem_of_getElem? (i := 2) rfl)) dX8_next_23 ?_
      refine z_iconst (pc := 26) E dX8_next_26 ?_
      refine z_iadd (pc := 27) E dX8_next_27 ?_
      refine p8_8 (pc := 28) E hts hin8 hown hK hM.1 hS (Ax.at 0 (by decide)) (hts _ (List.mem_of_getElem? (i := 2) rfl)) dX8_next_28 (fun H locs hnew hoth hS => ?_)
      have hM := W8.p hM hnew (fun a _ h => hoth a h)
      refine lv_goto (pc := 31) (tgt := 8) E.1 E.2 dX8_next_31 (by decide) ?_
      exact ihL8  (p + 1) (by omega) (by rw [← hes, rn_s (i := p) (by omega)]) (by omega)  _ _ hM hS ls (lv_sub hl [0] rfl)
