set_option maxHeartbeats 1000000 in
set_option maxRecDepth 100000 in
theorem mX8_loadN (lL : Launch) (G : GG) (o : Nat → Nat) (μ σ φ κ β ω : Int → Int) (n : Int) (hn : -2147483648 ≤ n ∧ n < 2147483648) (hm : 0 ≤ μ 6 ∧ μ 6 ≤ 900) (hbad : ¬ (0 ≤ n ∧ n ≤ μ 6)) : Met lL yX8_load wsX8_load ({ frames := 7, cells := 0, slots := 0, locals := 151 } : Room) (va_Pc [.ref (o 0), .int (iI n)] (fun U => W8 G o (mV o μ) σ φ κ β ω U.heap ∧ KK G U)) (va_Qi (fun r (_ : Unit) => r = (iI 0)) (fun _ tZ => W8 G o (mV o (zu μ 4 1)) σ φ κ β ω tZ.heap) (Ax o 6)) 0 0 (Ax o 6) := by
  refine z_met (P := (fun H : Heap => W8 G o (mV o μ) σ φ κ β ω H)) (by decide) rfl (Nat.le_of_ble_eq_true rfl) (fun pp ee ss mm below meth cC E hr hml hown hts hlocks hM hK ls hl => ?_)
  have hl : lv_has ls 3 [(0, .ref (o 0)), (1, .int (iI n))] := hl
  have hcs : 0 ≤ (({ frames := 7, cells := 0, slots := 0, locals := 151 } : Room)).cells ∧ 0 ≤ (({ frames := 7, cells := 0, slots := 0, locals := 151 } : Room)).slots := ⟨Nat.zero_le _, Nat.zero_le _⟩
  have hS : va_S (Ax o 6) ss.heap ss.heap [] := va_S.rf
  have hin8 : ∀ w ∈ wsX80, w ∈ wsX8_load := fun w h => List.mem_cons_of_mem _ (List.mem_append_right _ (h))
  refine lv_aload_n (pc := 0) E.1 E.2 dX8_load_0 rfl (lv_at hl 0 rfl) ?_
  refine lv_iload_n (pc := 1) E.1 E.2 dX8_load_1 rfl (lv_at hl 1 rfl) ?_
  refine z_i2l (pc := 2) E ⟨by omega, by omega⟩ dX8_load_2 ?_
  refine z_lconst (pc := 3) (v := 0) E (by decide) dX8_load_3 ?_
  refine lv_aload_n (pc := 4) E.1 E.2 dX8_load_4 rfl (lv_at hl 0 rfl) ?_
  refine g8_6 (pc := 5) E hts hin8 hown hK hM.1 (hts _ (List.mem_of_getElem? (i := 1) rfl)) dX8_load_5 ?_
  refine z_i2l (pc := 8) E ⟨by omega, by omega⟩ dX8_load_8 ?_
  refine z_rSi (pc := 9) (P := fun _ => True) (As := [.long (iL n), .long (iL 0), .long (iL (μ 6))]) (rest := [.ref (o 0)]) E hml hown hts (mX8_isIn lL G n 0 (μ 6) ⟨by omega, by omega⟩ ⟨by omega, by omega⟩ ⟨by omega, by omega⟩) (va_cwS 3 hts gX8_load_X8_isIn rfl rfl rfl vdX8_isIn.2 ⟨Nat.le_of_ble_eq_true rfl, Nat.le_of_ble_eq_true rfl⟩) trivial hK rfl hl.1 rfl dX8_load_9 hcs (Nat.le_of_ble_eq_true rfl) ?_
  refine z_ifb_eq (pc := 12) (tgt := 19) E dX8_load_12 (by decide) (fun h12 => ?_) (fun h12 => ?_)
  · refine z_iconst (pc := 19) E dX8_load_19 ?_
    refine p8_4 (pc := 20) E hts hin8 hown hK hM.1 hS (Ax.at 0 (by decide)) (hts _ (List.mem_of_getElem? (i := 2) rfl)) dX8_load_20 (fun H locs hnew hoth hS => ?_)
    have hM := W8.p hM hnew (fun a _ h => hoth a h)
    refine lv_aload_n (pc := 23) E.1 E.2 dX8_load_23 rfl (lv_at hl 0 rfl) ?_
    refine g8_4 (pc := 24) E hts hin8 hown hK hM.1 (hts _ (List.mem_of_getElem? (i := 2) rfl)) dX8_load_24 ?_
    refine z_if_le (pc := 27) (tgt := 32) E (by decide) dX8_load_27 (by decide) (fun h27 => ?_) (fun h27 => ?_)
    · exact absurd h27 (by decide)
    · refine z_iconst (pc := 30) E dX8_load_30 ?_
      exact z_retWi E hr rfl (W8.mu hM (by simp only [mV, zu, Int.reduceEq, reduceIte])) hS hlocks dX8_load_31
  · exact absurd h12 hbad
set_option maxHeartbeats 4000000 in
set_option maxRecDepth 100000 in
theorem mX8_loadO (lL : Launch) (G : GG) (o : Nat → Nat) (μ σ φ κ β ω : Int → Int) (n : Int) (aK aV : Nat → Nat) (hI : In σ) (hn : -2147483648 ≤ n ∧ n < 2147483648) (hb : TX β) (hm : 0 ≤ μ 6 ∧ μ 6 ≤ 900) (hk8 : 0 ≤ μ 3 ∧ μ 3 ≤ 8) (hok : 0 ≤ n ∧ n ≤ μ 6) : Met lL yX8_load wsX8_load ({ frames := 7, cells := 0, slots := 0, locals := 151 } : Room) (va_Pc [.ref (o 0), .int (iI n)] (fun U => W8 G o (mV o μ) σ φ κ β ω U.heap ∧ KK G U ∧ KS aK aV (Ax o 6) U U.heap)) (va_Qi (fun r (_ : Unit) => r = (iI (if ldX β n = 0 then ldF β n 3 else ldX β n))) (fun _ tZ => ∃ (μ1 φ1 : Int → Int), W8 G o (mV o μ1) (if ldX β n = 0 then nxLoad σ (ldF β n) else σ) φ1 (if ldX β n = 0 then keK κ σ (μ 3) else κ) β ω tZ.heap ∧ (μ1 3 = if ldX β n = 0 then keM (μ 3) else μ 3) ∧ μ1 4 = 0 ∧ μ1 6 = 0 ∧ (μ1 14 = if ldX β n = 0 then -1 else ldP β n) ∧ μ1 17 = μ 17) (Ax o 6)) 0 0 (Ax o 6) := by
  refine z_metS (aK := aK) (aV := aV) (AK := (Ax o 6)) (P := (fun H : Heap => W8 G o (mV o μ) σ φ κ β ω H)) (by decide +kernel) rfl (Nat.le_of_ble_eq_true rfl) (fun pp ee ss mm below meth cC E hr hml hown hts hlocks hM hK ls hl => ?_)
  have hl : lv_has ls 3 [(0, .ref (o 0)), (1, .int (iI n))] := hl
  have hcs : 0 ≤ (({ frames := 7, cells := 0, slots := 0, locals := 151 } : Room)).cells ∧ 0 ≤ (({ frames := 7, cells := 0, slots := 0, locals := 151 } : Room)).slots := ⟨Nat.zero_le _, Nat.zero_le _⟩
  have hKS := hK.2
  have hK := hK.1
  have hS : va_S (Ax o 6) ss.heap ss.heap [] := va_S.rf
  have hin8 : ∀ w ∈ wsX80, w ∈ wsX8_load := fun w h => List.mem_cons_of_mem _ (List.mem_append_right _ (h))
  have hF := hI.F
  have hMm := hI.M
  have hGn := hI.Gn
  refine lv_aload_n (pc := 0) E.1 E.2 dX8_load_0 rfl (lv_at hl 0 rfl) ?_
  refine lv_iload_n (pc := 1) E.1 E.2 dX8_load_1 rfl (lv_at hl 1 rfl) ?_
  refine z_i2l (pc := 2) E ⟨by omega, by omega⟩ dX8_load_2 ?_
  refine z_lconst (pc := 3) (v := 0) E (by decide) dX8_load_3 ?_
  refine lv_aload_n (pc := 4) E.1 E.2 dX8_load_4 rfl (lv_at hl 0 rfl) ?_
  refine g8_6 (pc := 5) E hts hin8 hown hK hM.1 (hts _ (List.mem_of_getElem? (i := 1) rfl)) dX8_load_5 ?_
  refine z_i2l (pc := 8) E ⟨by omega, by omega⟩ dX8_load_8 ?_
  refine z_rSi (pc := 9) (P := fun _ => True) (As := [.long (iL n), .long (iL 0), .long (iL (μ 6))]) (rest := [.ref (o 0)]) E hml hown hts (mX8_isIn lL G n 0 (μ 6) ⟨by omega, by omega⟩ ⟨by omega, by omega⟩ ⟨by omega, by omega⟩) (va_cwS 3 hts gX8_load_X8_isIn rfl rfl rfl vdX8_isIn.2 ⟨Nat.le_of_ble_eq_true rfl, Nat.le_of_ble_eq_true rfl⟩) trivial hK rfl hl.1 rfl dX8_load_9 hcs (Nat.le_of_ble_eq_true rfl) ?_
  refine z_ifb_eq (pc := 12) (tgt := 19) E dX8_load_12 (by decide) (fun h12 => ?_) (fun h12 => ?_)
  · exact absurd hok h12
  · refine z_iconst (pc := 15) E dX8_load_15 ?_
    refine lv_goto (pc := 16) (tgt := 20) E.1 E.2 dX8_load_16 (by decide) ?_
    refine p8_4 (pc := 20) E hts hin8 hown hK hM.1 hS (Ax.at 0 (by decide)) (hts _ (List.mem_of_getElem? (i := 2) rfl)) dX8_load_20 (fun H locs hnew hoth hS => ?_)
    have hM := W8.p hM hnew (fun a _ h => hoth a h)
    refine lv_aload_n (pc := 23) E.1 E.2 dX8_load_23 rfl (lv_at hl 0 rfl) ?_
    refine g8_4 (pc := 24) E hts hin8 hown hK hM.1 (hts _ (List.mem_of_getElem? (i := 2) rfl)) dX8_load_24 ?_
    refine z_if_le (pc := 27) (tgt := 32) E (by decide) dX8_load_27 (by decide) (fun h27 => ?_) (fun h27 => ?_)
    · refine lv_aload_n (pc := 32) E.1 E.2 dX8_load_32 rfl (lv_at hl 0 rfl) ?_
      refine lv_iload_n (pc := 33) E.1 E.2 dX8_load_33 rfl (lv_at hl 1 rfl) ?_
      refine p8_7 (pc := 34) E hts hin8 hown hK hM.1 hS (Ax.at 0 (by decide)) (hts _ (List.mem_of_getElem? (i := 3) rfl)) dX8_load_34 (fun H locs hnew hoth hS => ?_)
      have hM := W8.p hM hnew (fun a _ h => hoth a h)
      refine lv_aload_n (pc := 37) E.1 E.2 dX8_load_37 rfl (lv_at hl 0 rfl) ?_
      refine z_iconst (pc := 38) E dX8_load_38 ?_
      refine p8_6 (pc := 39) E hts hin8 hown hK hM.1 hS (Ax.at 0 (by decide)) (hts _ (List.mem_of_getElem? (i := 1) rfl)) dX8_load_39 (fun H locs hnew hoth hS => ?_)
      have hM := W8.p hM hnew (fun a _ h => hoth a h)
      refine lv_aload_n (pc := 42) E.1 E.2 dX8_load_42 rfl (lv_at hl 0 rfl) ?_
      refine z_iconst (pc := 43) E dX8_load_43 ?_
      refine p8_9 (pc := 44) E hts hin8 hown hK hM.1 hS (Ax.at 0 (by decide)) (hts _ (List.mem_of_getElem? (i := 4) rfl)) dX8_load_44 (fun H locs hnew hoth hS => ?_)
      have hM := W8.p hM hnew (fun a _ h => hoth a h)
      refine lv_aload_n (pc := 47) E.1 E.2 dX8_load_47 rfl (lv_at hl 0 rfl) ?_
      refine z_iconst (pc := 48) E dX8_load_48 ?_
      refine p8_12 (pc := 49) E hts hin8 hown hK hM.1 hS (Ax.at 0 (by decide)) (hts _ (List.mem_of_getElem? (i := 5) rfl)) dX8_load_49 (fun H locs hnew hoth hS => ?_)
      have hM := W8.p hM hnew (fun a _ h => hoth a h)
      refine lv_aload_n (pc := 52) E.1 E.2 dX8_load_52 rfl (lv_at hl 0 rfl) ?_
      refine z_wVv (pc := 53) (As := []) (rest := []) E hml hown hts (mX8_begins lL G o (zu (zu (zu (zu (zu μ 4 0) 7 n) 6 0) 9 0) 12 0) σ φ κ β ω) (cwV 0 hts gX8_load_X8_begins rfl rfl rfl vdX8_begins ⟨Nat.le_of_ble_eq_true rfl, Nat.le_of_ble_eq_true rfl⟩) (oB.recv hK hM.1 rfl) (W8.mu hM (by simp only [mV, zu, Int.reduceEq, reduceIte])) hK hS (fun _ h => h) rfl hl.1 rfl dX8_load_53 hcs (Nat.le_of_ble_eq_true rfl) (fun H locs hnew hsz hoth hS => ?_)
      have hM : W8 G o [.ref (o 1), .ref (o 2), .ref (o 3), .int (iI (μ 3)), .int (iI 0), .ref (o 4), .int (iI 0), .int (iI n), .int (iI (μ 8)), .int (iI 0), .int (iI (μ 10)), .int (iI (μ 11)), .int (iI 0), .int (iI (μ 13)), .int (iI (μ 14)), .long (iL (μ 15)), .ref (o 5), .int (iI (μ 17))] σ (bgF φ) κ β ω H := W8.eq hnew (by simp only [mV, zu, Int.reduceEq, reduceIte])
      have hM := W8.f1 (f := iniT) hM bgF_in
      refine lv_aload_n (pc := 56) E.1 E.2 dX8_load_56 rfl (lv_at hl 0 rfl) ?_
      refine z_wVv (pc := 57) (P1 := fun H9 : Heap => ∃ (μ57 : Int → Int), W8 G o (mV o μ57) σ iniT κ β ω H9 ∧ (KQ μ57 (zu (zu (zu (zu (zu μ 4 0) 7 n) 6 0) 9 0) 12 0)) ∧ (μ57 12 = (zu (zu (zu (zu (zu μ 4 0) 7 n) 6 0) 9 0) 12 0) 12) ∧ (μ57 13 = (zu (zu (zu (zu (zu μ 4 0) 7 n) 6 0) 9 0) 12 0) 13) ∧ (TK β n μ57 0) ∧ (-9223372036854775808 ≤ μ57 15 ∧ μ57 15 < 9223372036854775808)) (As := []) (rest := []) E hml hown hts (mX8_next lL G o (zu (zu (zu (zu (zu μ 4 0) 7 n) 6 0) 9 0) 12 0) σ iniT κ β ω n 0 hb (by omega) (by simp only [zu, Int.reduceEq, reduceIte]) (by simp only [zu, Int.reduceEq, reduceIte]) (by first | omega | (simp only [zu, Int.reduceEq, reduceIte]; omega))) (cwV 0 hts gX8_load_X8_next rfl rfl rfl vdX8_next ⟨Nat.le_of_ble_eq_true rfl, Nat.le_of_ble_eq_true rfl⟩) (oB.recv hK hM.1 rfl) (W8.mu hM (by simp only [mV, zu, Int.reduceEq, reduceIte])) hK hS (fun _ h => h) rfl hl.1 rfl dX8_load_57 hcs (Nat.le_of_ble_eq_true rfl) (fun H locs hnew hsz hoth hS => ?_)
      obtain ⟨μ57, hM, kq_57, e2_57, e3_57, tk_57, rw_57⟩ := hnew
      try simp only [zu, Int.reduceEq, reduceIte] at kq_57 e2_57 e3_57 tk_57 rw_57
      have hw57 : μ57 12 = 0 := by omega
      have htk0 : TKw β n μ57 0 := by rw [TKw_f]; exact tk_57
      suffices L60 : ∀ (nf : Nat), ∀  (μL : Int → Int) (φL : Int → Int) (c : Int) (m : Nat), (KQ μL (zu (zu (zu (zu (zu μ 4 0) 7 n) 6 0) 9 0) 12 0)) → (-9223372036854775808 ≤ μL 15 ∧ μL 15 < 9223372036854775808) → ((μL 12 = 0 ∧ TKw β n μL c ∧ In φL ∧ pX β n m φL c = ldX β n ∧ pP β n m φL c = ldP β n ∧ pF β n m φL c = ldF β n ∧ n - c < m) ∨ (¬ μL 12 = 0 ∧ μL 12 = ldX β n ∧ μL 13 = ldP β n)) → (m) < nf → ∀  (H : Heap) (locs : List Loc), W8 G o (mV o μL) σ φL κ β ω H → va_S (Ax o 6) ss.heap H locs → ∀ ls : Array Slot, lv_has ls 3 [(0, .ref (o 0)), (1, .int (iI n))] → W pp lL ee ({ frames := 7, cells := 0, slots := 0, locals := 151 } : Room) ss mm [.ref (o 0), .int (iI n)].toArray below meth cC H locs 0 0 (MQ below (va_Qi (fun r (_ : Unit) => r = (iI (if ldX β n = 0 then ldF β n 3 else ldX β n))) (fun _ tZ => ∃ (μ1 φ1 : Int → Int), W8 G o (mV o μ1) (if ldX β n = 0 then nxLoad σ (ldF β n) else σ) φ1 (if ldX β n = 0 then keK κ σ (μ 3) else κ) β ω tZ.heap ∧ (μ1 3 = if ldX β n = 0 then keM (μ 3) else μ 3) ∧ μ1 4 = 0 ∧ μ1 6 = 0 ∧ (μ1 14 = if ldX β n = 0 then -1 else ldP β n) ∧ μ1 17 = μ 17) (Ax o 6)) [.ref (o 0), .int (iI n)].toArray ss 0 0 (Ax o 6)) (F0 mm 60 ls []) from L60 _  μ57 iniT 0 901 (kq_57) (by omega) (Or.inl ⟨hw57, htk0, iniT_I, rfl, rfl, rfl, by omega⟩) (Nat.lt_succ_self _)  _ _ hM hS ls (lv_sub hl [0, 1] rfl)
      intro nfL60
      induction nfL60 with
      | zero => intro  μL φL c m hkL hrL hz hmzL60; exact absurd hmzL60 (Nat.not_lt_zero _)
      | succ nfL60 ihL60 =>
        intro  μL φL c m hkL hrL hz hmzL60  H locs hM hS ls hl
        have hwr : -2147483648 ≤ μL 12 ∧ μL 12 < 2147483648 := by have := ldX_b β n; rcases hz with h | h <;> omega
        have hkq := hkL
        unfold KQ at hkq
        simp only [zu, Int.reduceEq, reduceIte] at hkq
        refine lv_aload_n (pc := 60) E.1 E.2 dX8_load_60 rfl (lv_at hl 0 rfl) ?_
        refine g8_12 (pc := 61) E hts hin8 hown hK hM.1 (hts _ (List.mem_of_getElem? (i := 5) rfl)) dX8_load_61 ?_
        refine z_if_ne (pc := 64) (tgt := 82) E ⟨by omega, by omega⟩ dX8_load_64 (by decide) (fun h64 => ?_) (fun h64 => ?_)
        · have hzL := hz.resolve_left (fun z => h64 z.1)
          have hz0 : ¬ ldX β n = 0 := fun z => hzL.1 (hzL.2.1.trans z)
          refine lv_aload_n (pc := 82) E.1 E.2 dX8_load_82 rfl (lv_at hl 0 rfl) ?_
          refine lv_aload_n (pc := 83) E.1 E.2 dX8_load_83 rfl (lv_at hl 0 rfl) ?_
          refine g8_12 (pc := 84) E hts hin8 hown hK hM.1 (hts _ (List.mem_of_getElem? (i := 5) rfl)) dX8_load_84 ?_
          refine z_if_ne (pc := 87) (tgt := 94) E ⟨by omega, by omega⟩ dX8_load_87 (by decide) (fun h87 => ?_) (fun h87 => ?_)
          · refine lv_aload_n (pc := 94) E.1 E.2 dX8_load_94 rfl (lv_at hl 0 rfl) ?_
            refine g8_13 (pc := 95) E hts hin8 hown hK hM.1 (hts _ (List.mem_of_getElem? (i := 7) rfl)) dX8_load_95 ?_
            refine p8_14 (pc := 98) E hts hin8 hown hK hM.1 hS (Ax.at 0 (by decide)) (hts _ (List.mem_of_getElem? (i := 8) rfl)) dX8_load_98 (fun H locs hnew hoth hS => ?_)
            have hM := W8.p hM hnew (fun a _ h => hoth a h)
            refine lv_aload_n (pc := 101) E.1 E.2 dX8_load_101 rfl (lv_at hl 0 rfl) ?_
            refine g8_12 (pc := 102) E hts hin8 hown hK hM.1 (hts _ (List.mem_of_getElem? (i := 5) rfl)) dX8_load_102 ?_
            refine z_if_eq (pc := 105) (tgt := 113) E ⟨by omega, by omega⟩ dX8_load_105 (by decide) (fun h105 => ?_) (fun h105 => ?_)
            · exact absurd h105 (by first | exact h64 | exact fun q => h64 q | omega)
            · refine lv_aload_n (pc := 108) E.1 E.2 dX8_load_108 rfl (lv_at hl 0 rfl) ?_
              refine g8_12 (pc := 109) E hts hin8 hown hK hM.1 (hts _ (List.mem_of_getElem? (i := 5) rfl)) dX8_load_109 ?_
              exact z_retWi (P1 := fun H9 : Heap => ∃ (μ1 φ1 : Int → Int), W8 G o (mV o μ1) (if ldX β n = 0 then nxLoad σ (ldF β n) else σ) φ1 (if ldX β n = 0 then keK κ σ (μ 3) else κ) β ω H9 ∧ (μ1 3 = if ldX β n = 0 then keM (μ 3) else μ 3) ∧ μ1 4 = 0 ∧ μ1 6 = 0 ∧ (μ1 14 = if ldX β n = 0 then -1 else ldP β n) ∧ μ1 17 = μ 17) E hr (congrArg iI (by rw [if_neg hz0]; omega)) ⟨(zu μL 14 (μL 13)), φL, (by rw [if_neg hz0, if_neg hz0]; exact (W8.mu hM (by simp only [mV, zu, Int.reduceEq, reduceIte]))), (by rw [if_neg hz0]; first | (simp only [zu, Int.reduceEq, reduceIte]; done) | (simp only [zu, Int.reduceEq, reduceIte]; omega) | (simp only [zu, Int.reduceEq, reduceIte]; rw [hkq.1])), (by first | (simp only [zu, Int.reduceEq, reduceIte]; done) | (simp only [zu, Int.reduceEq, reduceIte]; omega) | (simp only [zu, Int.reduceEq, reduceIte]; rw [hkq.1])), (by first | (simp only [zu, Int.reduceEq, reduceIte]; done) | (simp only [zu, Int.reduceEq, reduceIte]; omega) | (simp only [zu, Int.reduceEq, reduceIte]; rw [hkq.1])), (by rw [if_neg hz0]; first | (simp only [zu, Int.reduceEq, reduceIte]; done) | (simp only [zu, Int.reduceEq, reduceIte]; omega) | (simp only [zu, Int.reduceEq, reduceIte]; rw [hkq.1])), (by first | (simp only [zu, Int.reduceEq, reduceIte]; done) | (simp only [zu, Int.reduceEq, reduceIte]; omega) | (simp only [zu, Int.reduceEq, reduceIte]; rw [hkq.1]))⟩ hS hlocks dX8_load_112
          · exact absurd h87 (by first | exact h64 | exact fun q => h64 q | omega)
        · have hzL := hz.resolve_right (fun z => z.1 h64)
          have htL := hzL.2.1
          have hmc := hzL.2.2.2.2.2.2
          have h7tL := htL.n7
          have h9tL := htL.be9
          have h8tL := htL.at8
          have h10tL := htL.ki10
          have hctL := htL.c0
          have hstL := htL.skb
          have httL := htL.teb
          have hktL := Kd_b β n c
          have hntL := fun z : Kd β n c = 1 => htL.nu z
          have hnbL : Kd β n c = 1 → (0 ≤ Nm β n c ∧ Nm β n c ≤ 9999999) := fun z => NmT_r (by omega) z
          refine lv_aload_n (pc := 67) E.1 E.2 dX8_load_67 rfl (lv_at hl 0 rfl) ?_
          refine g8_10 (pc := 68) E hts hin8 hown hK hM.1 (hts _ (List.mem_of_getElem? (i := 6) rfl)) dX8_load_68 ?_
          refine z_iconst (pc := 71) E dX8_load_71 ?_
          refine z_icmp_eq (pc := 72) (tgt := 82) E ⟨by omega, by omega⟩ (by decide) dX8_load_72 (by decide) (fun h72 => ?_) (fun h72 => ?_)
          · have hzx := pX_3 (φ := φL) (m := m) (b := β) (n := n) (c := c) (by omega)
            have hz0 : ldX β n = 0 := by rw [← hzL.2.2.2.1]; exact hzx
            have hzf : φL = ldF β n := by rw [← hzL.2.2.2.2.2.1]; exact (pF_3 (m := m) (by omega)).symm
            refine lv_aload_n (pc := 82) E.1 E.2 dX8_load_82 rfl (lv_at hl 0 rfl) ?_
            refine lv_aload_n (pc := 83) E.1 E.2 dX8_load_83 rfl (lv_at hl 0 rfl) ?_
            refine g8_12 (pc := 84) E hts hin8 hown hK hM.1 (hts _ (List.mem_of_getElem? (i := 5) rfl)) dX8_load_84 ?_
            refine z_if_ne (pc := 87) (tgt := 94) E ⟨by omega, by omega⟩ dX8_load_87 (by decide) (fun h87 => ?_) (fun h87 => ?_)
            · exact absurd h87 (by first | exact h64 | exact fun q => h64 q | omega)
            · refine z_iconst (pc := 90) E dX8_load_90 ?_
              refine lv_goto (pc := 91) (tgt := 98) E.1 E.2 dX8_load_91 (by decide) ?_
              refine p8_14 (pc := 98) E hts hin8 hown hK hM.1 hS (Ax.at 0 (by decide)) (hts _ (List.mem_of_getElem? (i := 8) rfl)) dX8_load_98 (fun H locs hnew hoth hS => ?_)
              have hM := W8.p hM hnew (fun a _ h => hoth a h)
              refine lv_aload_n (pc := 101) E.1 E.2 dX8_load_101 rfl (lv_at hl 0 rfl) ?_
              refine g8_12 (pc := 102) E hts hin8 hown hK hM.1 (hts _ (List.mem_of_getElem? (i := 5) rfl)) dX8_load_102 ?_
              refine z_if_eq (pc := 105) (tgt := 113) E ⟨by omega, by omega⟩ dX8_load_105 (by decide) (fun h105 => ?_) (fun h105 => ?_)
              · refine lv_aload_n (pc := 113) E.1 E.2 dX8_load_113 rfl (lv_at hl 0 rfl) ?_
                refine z_wVv (pc := 114) (As := []) (rest := []) E hml hown hts (mX8_keeps lL G o (zu μL 14 (-1)) σ φL κ β ω  (by simp only [zu, Int.reduceEq, reduceIte]; omega)) (cwV 0 hts gX8_load_X8_keeps rfl rfl rfl vdX8_keeps ⟨Nat.le_of_ble_eq_true rfl, Nat.le_of_ble_eq_true rfl⟩) (oB.recv hK hM.1 rfl) (W8.mu hM (by simp only [mV, zu, Int.reduceEq, reduceIte])) hK hS (fun _ h => h) rfl hl.1 rfl dX8_load_114 hcs (Nat.le_of_ble_eq_true rfl) (fun H locs hnew hsz hoth hS => ?_)
                have hM : W8 G o [.ref (o 1), .ref (o 2), .ref (o 3), .int (iI (keM ((μL 3)))), .int (iI (μL 4)), .ref (o 4), .int (iI (μL 6)), .int (iI (μL 7)), .int (iI (μL 8)), .int (iI (μL 9)), .int (iI (μL 10)), .int (iI (μL 11)), .int (iI (μL 12)), .int (iI (μL 13)), .int (iI (-1)), .long (iL (μL 15)), .ref (o 5), .int (iI (μL 17))] σ φL (keK κ σ ((μL 3))) β ω H := W8.eq hnew (by simp only [mV, zu, Int.reduceEq, reduceIte])
                have hLI : In φL := hzL.2.2.1
                have hbI : In (beA σ φL 0 357) := In.beAI (fr := 0) hLI (fun j j0 j1 => by rw [Int.zero_add]) hI.bd
                refine lv_aload_n (pc := 117) E.1 E.2 dX8_load_117 rfl (lv_at hl 0 rfl) ?_
                refine lv_aload_n (pc := 118) E.1 E.2 dX8_load_118 rfl (lv_at hl 0 rfl) ?_
                refine g8_1 (pc := 119) E hts hin8 hown hK hM.1 (hts _ (List.mem_of_getElem? (i := 9) rfl)) dX8_load_119 ?_
                refine z_iconst (pc := 122) E dX8_load_122 ?_
                refine z_wVv (pc := 123) (As := [.ref (o 2), .int (iI 0)]) (rest := []) E hml hown hts (mX8_becomesF lL G o (zu (zu μL 14 (-1)) 3 (keM ((μL 3)))) σ φL (keK κ σ ((μL 3))) β ω 0 (by first | omega | (simp only [zu, Int.reduceEq, reduceIte]; omega))) (cwV 2 hts gX8_load_X8_becomes rfl rfl rfl vdX8_becomes ⟨Nat.le_of_ble_eq_true rfl, Nat.le_of_ble_eq_true rfl⟩) (oB.recv hK hM.1 rfl) (W8.mu hM (by simp only [mV, zu, Int.reduceEq, reduceIte])) hK hS (fun _ h => h) rfl hl.1 rfl dX8_load_123 hcs (Nat.le_of_ble_eq_true rfl) (fun H locs hnew hsz hoth hS => ?_)
                have hM : W8 G o [.ref (o 1), .ref (o 2), .ref (o 3), .int (iI (keM ((μL 3)))), .int (iI (μL 4)), .ref (o 4), .int (iI (μL 6)), .int (iI (μL 7)), .int (iI (μL 8)), .int (iI (μL 9)), .int (iI (μL 10)), .int (iI (μL 11)), .int (iI (μL 12)), .int (iI (μL 13)), .int (iI (-1)), .long (iL (μL 15)), .ref (o 5), .int (iI (μL 17))] (beA σ φL 0 357) φL (keK κ σ ((μL 3))) β ω H := W8.eq hnew (by simp only [mV, zu, Int.reduceEq, reduceIte])
                refine z_iconst (pc := 126) E dX8_load_126 ?_
                refine lv_istore_n (pc := 127) (lv' := [(2, .int (iI 0)), (0, .ref (o 0)), (1, .int (iI n))]) E.1 E.2 dX8_load_127 rfl hl (by decide) rfl (fun ls hl => ?_)
                suffices L128 : ∀ (nf : Nat), ∀ (k : Int), (0 ≤ k ∧ k ≤ 16) → ((16 - k).toNat) < nf → ∀  (H : Heap) (locs : List Loc), W8 G o [.ref (o 1), .ref (o 2), .ref (o 3), .int (iI (keM ((μL 3)))), .int (iI (μL 4)), .ref (o 4), .int (iI (μL 6)), .int (iI (μL 7)), .int (iI (μL 8)), .int (iI (μL 9)), .int (iI (μL 10)), .int (iI (μL 11)), .int (iI (μL 12)), .int (iI (μL 13)), .int (iI (-1)), .long (iL (μL 15)), .ref (o 5), .int (iI (μL 17))] (reA (beA σ φL 0 357) k) φL (keK κ σ ((μL 3))) β ω H → va_S (Ax o 6) ss.heap H locs → ∀ ls : Array Slot, lv_has ls 3 [(2, .int (iI k)), (0, .ref (o 0)), (1, .int (iI n))] → W pp lL ee ({ frames := 7, cells := 0, slots := 0, locals := 151 } : Room) ss mm [.ref (o 0), .int (iI n)].toArray below meth cC H locs 0 0 (MQ below (va_Qi (fun r (_ : Unit) => r = (iI (if ldX β n = 0 then ldF β n 3 else ldX β n))) (fun _ tZ => ∃ (μ1 φ1 : Int → Int), W8 G o (mV o μ1) (if ldX β n = 0 then nxLoad σ (ldF β n) else σ) φ1 (if ldX β n = 0 then keK κ σ (μ 3) else κ) β ω tZ.heap ∧ (μ1 3 = if ldX β n = 0 then keM (μ 3) else μ 3) ∧ μ1 4 = 0 ∧ μ1 6 = 0 ∧ (μ1 14 = if ldX β n = 0 then -1 else ldP β n) ∧ μ1 17 = μ 17) (Ax o 6)) [.ref (o 0), .int (iI n)].toArray ss 0 0 (Ax o 6)) (F0 mm 128 ls []) from L128 _ 0 (by omega) (Nat.lt_succ_self _)  _ _ (by rw [reA_0]; exact hM) hS ls (lv_sub hl [0, 1, 2] rfl)
                intro nfL128
                induction nfL128 with
                | zero => intro k hk hmzL128; exact absurd hmzL128 (Nat.not_lt_zero _)
                | succ nfL128 ihL128 =>
                  intro k hk hmzL128  H locs hM hS ls hl
                  have hIk := hbI.re (i := k) (by omega)
                  refine lv_iload_n (pc := 128) E.1 E.2 dX8_load_128 rfl (lv_at hl 0 rfl) ?_
                  refine z_bipush (pc := 129) E (by decide) dX8_load_129 ?_
                  refine z_icmp_ge (pc := 131) (tgt := 159) E ⟨by omega, by omega⟩ (by decide) dX8_load_131 (by decide) (fun h131 => ?_) (fun h131 => ?_)
                  · have ek : k = 16 := by omega
                    subst ek
                    refine lv_aload_n (pc := 159) E.1 E.2 dX8_load_159 rfl (lv_at hl 1 rfl) ?_
                    refine z_wVv (pc := 160) (As := []) (rest := []) E hml hown hts (mX8_setsClocks lL G o (zu (zu μL 14 (-1)) 3 (keM ((μL 3)))) (reA (beA σ φL 0 357) 16) φL (keK κ σ ((μL 3))) β ω  (hbI.re (by omega))) (cwV 0 hts gX8_load_X8_setsClocks rfl rfl rfl vdX8_setsClocks ⟨Nat.le_of_ble_eq_true rfl, Nat.le_of_ble_eq_true rfl⟩) (oB.recv hK hM.1 rfl) (W8.mu hM (by simp only [mV, zu, Int.reduceEq, reduceIte])) hK hS (fun _ h => h) rfl hl.1 rfl dX8_load_160 hcs (Nat.le_of_ble_eq_true rfl) (fun H locs hnew hsz hoth hS => ?_)
                    have hM : W8 G o [.ref (o 1), .ref (o 2), .ref (o 3), .int (iI (keM ((μL 3)))), .int (iI (μL 4)), .ref (o 4), .int (iI (μL 6)), .int (iI (μL 7)), .int (iI (μL 8)), .int (iI (μL 9)), .int (iI (μL 10)), .int (iI (μL 11)), .int (iI (μL 12)), .int (iI (μL 13)), .int (iI (-1)), .long (iL (μL 15)), .ref (o 5), .int (iI (μL 17))] (scA (reA (beA σ φL 0 357) 16) 16) φL (keK κ σ ((μL 3))) β ω H := W8.eq hnew (by simp only [mV, zu, Int.reduceEq, reduceIte])
                    refine lv_aload_n (pc := 163) E.1 E.2 dX8_load_163 rfl (lv_at hl 1 rfl) ?_
                    refine g8_0 (pc := 164) E hts hin8 hown hK hM.1 (hts _ (List.mem_of_getElem? (i := 10) rfl)) dX8_load_164 ?_
                    refine z_iconst (pc := 167) E dX8_load_167 ?_
                    refine z_laload (pc := 168) E hK hM.2.1 ⟨by omega, by omega⟩ (by decide) dX8_load_168 ?_
                    refine z_l2i (pc := 169) E dX8_load_169 ?_
                    exact z_retWi (P1 := fun H9 : Heap => ∃ (μ1 φ1 : Int → Int), W8 G o (mV o μ1) (if ldX β n = 0 then nxLoad σ (ldF β n) else σ) φ1 (if ldX β n = 0 then keK κ σ (μ 3) else κ) β ω H9 ∧ (μ1 3 = if ldX β n = 0 then keM (μ 3) else μ 3) ∧ μ1 4 = 0 ∧ μ1 6 = 0 ∧ (μ1 14 = if ldX β n = 0 then -1 else ldP β n) ∧ μ1 17 = μ 17) E hr (congrArg iI (by rw [if_pos hz0, ← hzf]; exact nxL_3 σ hLI)) ⟨(zu (zu μL 14 (-1)) 3 (keM ((μL 3)))), φL, (by rw [if_pos hz0, if_pos hz0, ← hzf, ← hkq.1]; exact (W8.mu hM (by simp only [mV, zu, Int.reduceEq, reduceIte]))), (by rw [if_pos hz0]; first | (simp only [zu, Int.reduceEq, reduceIte]; done) | (simp only [zu, Int.reduceEq, reduceIte]; omega) | (simp only [zu, Int.reduceEq, reduceIte]; rw [hkq.1])), (by first | (simp only [zu, Int.reduceEq, reduceIte]; done) | (simp only [zu, Int.reduceEq, reduceIte]; omega) | (simp only [zu, Int.reduceEq, reduceIte]; rw [hkq.1])), (by first | (simp only [zu, Int.reduceEq, reduceIte]; done) | (simp only [zu, Int.reduceEq, reduceIte]; omega) | (simp only [zu, Int.reduceEq, reduceIte]; rw [hkq.1])), (by rw [if_pos hz0]; first | (simp only [zu, Int.reduceEq, reduceIte]; done) | (simp only [zu, Int.reduceEq, reduceIte]; omega) | (simp only [zu, Int.reduceEq, reduceIte]; rw [hkq.1])), (by first | (simp only [zu, Int.reduceEq, reduceIte]; done) | (simp only [zu, Int.reduceEq, reduceIte]; omega) | (simp only [zu, Int.reduceEq, reduceIte]; rw [hkq.1]))⟩ hS hlocks dX8_load_170
                  · refine lv_aload_n (pc := 134) E.1 E.2 dX8_load_134 rfl (lv_at hl 1 rfl) ?_
                    refine g8_0 (pc := 135) E hts hin8 hown hK hM.1 (hts _ (List.mem_of_getElem? (i := 10) rfl)) dX8_load_135 ?_
                    refine z_bipush (pc := 138) E (by decide) dX8_load_138 ?_
                    refine lv_iload_n (pc := 140) E.1 E.2 dX8_load_140 rfl (lv_at hl 0 rfl) ?_
                    refine z_iadd (pc := 141) E dX8_load_141 ?_
                    refine lv_aload_n (pc := 142) E.1 E.2 dX8_load_142 rfl (lv_at hl 1 rfl) ?_
                    refine lv_iload_n (pc := 143) E.1 E.2 dX8_load_143 rfl (lv_at hl 0 rfl) ?_
                    refine z_iconst (pc := 144) E dX8_load_144 ?_
                    refine z_idivN (pc := 145) E ⟨by omega, by omega⟩ ⟨by omega, by omega⟩ dX8_load_145 ?_
                    refine lv_iload_n (pc := 146) E.1 E.2 dX8_load_146 rfl (lv_at hl 0 rfl) ?_
                    refine z_iconst (pc := 147) E dX8_load_147 ?_
                    refine z_iremN (pc := 148) E ⟨by omega, by omega⟩ ⟨by omega, by omega⟩ dX8_load_148 ?_
                    refine z_rVl (pc := 149) (As := [.int (iI (k / 2)), .int (iI (k % 2))]) (rest := [.int (iI (37 + k)), .ref (o 1)]) E hml hown hts (mX8_countedOf lL G o (zu (zu μL 14 (-1)) 3 (keM ((μL 3)))) (reA (beA σ φL 0 357) k) φL (keK κ σ ((μL 3))) β ω (k / 2) (k % 2) (by omega) (by omega) (by first | omega | (simp only [zu, Int.reduceEq, reduceIte]; omega))) (cwV 2 hts gX8_load_X8_countedOf rfl rfl rfl vdX8_countedOf ⟨Nat.le_of_ble_eq_true rfl, Nat.le_of_ble_eq_true rfl⟩) (oB.recv hK hM.1 rfl) (W8.mu hM (by simp only [mV, zu, Int.reduceEq, reduceIte])) hK rfl hl.1 rfl dX8_load_149 hcs (Nat.le_of_ble_eq_true rfl) ?_
                    refine z_lastore (pc := 152) E hK hM.2.1 hS (Ax.at 1 (by decide)) ⟨by omega, by omega⟩ (by decide) dX8_load_152 (fun H locs hnew hoth hS => ?_)
                    have hM := W8.a1 hM hnew (fun a _ h => hoth a h)
                    refine lv_iinc (pc := 153) (v := iI (k + 1)) (lv' := [(2, .int (iI (k + 1))), (0, .ref (o 0)), (1, .int (iI n))]) E.1 E.2 dX8_load_153 hl (k := 0) rfl (iI_add _ _) (by decide) rfl (fun ls hl => ?_)
                    refine lv_goto (pc := 156) (tgt := 128) E.1 E.2 dX8_load_156 (by decide) ?_
                    exact ihL128 (k + 1) (by omega) (by omega)  _ _ (by rw [← reA_s (beA σ φL 0 357) hk.1, ← coS_re hbI k (k / 2) (k % 2) (by omega)]; exact hM) hS ls (lv_sub hl [0, 1, 2] rfl)
              · exact absurd h105 (by first | exact h64 | exact fun q => h64 q | omega)
          · have hk3 : ¬ Kd β n c = 3 := by omega
            have hcg := stC_g (b := β) (n := n) (c := c) (by omega) hk3
            have hcb := stC_b β (n := n) (c := c) (by omega)
            refine lv_aload_n (pc := 75) E.1 E.2 dX8_load_75 rfl (lv_at hl 0 rfl) ?_
            refine zs_wVv (pc := 76) (P1 := fun H9 : Heap => ∃ (μ76 φ76 : Int → Int), W8 G o (mV o μ76) σ φ76 κ β ω H9 ∧ (KQ μ76 μL) ∧ (stX β n φL c = 0 → μ76 12 = 0 ∧ TKw β n μ76 (stC β n c) ∧ φ76 = fSt β n φL c) ∧ (¬ stX β n φL c = 0 → μ76 12 = stX β n φL c ∧ μ76 13 = stP β n φL c ∧ (0 ≤ μ76 8 ∧ μ76 8 ≤ 900) ∧ (0 ≤ μ76 10 ∧ μ76 10 ≤ 3)) ∧ (-9223372036854775808 ≤ μ76 15 ∧ μ76 15 < 9223372036854775808)) (As := []) (rest := []) E hml hown hts (mX8_readsStatement lL G o μL σ φL κ β ω n c aK aV hb (by omega) (by assumption) (by omega) hzL.2.2.1) (cwV 0 hts gX8_load_X8_readsStatement rfl rfl rfl vdX8_readsStatement ⟨Nat.le_of_ble_eq_true rfl, Nat.le_of_ble_eq_true rfl⟩) (oB.recv hK hM.1 rfl) hM (And.intro hK (hKS.kept hS.2.1)) hS (fun _ h => h) rfl hl.1 rfl dX8_load_76 hcs (Nat.le_of_ble_eq_true rfl) (fun H locs hnew hsz hoth hS => ?_)
            obtain ⟨μ76, φ76, hM, kq_76, x_76, y_76, rw_76⟩ := hnew
            by_cases hs76 : stX β n φL c = 0
            · have hw76 := (x_76 hs76).1
              have ht76 := (x_76 hs76).2.1
              have hf76 := (x_76 hs76).2.2
              have h7t76 := ht76.n7
              have h9t76 := ht76.be9
              have h8t76 := ht76.at8
              have h10t76 := ht76.ki10
              have hct76 := ht76.c0
              have hst76 := ht76.skb
              have htt76 := ht76.teb
              have hkt76 := Kd_b β n (stC β n c)
              have hnt76 := fun z : Kd β n (stC β n c) = 1 => ht76.nu z
              have hnb76 : Kd β n (stC β n c) = 1 → (0 ≤ Nm β n (stC β n c) ∧ Nm β n (stC β n c) ≤ 9999999) := fun z => NmT_r (by omega) z
              refine lv_goto (pc := 79) (tgt := 60) E.1 E.2 dX8_load_79 (by decide) ?_
              exact ihL60  μ76 φ76 (stC β n c) (m - 1) (kq_76.t hkL) (by omega) (Or.inl ⟨hw76, ht76, (by rw [hf76]; exact stX_I hzL.2.2.1 hzL.2.1.1.2 hs76), (by rw [hf76, ← hzL.2.2.2.1, pX_s hk3 hs76 (m := m) (by omega)]), (by rw [hf76, ← hzL.2.2.2.2.1, pP_s hk3 hs76 (m := m) (by omega)]), (by rw [hf76, ← hzL.2.2.2.2.2.1, pF_s hk3 hs76 (m := m) (by omega)]), (by omega)⟩) (by omega)  _ _ hM hS ls (lv_sub hl [0, 1] rfl)
            have hy76 := y_76 hs76
            have hu76 := stX_b β φL n c
            have hw76 : ¬ μ76 12 = 0 := fun z => hs76 (hy76.1.symm.trans z)
            refine lv_goto (pc := 79) (tgt := 60) E.1 E.2 dX8_load_79 (by decide) ?_
            exact ihL60  μ76 φ76 0 (m - 1) (kq_76.t hkL) (by omega) (Or.inr ⟨hw76, (by rw [hy76.1, ← hzL.2.2.2.1, pX_f hk3 hs76 (m := m) (by omega)]), (by rw [hy76.2.1, ← hzL.2.2.2.2.1, pP_f hk3 hs76 (m := m) (by omega)])⟩) (by omega)  _ _ hM hS ls (lv_sub hl [0, 1] rfl)
    · exact absurd h27 (by decide)
