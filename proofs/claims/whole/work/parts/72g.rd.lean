set_option maxHeartbeats 4000000 in
set_option maxRecDepth 100000 in
theorem mX5_readTree (lL : Launch) (G : GG) (o : Nat → Nat) (η δ β : Int → Int) (m : Int) (hb : TX β) (hm : 0 ≤ m ∧ m ≤ 900) : Met lL yX5_readTree wsX5_readTree ({ frames := 5, cells := 0, slots := 0, locals := 110 } : Room) (va_Pc [.ref (o 0), .int (iI m)] (fun U => RD G o η δ (fun j => sg8 (β j)) U.heap ∧ KK G U)) (va_Qv (fun _ : Unit => True) (fun _ tZ => ∃ (η1 δ1 : Int → Int), RD G o η1 δ1 (fun j => sg8 (β j)) tZ.heap ∧ (η1 1 = ldX β m) ∧ (η1 2 = if ldX β m = 0 then -1 else ldP β m) ∧ (ldX β m = 0 → δ1 = ldF β m)) (Ax o 20)) 0 0 (Ax o 20) := by
  refine z_met (P := (fun H : Heap => RD G o η δ (fun j => sg8 (β j)) H)) (by decide) rfl (Nat.le_of_ble_eq_true rfl) (fun pp ee ss mm below meth cC E hr hml hown hts hlocks hR hK ls hl => ?_)
  have hl : lv_has ls 3 [(0, .ref (o 0)), (1, .int (iI m))] := hl
  have hcs : 0 ≤ (({ frames := 5, cells := 0, slots := 0, locals := 110 } : Room)).cells ∧ 0 ≤ (({ frames := 5, cells := 0, slots := 0, locals := 110 } : Room)).slots := ⟨Nat.zero_le _, Nat.zero_le _⟩
  have hS : va_S (Ax o 20) ss.heap ss.heap [] := va_S.rf
  have hin5 : ∀ w ∈ wsX50, w ∈ wsX5_readTree := fun w h => List.mem_cons_of_mem _ (List.mem_append_left _ (List.mem_append_left _ (List.mem_append_left _ (List.mem_append_left _ (List.mem_append_left _ (List.mem_append_right _ (h)))))))
  refine lv_aload_n (pc := 0) E.1 E.2 dX5_readTree_0 rfl (lv_at hl 0 rfl) ?_
  refine lv_iload_n (pc := 1) E.1 E.2 dX5_readTree_1 rfl (lv_at hl 1 rfl) ?_
  refine lv_aload_n (pc := 2) E.1 E.2 dX5_readTree_2 rfl (lv_at hl 0 rfl) ?_
  refine g5_3 (pc := 3) E hts hin5 hown hK hR.ob (hts _ (List.mem_of_getElem? (i := 1) rfl)) dX5_readTree_3 ?_
  refine z_alenB (pc := 6) E hK hR.ar dX5_readTree_6 ?_
  refine z_mmin (pc := 7) (rest := [.ref (o 0)]) E (hml.trans hl.1.symm) hown (hts _ (List.mem_of_getElem? (i := 2) rfl)) (hts _ (List.mem_of_getElem? (i := 3) rfl)) (hts _ (List.mem_of_getElem? (i := 4) rfl)) (hts _ (List.mem_of_getElem? (i := 5) rfl)) (Nat.le_of_ble_eq_true rfl) (Nat.le_of_ble_eq_true rfl) hcs ⟨by omega, by omega⟩ (by decide) dX5_readTree_7 ?_
  rw [show (min m 900) = m from (by omega)]
  refine p5_4 (pc := 10) E hts hin5 hown hK hR.ob hS (Ax.at 0 (by decide)) (hts _ (List.mem_of_getElem? (i := 6) rfl)) dX5_readTree_10 (fun H locs hnew hoth hS => ?_)
  have hR := RD.upO (η2 := (zu η 4 m)) hR (by simpa only [zu, Int.reduceEq, reduceIte] using hnew) (fun q h => hoth q h)
  refine lv_aload_n (pc := 13) E.1 E.2 dX5_readTree_13 rfl (lv_at hl 0 rfl) ?_
  refine z_iconst (pc := 14) E dX5_readTree_14 ?_
  refine p5_5 (pc := 15) E hts hin5 hown hK hR.ob hS (Ax.at 0 (by decide)) (hts _ (List.mem_of_getElem? (i := 7) rfl)) dX5_readTree_15 (fun H locs hnew hoth hS => ?_)
  have hR := RD.upO (η2 := (zu (zu η 4 m) 5 0)) hR (by simpa only [zu, Int.reduceEq, reduceIte] using hnew) (fun q h => hoth q h)
  refine lv_aload_n (pc := 18) E.1 E.2 dX5_readTree_18 rfl (lv_at hl 0 rfl) ?_
  refine z_iconst (pc := 19) E dX5_readTree_19 ?_
  refine p5_1 (pc := 20) E hts hin5 hown hK hR.ob hS (Ax.at 0 (by decide)) (hts _ (List.mem_of_getElem? (i := 8) rfl)) dX5_readTree_20 (fun H locs hnew hoth hS => ?_)
  have hR := RD.upO (η2 := (zu (zu (zu η 4 m) 5 0) 1 0)) hR (by simpa only [zu, Int.reduceEq, reduceIte] using hnew) (fun q h => hoth q h)
  refine lv_aload_n (pc := 23) E.1 E.2 dX5_readTree_23 rfl (lv_at hl 0 rfl) ?_
  refine z_iconst (pc := 24) E dX5_readTree_24 ?_
  refine p5_2 (pc := 25) E hts hin5 hown hK hR.ob hS (Ax.at 0 (by decide)) (hts _ (List.mem_of_getElem? (i := 9) rfl)) dX5_readTree_25 (fun H locs hnew hoth hS => ?_)
  have hR := RD.upO (η2 := (zu (zu (zu (zu η 4 m) 5 0) 1 0) 2 (-1))) hR (by simpa only [zu, Int.reduceEq, reduceIte] using hnew) (fun q h => hoth q h)
  refine lv_aload_n (pc := 28) E.1 E.2 dX5_readTree_28 rfl (lv_at hl 0 rfl) ?_
  refine g5_0 (pc := 29) E hts hin5 hown hK hR.ob (hts _ (List.mem_of_getElem? (i := 10) rfl)) dX5_readTree_29 ?_
  refine z_wVv (pc := 32) (As := []) (rest := []) E hml hown hts (mX6_clear lL G (fun k => o (2 + k)) δ) (cwV 0 hts gX5_readTree_X6_clear rfl rfl rfl vdX6_clear ⟨Nat.le_of_ble_eq_true rfl, Nat.le_of_ble_eq_true rfl⟩) (oB.recv hK hR.dob rfl) hR.dra hK hS (fun q ⟨k, hk, e⟩ => ⟨2 + k, by omega, e⟩) rfl hl.1 rfl dX5_readTree_32 hcs (Nat.le_of_ble_eq_true rfl) (fun H locs hnew hsz hoth hS => ?_)
  have hR := RD.upD hR hnew (fun q h1 h2 => hoth q h1 h2)
  refine lv_aload_n (pc := 35) E.1 E.2 dX5_readTree_35 rfl (lv_at hl 0 rfl) ?_
  refine z_wVv (pc := 36) (P1 := fun H9 : Heap => ∃ (η36 : Int → Int), RD G o η36 iniT (fun j => sg8 (β j)) H9 ∧ (η36 1 = (zu (zu (zu (zu η 4 m) 5 0) 1 0) 2 (-1)) 1) ∧ (η36 2 = (zu (zu (zu (zu η 4 m) 5 0) 1 0) 2 (-1)) 2) ∧ (η36 4 = (zu (zu (zu (zu η 4 m) 5 0) 1 0) 2 (-1)) 4) ∧ (η36 5 = Sk β m ((zu (zu (zu (zu η 4 m) 5 0) 1 0) 2 (-1)) 5)) ∧ (η36 6 = Sk β m ((zu (zu (zu (zu η 4 m) 5 0) 1 0) 2 (-1)) 5))) (As := []) (rest := []) E hml hown hts (mX5_beginToken lL G o (zu (zu (zu (zu η 4 m) 5 0) 1 0) 2 (-1)) iniT β m hb (by omega) (by first | omega | (simp only [zu, Int.reduceEq, reduceIte]; omega) | (simp only [zu, Int.reduceEq, reduceIte]; done)) (by first | omega | (simp only [zu, Int.reduceEq, reduceIte]; omega) | (simp only [zu, Int.reduceEq, reduceIte]; done))) (cwV 0 hts gX5_readTree_X5_beginToken rfl rfl rfl vdX5_beginToken ⟨Nat.le_of_ble_eq_true rfl, Nat.le_of_ble_eq_true rfl⟩) (oB.recv hK hR.ob rfl) hR hK hS (fun _ h => h) rfl hl.1 rfl dX5_readTree_36 hcs (Nat.le_of_ble_eq_true rfl) (fun H locs hnew hsz hoth hS => ?_)
  obtain ⟨η36, hR, e1_36, e2_36, e4_36, e5_36, e6_36⟩ := hnew
  try simp only [zu, Int.reduceEq, reduceIte] at e1_36 e2_36 e4_36 e5_36 e6_36
  have hSb36 := Sk_b β (n := m) (c := (zu (zu (zu (zu η 4 m) 5 0) 1 0) 2 (-1)) 5) (by first | omega | (simp only [zu, Int.reduceEq, reduceIte]; omega))
  try simp only [zu, Int.reduceEq, reduceIte] at hSb36
  refine z_iconst (pc := 39) E dX5_readTree_39 ?_
  refine lv_istore_n (pc := 40) (lv' := [(2, .int (iI 0)), (0, .ref (o 0)), (1, .int (iI m))]) E.1 E.2 dX5_readTree_40 rfl hl (by decide) rfl (fun ls hl => ?_)
  suffices L41 : ∀ (nf : Nat), ∀ (i : Int) (ηL : Int → Int) (δL : Int → Int) (c : Int) (k : Nat), (0 ≤ i ∧ i ≤ 900) → (-4 ≤ ηL 1 ∧ ηL 1 ≤ 0) → (ηL 4 = m) → (0 ≤ ηL 5 ∧ ηL 5 ≤ m) → (0 ≤ ηL 6 ∧ ηL 6 ≤ m) → ((ηL 1 = 0 ∧ ηL 5 = Sk β m c ∧ In δL ∧ pX β m k δL c = ldX β m ∧ pP β m k δL c = ldP β m ∧ pF β m k δL c = ldF β m ∧ m - c < k ∧ i ≤ c ∧ c ≤ m ∧ ηL 2 = -1) ∨ (¬ ηL 1 = 0 ∧ ηL 1 = ldX β m ∧ ηL 2 = ldP β m)) → ((900 - i).toNat) < nf → ∀  (H : Heap) (locs : List Loc), RD G o ηL δL (fun j => sg8 (β j)) H → va_S (Ax o 20) ss.heap H locs → ∀ ls : Array Slot, lv_has ls 3 [(2, .int (iI i)), (0, .ref (o 0)), (1, .int (iI m))] → W pp lL ee ({ frames := 5, cells := 0, slots := 0, locals := 110 } : Room) ss mm [.ref (o 0), .int (iI m)].toArray below meth cC H locs 0 0 (MQ below (va_Qv (fun _ : Unit => True) (fun _ tZ => ∃ (η1 δ1 : Int → Int), RD G o η1 δ1 (fun j => sg8 (β j)) tZ.heap ∧ (η1 1 = ldX β m) ∧ (η1 2 = if ldX β m = 0 then -1 else ldP β m) ∧ (ldX β m = 0 → δ1 = ldF β m)) (Ax o 20)) [.ref (o 0), .int (iI m)].toArray ss 0 0 (Ax o 20)) (F0 mm 41 ls []) from L41 _ 0 η36 iniT 0 901 (by omega) (by omega) (by omega) (by omega) (by omega) (Or.inl ⟨by omega, by omega, iniT_I, rfl, rfl, rfl, by omega, by omega, by omega, by omega⟩) (Nat.lt_succ_self _)  _ _ hR hS ls (lv_sub hl [0, 1, 2] rfl)
  intro nfL41
  induction nfL41 with
  | zero => intro i ηL δL c k hi hb1 h4L h5B h6B hz hmzL41; exact absurd hmzL41 (Nat.not_lt_zero _)
  | succ nfL41 ihL41 =>
    intro i ηL δL c k hi hb1 h4L h5B h6B hz hmzL41  H locs hR hS ls hl
    refine lv_iload_n (pc := 41) E.1 E.2 dX5_readTree_41 rfl (lv_at hl 0 rfl) ?_
    refine z_sipush (pc := 42) E (by decide) dX5_readTree_42 ?_
    refine z_icmp_ge (pc := 45) (tgt := 80) E ⟨by omega, by omega⟩ (by decide) dX5_readTree_45 (by decide) (fun h45 => ?_) (fun h45 => ?_)
    · have hfin : ldX β m = 0 → δL = ldF β m := fun y => by
        rcases hz with hzL | hzL
        · have hsb := Sk_b β (n := m) (c := c) (by omega)
          have hk3 : Kd β m c = 3 := Kd_3.mpr (by omega)
          rw [← hzL.2.2.2.2.2.1]; exact (pF_3 ⟨by omega, hk3⟩).symm
        · exact absurd (hzL.2.1.trans y) hzL.1
      have hfe : ηL 1 = ldX β m ∧ (ηL 2 = if ldX β m = 0 then -1 else ldP β m) := by
        rcases hz with hzL | hzL
        · have hsb := Sk_b β (n := m) (c := c) (by omega)
          have hk3 : Kd β m c = 3 := Kd_3.mpr (by omega)
          have hz0 : ldX β m = 0 := by rw [← hzL.2.2.2.1]; exact pX_3 ⟨by omega, hk3⟩
          omega
        · omega
      exact z_retWv (P1 := fun H9 : Heap => ∃ (η1 δ1 : Int → Int), RD G o η1 δ1 (fun j => sg8 (β j)) H9 ∧ (η1 1 = ldX β m) ∧ (η1 2 = if ldX β m = 0 then -1 else ldP β m) ∧ (ldX β m = 0 → δ1 = ldF β m)) E hr ⟨ηL, δL, hR, (by omega), (by omega), hfin⟩ hS hlocks dX5_readTree_80
    · refine lv_aload_n (pc := 48) E.1 E.2 dX5_readTree_48 rfl (lv_at hl 1 rfl) ?_
      refine g5_1 (pc := 49) E hts hin5 hown hK hR.ob (hts _ (List.mem_of_getElem? (i := 8) rfl)) dX5_readTree_49 ?_
      refine z_if_ne (pc := 52) (tgt := 80) E ⟨by omega, by omega⟩ dX5_readTree_52 (by decide) (fun h52 => ?_) (fun h52 => ?_)
      · have hzL := hz.resolve_left (fun z => h52 z.1)
        have hfin : ldX β m = 0 → δL = ldF β m := fun y => absurd (hzL.2.1.trans y) hzL.1
        exact z_retWv (P1 := fun H9 : Heap => ∃ (η1 δ1 : Int → Int), RD G o η1 δ1 (fun j => sg8 (β j)) H9 ∧ (η1 1 = ldX β m) ∧ (η1 2 = if ldX β m = 0 then -1 else ldP β m) ∧ (ldX β m = 0 → δ1 = ldF β m)) E hr ⟨ηL, δL, hR, (by omega), (by omega), hfin⟩ hS hlocks dX5_readTree_80
      · have hzL := hz.resolve_right (fun z => z.1 h52)
        have hsb := Sk_b β (n := m) (c := c) (by omega)
        refine lv_aload_n (pc := 55) E.1 E.2 dX5_readTree_55 rfl (lv_at hl 1 rfl) ?_
        refine g5_5 (pc := 56) E hts hin5 hown hK hR.ob (hts _ (List.mem_of_getElem? (i := 7) rfl)) dX5_readTree_56 ?_
        refine lv_aload_n (pc := 59) E.1 E.2 dX5_readTree_59 rfl (lv_at hl 1 rfl) ?_
        refine g5_4 (pc := 60) E hts hin5 hown hK hR.ob (hts _ (List.mem_of_getElem? (i := 6) rfl)) dX5_readTree_60 ?_
        refine z_icmp_ge (pc := 63) (tgt := 80) E ⟨by omega, by omega⟩ ⟨by omega, by omega⟩ dX5_readTree_63 (by decide) (fun h63 => ?_) (fun h63 => ?_)
        · have hk3 : Kd β m c = 3 := Kd_3.mpr (by omega)
          have hz0 : ldX β m = 0 := by rw [← hzL.2.2.2.1]; exact pX_3 ⟨by omega, hk3⟩
          have hfin : ldX β m = 0 → δL = ldF β m := fun _ => by rw [← hzL.2.2.2.2.2.1]; exact (pF_3 ⟨by omega, hk3⟩).symm
          exact z_retWv (P1 := fun H9 : Heap => ∃ (η1 δ1 : Int → Int), RD G o η1 δ1 (fun j => sg8 (β j)) H9 ∧ (η1 1 = ldX β m) ∧ (η1 2 = if ldX β m = 0 then -1 else ldP β m) ∧ (ldX β m = 0 → δ1 = ldF β m)) E hr ⟨ηL, δL, hR, (by omega), (by omega), hfin⟩ hS hlocks dX5_readTree_80
        · have hk3 : ¬ Kd β m c = 3 := fun z => by have := Kd_3.mp z; omega
          have hstg := stC_g (b := β) (n := m) (c := c) (by omega) hk3
          have hstb := stC_b β (n := m) (c := c) (by omega)
          have hcsb := cSt_b β (n := m) (c := c) (by omega)
          have hteb := Te_b β (n := m) (c := c) (by omega)
          refine lv_aload_n (pc := 66) E.1 E.2 dX5_readTree_66 rfl (lv_at hl 1 rfl) ?_
          refine z_wVv (pc := 67) (P1 := fun H9 : Heap => ∃ (η67 δ67 : Int → Int), RD G o η67 δ67 (fun j => sg8 (β j)) H9 ∧ (stX β m δL c = 0 → η67 1 = 0 ∧ η67 5 = stC β m c ∧ η67 2 = ηL 2 ∧ δ67 = fSt β m δL c) ∧ (¬ stX β m δL c = 0 → η67 1 = stX β m δL c ∧ η67 2 = stP β m δL c) ∧ (-4 ≤ η67 1 ∧ η67 1 ≤ 0) ∧ (η67 4 = ηL 4) ∧ (In δ67) ∧ (0 ≤ η67 5 ∧ η67 5 ≤ m) ∧ (0 ≤ η67 6 ∧ η67 6 ≤ m)) (As := []) (rest := []) E hml hown hts (mX5_readStatement lL G o ηL δL β m c (by omega) hb (by omega) (by omega) (by omega) (by omega) hzL.2.2.1 (by omega) (by omega) (by rw [hzL.2.1]; exact Sk_Sk β m c)) (cwV 0 hts gX5_readTree_X5_readStatement rfl rfl rfl vdX5_readStatement ⟨Nat.le_of_ble_eq_true rfl, Nat.le_of_ble_eq_true rfl⟩) (oB.recv hK hR.ob rfl) hR hK hS (fun _ h => h) rfl hl.1 rfl dX5_readTree_67 hcs (Nat.le_of_ble_eq_true rfl) (fun H locs hnew hsz hoth hS => ?_)
          obtain ⟨η67, δ67, hR, x_67, y_67, b1_67, e4_67, hJ_67, b5_67, b6_67⟩ := hnew
          by_cases hs67 : stX β m δL c = 0
          · have hxx67 := x_67 hs67
            have hw67 : η67 1 = 0 := hxx67.1
            have h567 := hxx67.2.1
            have h267 := hxx67.2.2.1
            have hf67 := hxx67.2.2.2
            refine lv_aload_n (pc := 70) E.1 E.2 dX5_readTree_70 rfl (lv_at hl 1 rfl) ?_
            refine z_wVv (pc := 71) (P1 := fun H9 : Heap => ∃ (η71 : Int → Int), RD G o η71 δ67 (fun j => sg8 (β j)) H9 ∧ (η71 1 = η67 1) ∧ (η71 2 = η67 2) ∧ (η71 4 = η67 4) ∧ (η71 5 = Sk β m (η67 5)) ∧ (η71 6 = Sk β m (η67 5))) (As := []) (rest := []) E hml hown hts (mX5_beginToken lL G o η67 δ67 β m hb (by omega) (by omega) (by omega)) (cwV 0 hts gX5_readTree_X5_beginToken rfl rfl rfl vdX5_beginToken ⟨Nat.le_of_ble_eq_true rfl, Nat.le_of_ble_eq_true rfl⟩) (oB.recv hK hR.ob rfl) hR hK hS (fun _ h => h) rfl hl.1 rfl dX5_readTree_71 hcs (Nat.le_of_ble_eq_true rfl) (fun H locs hnew hsz hoth hS => ?_)
            obtain ⟨η71, hR, e1_71, e2_71, e4_71, e5_71, e6_71⟩ := hnew
            have hSb71 := Sk_b β (n := m) (c := η67 5) (by first | omega | (simp only [zu, Int.reduceEq, reduceIte]; omega))
            try simp only [zu, Int.reduceEq, reduceIte] at hSb71
            have h570 : η71 5 = Sk β m (η67 5) := by omega
            have h571 := fun z : η67 5 = stC β m c => (show η71 5 = Sk β m (stC β m c) by rw [h570, z])
            have hse := Sk_b β (n := m) (c := stC β m c) (by omega)
            have h572 := h571 h567
            refine lv_iinc (pc := 74) (v := iI (i + 1)) (lv' := [(2, .int (iI (i + 1))), (0, .ref (o 0)), (1, .int (iI m))]) E.1 E.2 dX5_readTree_74 hl (k := 0) rfl (iI_add _ _) (by decide) rfl (fun ls hl => ?_)
            refine lv_goto (pc := 77) (tgt := 41) E.1 E.2 dX5_readTree_77 (by decide) ?_
            exact ihL41 (i + 1) η71 δ67 (stC β m c) (k - 1) (by omega) (by omega) (by omega) (by omega) (by omega) (Or.inl ⟨by omega, by omega, (by rw [hf67]; exact stX_I hzL.2.2.1 hzL.2.2.2.2.2.2.2.2.1 hs67), (by rw [hf67, ← hzL.2.2.2.1, pX_s hk3 hs67 (m := k) (by omega)]), (by rw [hf67, ← hzL.2.2.2.2.1, pP_s hk3 hs67 (m := k) (by omega)]), (by rw [hf67, ← hzL.2.2.2.2.2.1, pF_s hk3 hs67 (m := k) (by omega)]), by omega, by omega, by omega, by omega⟩) (by omega)  _ _ hR hS ls (lv_sub hl [0, 1, 2] rfl)
          have hyy67 := y_67 hs67
          have hw67 : ¬ η67 1 = 0 := fun z => hs67 (hyy67.1.symm.trans z)
          refine lv_aload_n (pc := 70) E.1 E.2 dX5_readTree_70 rfl (lv_at hl 1 rfl) ?_
          refine z_wVv (pc := 71) (P1 := fun H9 : Heap => ∃ (η71 : Int → Int), RD G o η71 δ67 (fun j => sg8 (β j)) H9 ∧ (η71 1 = η67 1) ∧ (η71 2 = η67 2) ∧ (η71 4 = η67 4) ∧ (η71 5 = Sk β m (η67 5)) ∧ (η71 6 = Sk β m (η67 5))) (As := []) (rest := []) E hml hown hts (mX5_beginToken lL G o η67 δ67 β m hb (by omega) (by omega) (by omega)) (cwV 0 hts gX5_readTree_X5_beginToken rfl rfl rfl vdX5_beginToken ⟨Nat.le_of_ble_eq_true rfl, Nat.le_of_ble_eq_true rfl⟩) (oB.recv hK hR.ob rfl) hR hK hS (fun _ h => h) rfl hl.1 rfl dX5_readTree_71 hcs (Nat.le_of_ble_eq_true rfl) (fun H locs hnew hsz hoth hS => ?_)
          obtain ⟨η71, hR, e1_71, e2_71, e4_71, e5_71, e6_71⟩ := hnew
          have hSb71 := Sk_b β (n := m) (c := η67 5) (by first | omega | (simp only [zu, Int.reduceEq, reduceIte]; omega))
          try simp only [zu, Int.reduceEq, reduceIte] at hSb71
          have h570 : η71 5 = Sk β m (η67 5) := by omega
          have h571 := fun z : η67 5 = stC β m c => (show η71 5 = Sk β m (stC β m c) by rw [h570, z])
          have hse := Sk_b β (n := m) (c := stC β m c) (by omega)
          refine lv_iinc (pc := 74) (v := iI (i + 1)) (lv' := [(2, .int (iI (i + 1))), (0, .ref (o 0)), (1, .int (iI m))]) E.1 E.2 dX5_readTree_74 hl (k := 0) rfl (iI_add _ _) (by decide) rfl (fun ls hl => ?_)
          refine lv_goto (pc := 77) (tgt := 41) E.1 E.2 dX5_readTree_77 (by decide) ?_
          exact ihL41 (i + 1) η71 δ67 c (k - 1) (by omega) (by omega) (by omega) (by omega) (by omega) (Or.inr ⟨by omega, (by rw [← hzL.2.2.2.1, pX_f hk3 hs67 (m := k) (by omega)]; omega), (by rw [← hzL.2.2.2.2.1, pP_f hk3 hs67 (m := k) (by omega)]; omega)⟩) (by omega)  _ _ hR hS ls (lv_sub hl [0, 1, 2] rfl)
