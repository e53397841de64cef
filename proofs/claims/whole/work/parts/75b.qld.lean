set_option maxHeartbeats 4000000 in
set_option maxRecDepth 100000 in
theorem mX7_load (lL : Launch) (G : GG) (o : Nat → Nat) (ν σ : Int → Int) (π : Nat → Int → Int) (δ β ω : Int → Int) (n : Int) (hI : In σ) (hn : -2147483648 ≤ n ∧ n < 2147483648) (hb : TX β) (h21 : 0 ≤ ν 21 ∧ ν 21 ≤ 900) (hc : 0 ≤ ν 2 ∧ ν 2 ≤ 1000000) (hu : 0 ≤ ν 3 ∧ ν 3 ≤ 8) (hok : 0 ≤ n ∧ n ≤ ν 21) : Met lL yX7_load wsX7_load ({ frames := 6, cells := 0, slots := 0, locals := 153 } : Room) (va_Pc [.ref (o 0), .int (iI n)] (fun U => QT G o ν σ π δ (fun j => sg8 (β j)) ω U.heap ∧ KK G U)) (va_Qi (fun r (_ : Unit) => r = (iI (if ldX β n = 0 then ldF β n 3 else ldX β n))) (fun _ tZ => ∃ (ν1 δ1 : Int → Int), QT G o ν1 (if ldX β n = 0 then nxLoad σ (ldF β n) else σ) (if ldX β n = 0 then pU π (ν 2 % 8) σ else π) δ1 (fun j => sg8 (β j)) ω tZ.heap ∧ (ν1 2 = if ldX β n = 0 then ν 2 + 1 else ν 2) ∧ (ν1 3 = if ldX β n = 0 then min (ν 3 + 1) 8 else ν 3) ∧ ν1 21 = 0 ∧ ν1 31 = ν 31 ∧ (ν1 42 = if ldX β n = 0 then -1 else ldP β n)) (Ax o 187)) 0 0 (Ax o 187) := by
  refine z_met (P := (fun H : Heap => QT G o ν σ π δ (fun j => sg8 (β j)) ω H)) (by decide) rfl (Nat.le_of_ble_eq_true rfl) (fun pp ee ss mm below meth cC E hr hml hown hts hlocks hQ hK ls hl => ?_)
  have hl : lv_has ls 2 [(0, .ref (o 0)), (1, .int (iI n))] := hl
  have hcs : 0 ≤ (({ frames := 6, cells := 0, slots := 0, locals := 153 } : Room)).cells ∧ 0 ≤ (({ frames := 6, cells := 0, slots := 0, locals := 153 } : Room)).slots := ⟨Nat.zero_le _, Nat.zero_le _⟩
  have hS : va_S (Ax o 187) ss.heap ss.heap [] := va_S.rf
  have hin1 : ∀ w ∈ wsX10, w ∈ wsX7_load := fun w h => List.mem_cons_of_mem _ (List.mem_append_left _ (List.mem_append_left _ (List.mem_append_left _ (List.mem_append_left _ (List.mem_append_left _ (List.mem_append_left _ (List.mem_append_left _ (List.mem_append_right _ (h)))))))))
  have hin2 : ∀ w ∈ wsX20, w ∈ wsX7_load := fun w h => List.mem_cons_of_mem _ (List.mem_append_left _ (List.mem_append_left _ (List.mem_append_left _ (List.mem_append_left _ (List.mem_append_right _ (h))))))
  have hin5 : ∀ w ∈ wsX50, w ∈ wsX7_load := fun w h => List.mem_cons_of_mem _ (List.mem_append_left _ (List.mem_append_left _ (List.mem_append_left _ (List.mem_append_left _ (List.mem_append_left _ (List.mem_append_left _ (List.mem_append_right _ (h))))))))
  have hin6 : ∀ w ∈ wsX60, w ∈ wsX7_load := fun w h => List.mem_cons_of_mem _ (List.mem_append_left _ (List.mem_append_left _ (List.mem_append_left _ (List.mem_append_left _ (List.mem_append_left _ (List.mem_append_right _ (h)))))))
  have hin7 : ∀ w ∈ wsX70, w ∈ wsX7_load := fun w h => List.mem_cons_of_mem _ (List.mem_append_left _ (List.mem_append_left _ (List.mem_append_left _ (List.mem_append_left _ (List.mem_append_left _ (List.mem_append_left _ (List.mem_append_left _ (List.mem_append_left _ (List.mem_append_right _ (h))))))))))
  have hF := hI.F
  have hMm := hI.M
  have hGn := hI.Gn
  have hTi := hI.ti
  have hGr := hI.gr
  refine lv_iload_n (pc := 0) E.1 E.2 dX7_load_0 rfl (lv_at hl 1 rfl) ?_
  refine z_iconst (pc := 1) E dX7_load_1 ?_
  refine lv_aload_n (pc := 2) E.1 E.2 dX7_load_2 rfl (lv_at hl 0 rfl) ?_
  refine g7_4 (pc := 3) E hts hin7 hown hK hQ.ob (hts _ (List.mem_of_getElem? (i := 1) rfl)) dX7_load_3 ?_
  refine g1_1 (pc := 6) E hts hin1 hown hK hQ.txo (hts _ (List.mem_of_getElem? (i := 2) rfl)) dX7_load_6 ?_
  refine z_rSv (pc := 9) (P := fun _ => True) (As := [.int (iI n), .int (iI 0), .int (iI (ν 21))]) (rest := []) E hml hown hts (mX7_needRange lL G n 0 (ν 21) (by omega) (by omega) (by omega) (by omega)) (va_cwS 3 hts gX7_load_X7_needRange rfl rfl rfl vdX7_needRange.2 ⟨Nat.le_of_ble_eq_true rfl, Nat.le_of_ble_eq_true rfl⟩) trivial hK rfl hl.1 rfl dX7_load_9 hcs (Nat.le_of_ble_eq_true rfl) ?_
  refine lv_aload_n (pc := 12) E.1 E.2 dX7_load_12 rfl (lv_at hl 0 rfl) ?_
  refine g7_6 (pc := 13) E hts hin7 hown hK hQ.ob (hts _ (List.mem_of_getElem? (i := 3) rfl)) dX7_load_13 ?_
  refine lv_iload_n (pc := 16) E.1 E.2 dX7_load_16 rfl (lv_at hl 1 rfl) ?_
  refine z_wVv (pc := 17) (P := fun H9 : Heap => RD G (rdo o) (fun j => ν (40 + j)) δ (fun j => sg8 (β j)) H9) (P1 := fun H9 : Heap => ∃ (η1 δ1 : Int → Int), RD G (rdo o) η1 δ1 (fun j => sg8 (β j)) H9 ∧ (η1 1 = ldX β n) ∧ (η1 2 = if ldX β n = 0 then -1 else ldP β n) ∧ (ldX β n = 0 → δ1 = ldF β n)) (As := [.int (iI n)]) (rest := []) E hml hown hts (mX5_readTree lL G (rdo o) (fun j => ν (40 + j)) δ β n hb (by omega)) (cwV 1 hts gX7_load_X5_readTree rfl rfl rfl vdX5_readTree ⟨Nat.le_of_ble_eq_true rfl, Nat.le_of_ble_eq_true rfl⟩) (oB.recv hK hQ.rdr rfl) (QT.rd hQ) hK hS (fun q ⟨k, hk, e⟩ => by obtain ⟨m, m1, m2, m3⟩ := rdo_q o hk; exact ⟨m, m1, e.trans m3⟩) rfl hl.1 rfl dX7_load_17 hcs (Nat.le_of_ble_eq_true rfl) (fun H locs hnew hsz hoth hS => ?_)
  obtain ⟨η17, δ17, hR, e1_17, e2_17, f_17⟩ := hnew
  obtain ⟨ν17, hQ, e41, e42, elo⟩ := QT.upR hQ hR (fun q h1 h2 => hoth q h1 h2)
  have en2 := elo 2 (by omega)
  have en3 := elo 3 (by omega)
  have en21 := elo 21 (by omega)
  have en31 := elo 31 (by omega)
  have hxb := ldX_b β n
  refine lv_aload_n (pc := 20) E.1 E.2 dX7_load_20 rfl (lv_at hl 0 rfl) ?_
  refine g7_4 (pc := 21) E hts hin7 hown hK hQ.ob (hts _ (List.mem_of_getElem? (i := 1) rfl)) dX7_load_21 ?_
  refine z_iconst (pc := 24) E dX7_load_24 ?_
  refine p1_1 (pc := 25) E hts hin1 hown hK hQ.txo hS (Ax.at 164 (by decide)) (hts _ (List.mem_of_getElem? (i := 2) rfl)) dX7_load_25 (fun H locs hnew hoth hS => ?_)
  have hQ := QT.upT (ν2 := (zu ν17 21 0)) hQ (BYr.p hQ.txt (V2 := [.ref (o 165), .int (iI 0)]) hnew (fun q _ h => hoth q h)) (fun q _ h => hoth q (fun z => h ⟨0, by decide, z⟩)) (fun j hj => zu_n _ _ hj)
  refine lv_aload_n (pc := 28) E.1 E.2 dX7_load_28 rfl (lv_at hl 0 rfl) ?_
  refine g7_6 (pc := 29) E hts hin7 hown hK hQ.ob (hts _ (List.mem_of_getElem? (i := 3) rfl)) dX7_load_29 ?_
  refine g5_1 (pc := 32) E hts hin5 hown hK hQ.rdr (hts _ (List.mem_of_getElem? (i := 4) rfl)) dX7_load_32 ?_
  rw [show (zu ν17 21 0) 41 = ν17 41 from by simp only [zu, Int.reduceEq, reduceIte]]
  refine z_if_eq (pc := 35) (tgt := 46) E ⟨by omega, by omega⟩ dX7_load_35 (by decide) (fun h35 => ?_) (fun h35 => ?_)
  · have hz0 : ldX β n = 0 := by omega
    have hzf := f_17 hz0
    have hLI : In δ17 := by rw [hzf]; exact ldF_I β hok.1
    have hbI : In (beA σ δ17 0 357) := In.beAI (fr := 0) hLI (fun j j0 j1 => by rw [Int.zero_add]) hI.bd
    refine lv_aload_n (pc := 46) E.1 E.2 dX7_load_46 rfl (lv_at hl 0 rfl) ?_
    refine z_wVv (pc := 47) (As := []) (rest := []) E hml hown hts (mX7_remember lL G o (zu ν17 21 0) σ π δ17 (fun j => sg8 (β j)) ω  hI (by simp only [zu, Int.reduceEq, reduceIte]; omega) (by simp only [zu, Int.reduceEq, reduceIte]; omega)) (cwV 0 hts gX7_load_X7_remember rfl rfl rfl vdX7_remember ⟨Nat.le_of_ble_eq_true rfl, Nat.le_of_ble_eq_true rfl⟩) (oB.recv hK hQ.ob rfl) hQ hK hS (fun _ h => h) rfl hl.1 rfl dX7_load_47 hcs (Nat.le_of_ble_eq_true rfl) (fun H locs hnew hsz hoth hS => ?_)
    have hQ : QT G o (zu (zu (zu ν17 21 0) 2 ((ν17 2) + 1)) 3 (min ((ν17 3) + 1) 8)) σ (pU π ((ν17 2) % 8) σ) δ17 (fun j => sg8 (β j)) ω H := hnew
    refine lv_aload_n (pc := 50) E.1 E.2 dX7_load_50 rfl (lv_at hl 0 rfl) ?_
    refine g7_0 (pc := 51) E hts hin7 hown hK hQ.ob (hts _ (List.mem_of_getElem? (i := 5) rfl)) dX7_load_51 ?_
    refine lv_aload_n (pc := 54) E.1 E.2 dX7_load_54 rfl (lv_at hl 0 rfl) ?_
    refine g7_6 (pc := 55) E hts hin7 hown hK hQ.ob (hts _ (List.mem_of_getElem? (i := 3) rfl)) dX7_load_55 ?_
    refine g5_0 (pc := 58) E hts hin5 hown hK hQ.rdr (hts _ (List.mem_of_getElem? (i := 6) rfl)) dX7_load_58 ?_
    refine z_wVv (pc := 61) (P := fun H9 : Heap => ST G (fun k => o (1 + k)) σ H9 ∧ ST G (fun k => o (169 + k)) δ17 H9) (As := [.ref (o 169)]) (rest := []) E hml hown hts (mX6_copyFrom lL G (fun k => o (1 + k)) (fun k => o (169 + k)) σ δ17 (fun i j hi hj => hQ.ij.ne _ _ (by omega) (by omega) (by omega))) (cwV 1 hts gX7_load_X6_copyFrom rfl rfl rfl vdX6_copyFrom ⟨Nat.le_of_ble_eq_true rfl, Nat.le_of_ble_eq_true rfl⟩) (oB.recv hK hQ.nob rfl) (And.intro hQ.now hQ.dra) hK hS (Aq.up (by decide)) rfl hl.1 rfl dX7_load_61 hcs (Nat.le_of_ble_eq_true rfl) (fun H locs hnew hsz hoth hS => ?_)
    have hQ := QT.upN hQ hnew (fun q h1 h2 => hoth q h1 h2)
    have hQ : QT G o (zu (zu (zu ν17 21 0) 2 ((ν17 2) + 1)) 3 (min ((ν17 3) + 1) 8)) (beA σ δ17 0 357) (pU π ((ν17 2) % 8) σ) δ17 (fun j => sg8 (β j)) ω H := QT.cgN hQ hLI (fun j j0 j1 => by rw [beA_y σ δ17 0 j0 j1, Int.zero_add])
    refine lv_aload_n (pc := 64) E.1 E.2 dX7_load_64 rfl (lv_at hl 0 rfl) ?_
    refine g7_0 (pc := 65) E hts hin7 hown hK hQ.ob (hts _ (List.mem_of_getElem? (i := 5) rfl)) dX7_load_65 ?_
    refine z_wVi (pc := 68) (As := []) (rest := []) E hml hown hts (mX6_correctAccounts lL G (fun k => o (1 + k)) (beA σ δ17 0 357)  hbI) (cwV 0 hts gX7_load_X6_correctAccounts rfl rfl rfl vdX6_correctAccounts ⟨Nat.le_of_ble_eq_true rfl, Nat.le_of_ble_eq_true rfl⟩) (oB.recv hK hQ.nob rfl) hQ.now hK hS (Aq.up (by decide)) rfl hl.1 rfl dX7_load_68 hcs (Nat.le_of_ble_eq_true rfl) (fun H locs hnew hsz hoth hS => ?_)
    have hQ := QT.upN hQ hnew (fun q h1 h2 => hoth q h1 h2)
    refine lv_pop (pc := 71) E.1 E.2 dX7_load_71 rfl ?_
    refine lv_aload_n (pc := 72) E.1 E.2 dX7_load_72 rfl (lv_at hl 0 rfl) ?_
    refine g7_0 (pc := 73) E hts hin7 hown hK hQ.ob (hts _ (List.mem_of_getElem? (i := 5) rfl)) dX7_load_73 ?_
    refine z_wVv (pc := 76) (As := []) (rest := []) E hml hown hts (mX6_setClocks lL G (fun k => o (1 + k)) (reA (beA σ δ17 0 357) 16)  (hbI.re (by omega))) (cwV 0 hts gX7_load_X6_setClocks rfl rfl rfl vdX6_setClocks ⟨Nat.le_of_ble_eq_true rfl, Nat.le_of_ble_eq_true rfl⟩) (oB.recv hK hQ.nob rfl) hQ.now hK hS (Aq.up (by decide)) rfl hl.1 rfl dX7_load_76 hcs (Nat.le_of_ble_eq_true rfl) (fun H locs hnew hsz hoth hS => ?_)
    have hQ := QT.upN hQ hnew (fun q h1 h2 => hoth q h1 h2)
    refine lv_aload_n (pc := 79) E.1 E.2 dX7_load_79 rfl (lv_at hl 0 rfl) ?_
    refine g7_0 (pc := 80) E hts hin7 hown hK hQ.ob (hts _ (List.mem_of_getElem? (i := 5) rfl)) dX7_load_80 ?_
    refine g6_1 (pc := 83) E hts hin6 hown hK hQ.nob (hts _ (List.mem_of_getElem? (i := 7) rfl)) dX7_load_83 ?_
    refine g2_2 (pc := 86) E hts hin2 hown hK hQ.fio (hts _ (List.mem_of_getElem? (i := 8) rfl)) dX7_load_86 ?_
    exact z_retWi (P1 := fun H9 : Heap => ∃ (ν1 δ1 : Int → Int), QT G o ν1 (if ldX β n = 0 then nxLoad σ (ldF β n) else σ) (if ldX β n = 0 then pU π (ν 2 % 8) σ else π) δ1 (fun j => sg8 (β j)) ω H9 ∧ (ν1 2 = if ldX β n = 0 then ν 2 + 1 else ν 2) ∧ (ν1 3 = if ldX β n = 0 then min (ν 3 + 1) 8 else ν 3) ∧ ν1 21 = 0 ∧ ν1 31 = ν 31 ∧ (ν1 42 = if ldX β n = 0 then -1 else ldP β n)) E hr (congrArg iI (by rw [if_pos hz0, ← hzf]; exact nxL_3 σ hLI)) ⟨(zu (zu (zu ν17 21 0) 2 ((ν17 2) + 1)) 3 (min ((ν17 3) + 1) 8)), δ17, (by rw [if_pos hz0, if_pos hz0, ← hzf, ← en2]; exact hQ), (by rw [if_pos hz0]; first | (simp only [zu, Int.reduceEq, reduceIte]; done) | (simp only [zu, Int.reduceEq, reduceIte]; omega) | omega), (by rw [if_pos hz0]; first | (simp only [zu, Int.reduceEq, reduceIte]; done) | (simp only [zu, Int.reduceEq, reduceIte]; omega) | omega), (by first | (simp only [zu, Int.reduceEq, reduceIte]; done) | (simp only [zu, Int.reduceEq, reduceIte]; omega) | omega), (by first | (simp only [zu, Int.reduceEq, reduceIte]; done) | (simp only [zu, Int.reduceEq, reduceIte]; omega) | omega), (by first | (simp only [zu, Int.reduceEq, reduceIte]; done) | (simp only [zu, Int.reduceEq, reduceIte]; omega) | omega)⟩ hS hlocks dX7_load_89
  · have hz0 : ¬ ldX β n = 0 := by omega
    refine lv_aload_n (pc := 38) E.1 E.2 dX7_load_38 rfl (lv_at hl 0 rfl) ?_
    refine g7_6 (pc := 39) E hts hin7 hown hK hQ.ob (hts _ (List.mem_of_getElem? (i := 3) rfl)) dX7_load_39 ?_
    refine g5_1 (pc := 42) E hts hin5 hown hK hQ.rdr (hts _ (List.mem_of_getElem? (i := 4) rfl)) dX7_load_42 ?_
    rw [show (zu ν17 21 0) 41 = ν17 41 from by simp only [zu, Int.reduceEq, reduceIte]]
    exact z_retWi (P1 := fun H9 : Heap => ∃ (ν1 δ1 : Int → Int), QT G o ν1 (if ldX β n = 0 then nxLoad σ (ldF β n) else σ) (if ldX β n = 0 then pU π (ν 2 % 8) σ else π) δ1 (fun j => sg8 (β j)) ω H9 ∧ (ν1 2 = if ldX β n = 0 then ν 2 + 1 else ν 2) ∧ (ν1 3 = if ldX β n = 0 then min (ν 3 + 1) 8 else ν 3) ∧ ν1 21 = 0 ∧ ν1 31 = ν 31 ∧ (ν1 42 = if ldX β n = 0 then -1 else ldP β n)) E hr (congrArg iI (by rw [if_neg hz0]; omega)) ⟨(zu ν17 21 0), δ17, (by rw [if_neg hz0, if_neg hz0]; exact hQ), (by rw [if_neg hz0]; first | (simp only [zu, Int.reduceEq, reduceIte]; done) | (simp only [zu, Int.reduceEq, reduceIte]; omega) | omega), (by rw [if_neg hz0]; first | (simp only [zu, Int.reduceEq, reduceIte]; done) | (simp only [zu, Int.reduceEq, reduceIte]; omega) | omega), (by first | (simp only [zu, Int.reduceEq, reduceIte]; done) | (simp only [zu, Int.reduceEq, reduceIte]; omega) | omega), (by first | (simp only [zu, Int.reduceEq, reduceIte]; done) | (simp only [zu, Int.reduceEq, reduceIte]; omega) | omega), (by first | (simp only [zu, Int.reduceEq, reduceIte]; done) | (simp only [zu, Int.reduceEq, reduceIte]; omega) | omega)⟩ hS hlocks dX7_load_45
set_option maxHeartbeats 1000000 in
set_option maxRecDepth 100000 in
theorem mxX7_load (lL : Launch) (hst0 : lL.stackTraces = false) (G : GG) (o : Nat → Nat) (ν σ : Int → Int) (π : Nat → Int → Int) (δ β ω : Int → Int) (n : Int) (hI : In σ) (hn : -2147483648 ≤ n ∧ n < 2147483648) (h21 : 0 ≤ ν 21 ∧ ν 21 ≤ 900) (hbad : ¬ kxLoad (ν 21) n = 0) : vx_Met lL yX7_load wsX7_load ({ frames := 7, cells := 1, slots := 6, locals := 153 } : Room) (va_Pc [.ref (o 0), .int (iI n)] (fun U => QT G o ν σ π δ (fun j => sg8 (β j)) ω U.heap ∧ KK G U ∧ KX FF0 U U.heap)) (fun _ _ _ _ => False) (XCe (exq xA xA xA (kxLoad (ν 21) n))) 1 6 FF0 := by
  refine z_metX (P := (fun H : Heap => QT G o ν σ π δ (fun j => sg8 (β j)) ω H)) (by decide) rfl (Nat.le_of_ble_eq_true rfl) (fun pp ee ss mm below meth cC E hml hown hts hlocks htab hQ hK hX ls hl => ?_)
  have hl : lv_has ls 2 [(0, .ref (o 0)), (1, .int (iI n))] := hl
  have hcs : 0 ≤ (({ frames := 7, cells := 1, slots := 6, locals := 153 } : Room)).cells ∧ 0 ≤ (({ frames := 7, cells := 1, slots := 6, locals := 153 } : Room)).slots := ⟨Nat.zero_le _, Nat.zero_le _⟩
  have hin1 : ∀ w ∈ wsX10, w ∈ wsX7_load := fun w h => List.mem_cons_of_mem _ (List.mem_append_left _ (List.mem_append_left _ (List.mem_append_left _ (List.mem_append_left _ (List.mem_append_left _ (List.mem_append_left _ (List.mem_append_left _ (List.mem_append_right _ (h)))))))))
  have hin7 : ∀ w ∈ wsX70, w ∈ wsX7_load := fun w h => List.mem_cons_of_mem _ (List.mem_append_left _ (List.mem_append_left _ (List.mem_append_left _ (List.mem_append_left _ (List.mem_append_left _ (List.mem_append_left _ (List.mem_append_left _ (List.mem_append_left _ (List.mem_append_right _ (h))))))))))
  have hF := hI.F
  have hMm := hI.M
  have hGn := hI.Gn
  have hTi := hI.ti
  have hGr := hI.gr
  refine lv_iload_n (pc := 0) E.1 E.2 dX7_load_0 rfl (lv_at hl 1 rfl) ?_
  refine z_iconst (pc := 1) E dX7_load_1 ?_
  refine lv_aload_n (pc := 2) E.1 E.2 dX7_load_2 rfl (lv_at hl 0 rfl) ?_
  refine g7_4 (pc := 3) E hts hin7 hown hK hQ.ob (hts _ (List.mem_of_getElem? (i := 1) rfl)) dX7_load_3 ?_
  refine g1_1 (pc := 6) E hts hin1 hown hK hQ.txo (hts _ (List.mem_of_getElem? (i := 2) rfl)) dX7_load_6 ?_
  by_cases hc9 : 0 ≤ n ∧ n ≤ (ν 21)
  · refine z_rSv (pc := 9) (P := fun _ => True) (As := [.int (iI n), .int (iI 0), .int (iI (ν 21))]) (rest := []) E hml hown hts (mX7_needRange lL G n 0 (ν 21) (by omega) (by omega) (by omega) (by omega)) (va_cwS 3 hts gX7_load_X7_needRange rfl rfl rfl vdX7_needRange.2 ⟨Nat.le_of_ble_eq_true rfl, Nat.le_of_ble_eq_true rfl⟩) trivial hK rfl hl.1 rfl dX7_load_9 hcs (Nat.le_of_ble_eq_true rfl) ?_
    refine lv_aload_n (pc := 12) E.1 E.2 dX7_load_12 rfl (lv_at hl 0 rfl) ?_
    refine g7_6 (pc := 13) E hts hin7 hown hK hQ.ob (hts _ (List.mem_of_getElem? (i := 3) rfl)) dX7_load_13 ?_
    refine lv_iload_n (pc := 16) E.1 E.2 dX7_load_16 rfl (lv_at hl 1 rfl) ?_
    exact absurd (show kxLoad (ν 21) n = 0 from if_pos (by omega)) hbad
  exact z_badS (pc := 9) (P := fun _ => True) (As := [.int (iI n), .int (iI 0), .int (iI (ν 21))]) (rest := []) E hml hown hts (mxX7_needRange lL hst0 G n 0 (ν 21) (by omega) (by omega) (by omega) hc9) (va_cwS 3 hts gX7_load_X7_needRange rfl rfl rfl vdX7_needRange.2 ⟨Nat.le_of_ble_eq_true rfl, Nat.le_of_ble_eq_true rfl⟩) trivial hK hX rfl hl.1 rfl dX7_load_9 ⟨Nat.le_of_ble_eq_true rfl, Nat.le_of_ble_eq_true rfl⟩ (Nat.le_of_ble_eq_true rfl) (by rw [show kxLoad (ν 21) n = 1 from if_neg (by omega)]; rfl) htab hlocks
