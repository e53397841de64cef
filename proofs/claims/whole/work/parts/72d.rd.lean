set_option maxHeartbeats 4000000 in
set_option maxRecDepth 100000 in
theorem mX5_readFolderZ (lL : Launch) (G : GG) (o : Nat → Nat) (η δ β : Int → Int) (n : Int) (c : Int) (h1 : -4 ≤ η 1 ∧ η 1 ≤ 0) (hb : TX β) (hn : 0 ≤ n ∧ n ≤ 900) (h4 : η 4 = n) (h5 : 0 ≤ η 5 ∧ η 5 ≤ n) (h6 : 0 ≤ η 6 ∧ η 6 ≤ n) (hI : In δ) (hw : η 1 = 0) (hc : 0 ≤ c ∧ c ≤ n) (ht6 : η 6 = Sk β n c) (hsk : Sk β n (η 5) = Sk β n (Te β n c)) : Met lL yX5_readFolder wsX5_readFolder ({ frames := 3, cells := 0, slots := 0, locals := 65 } : Room) (va_Pc [.ref (o 0)] (fun U => RD G o η δ (fun j => sg8 (β j)) U.heap ∧ KK G U)) (va_Qv (fun _ : Unit => True) (fun _ tZ => ∃ (η1 δ1 : Int → Int), RD G o η1 δ1 (fun j => sg8 (β j)) tZ.heap ∧ (xFld β n δ c = 0 → η1 1 = 0 ∧ η1 5 = cFld β n c ∧ η1 2 = η 2 ∧ δ1 = fFld β n δ c) ∧ (¬ xFld β n δ c = 0 → η1 1 = xFld β n δ c ∧ η1 2 = pFld β n δ c) ∧ (-4 ≤ η1 1 ∧ η1 1 ≤ 0) ∧ (η1 4 = η 4) ∧ (In δ1) ∧ (0 ≤ η1 5 ∧ η1 5 ≤ n) ∧ (0 ≤ η1 6 ∧ η1 6 ≤ n)) (Ax o 20)) 0 0 (Ax o 20) := by
  refine z_met (P := (fun H : Heap => RD G o η δ (fun j => sg8 (β j)) H)) (by decide) rfl (Nat.le_of_ble_eq_true rfl) (fun pp ee ss mm below meth cC E hr hml hown hts hlocks hR hK ls hl => ?_)
  have hl : lv_has ls 4 [(0, .ref (o 0))] := hl
  have hcs : 0 ≤ (({ frames := 3, cells := 0, slots := 0, locals := 65 } : Room)).cells ∧ 0 ≤ (({ frames := 3, cells := 0, slots := 0, locals := 65 } : Room)).slots := ⟨Nat.zero_le _, Nat.zero_le _⟩
  have hS : va_S (Ax o 20) ss.heap ss.heap [] := va_S.rf
  have hin5 : ∀ w ∈ wsX50, w ∈ wsX5_readFolder := fun w h => List.mem_cons_of_mem _ (List.mem_append_left _ (List.mem_append_left _ (List.mem_append_right _ (h))))
  have hin6 : ∀ w ∈ wsX60, w ∈ wsX5_readFolder := fun w h => List.mem_cons_of_mem _ (List.mem_append_left _ (List.mem_append_right _ (h)))
  have hF := hI.F
  have hMm := hI.M
  have hGn := hI.Gn
  have htc := Te_b β (n := n) (c := c) (by omega)
  have hskc := Sk_b β (n := n) (c := c) (by omega)
  have hcf : cFld β n c = Te β n (Te β n (Te β n c)) := rfl
  have hnv := RNew_v β δ n (Te β n c)
  refine lv_aload_n (pc := 0) E.1 E.2 dX5_readFolder_0 rfl (lv_at hl 0 rfl) ?_
  refine g5_0 (pc := 1) E hts hin5 hown hK hR.ob (hts _ (List.mem_of_getElem? (i := 1) rfl)) dX5_readFolder_1 ?_
  refine g6_0 (pc := 4) E hts hin6 hown hK hR.dob (hts _ (List.mem_of_getElem? (i := 2) rfl)) dX5_readFolder_4 ?_
  refine z_rVi (pc := 7) (As := []) (rest := []) E hml hown hts (mX3_isFull lL G (fun k => o (2 + (1 + k))) δ  hI) (cwV 0 hts gX5_readFolder_X3_isFull rfl rfl rfl vdX3_isFull ⟨Nat.le_of_ble_eq_true rfl, Nat.le_of_ble_eq_true rfl⟩) (oB.recv hK hR.foo rfl) hR.dra.fo hK rfl hl.1 rfl dX5_readFolder_7 hcs (Nat.le_of_ble_eq_true rfl) ?_
  refine z_ifb_eq (pc := 10) (tgt := 19) E dX5_readFolder_10 (by decide) (fun h10 => ?_) (fun h10 => ?_)
  · refine lv_aload_n (pc := 19) E.1 E.2 dX5_readFolder_19 rfl (lv_at hl 0 rfl) ?_
    refine z_wVl (pc := 20) (P1 := fun H9 : Heap => ∃ (η20 : Int → Int), RD G o η20 δ (fun j => sg8 (β j)) H9 ∧ (η20 1 = if η 1 = 0 then RWd β n (Te β n c) else η 1) ∧ (η20 2 = if η 1 = 0 ∧ ¬ RWd β n (Te β n c) = 0 then Sk β n (Te β n c) else η 2) ∧ (-4 ≤ η20 1 ∧ η20 1 ≤ 0) ∧ (η20 4 = η 4) ∧ (η20 5 = Rl β n (Te β n c)) ∧ (η20 6 = Sk β n (Te β n c)) ∧ (0 ≤ η20 5 ∧ η20 5 ≤ n) ∧ (0 ≤ η20 6 ∧ η20 6 ≤ n)) (As := []) (rest := []) E hml hown hts (mX5_readWord lL G o η δ β n (Te β n c) (by omega) hb (by omega) (by omega) (by omega) (by omega) (by omega) (by first | rfl | assumption | exact Sk_Sk _ _ _ | (congr 1 <;> omega))) (cwV 0 hts gX5_readFolder_X5_readWord rfl rfl rfl vdX5_readWord ⟨Nat.le_of_ble_eq_true rfl, Nat.le_of_ble_eq_true rfl⟩) (oB.recv hK hR.ob rfl) hR hK hS (fun _ h => h) rfl hl.1 rfl dX5_readFolder_20 hcs (Nat.le_of_ble_eq_true rfl) (fun H locs hnew hsz hoth hS => ?_)
    obtain ⟨η20, hR, e1_20, e2_20, b1_20, e4_20, e5_20, e6_20, b5_20, b6_20⟩ := hnew
    rw [if_pos hw] at e1_20
    have hk020 := Sk_b β (n := n) (c := (Te β n c)) (by omega)
    have hk120 := Rl_b β (n := n) (c := (Te β n c)) (by omega)
    have hk220 := RWd_i (b := β) (n := n) (c := (Te β n c)) (by omega)
    have hk320 := RWd_b β n (Te β n c)
    have hk420 := rW_b β n (Te β n c)
    by_cases hs20 : RWd β n (Te β n c) = 0
    · rw [if_neg (fun z => z.2 hs20)] at e2_20
      have hw20 : η20 1 = 0 := by omega
      have ht20 := RWd_t (b := β) (n := n) (c := (Te β n c)) (by omega) hs20
      have htb20 := Te_b β (n := n) (c := (Te β n c)) (by omega)
      have h520 : η20 5 = Te β n (Te β n c) := by omega
      rw [ht20.2.1]
      refine lv_lstore_n (pc := 23) (lv' := [(1, .long (iL (Wo β n (Te β n c)))), (0, .ref (o 0))]) E.1 E.2 dX5_readFolder_23 rfl hl (by decide) rfl (fun ls hl => ?_)
      refine lv_aload_n (pc := 24) E.1 E.2 dX5_readFolder_24 rfl (lv_at hl 1 rfl) ?_
      refine g5_0 (pc := 25) E hts hin5 hown hK hR.ob (hts _ (List.mem_of_getElem? (i := 1) rfl)) dX5_readFolder_25 ?_
      refine g6_0 (pc := 28) E hts hin6 hown hK hR.dob (hts _ (List.mem_of_getElem? (i := 2) rfl)) dX5_readFolder_28 ?_
      refine lv_lload_n (pc := 31) E.1 E.2 dX5_readFolder_31 rfl (lv_at hl 0 rfl) ?_
      refine z_rVi (pc := 32) (As := [.long (iL (Wo β n (Te β n c)))]) (rest := []) E hml hown hts (mX3_numberOf lL G (fun k => o (2 + (1 + k))) δ (Wo β n (Te β n c)) hI (by omega)) (cwV 1 hts gX5_readFolder_X3_numberOf rfl rfl rfl vdX3_numberOf ⟨Nat.le_of_ble_eq_true rfl, Nat.le_of_ble_eq_true rfl⟩) (oB.recv hK hR.foo rfl) hR.dra.fo hK rfl hl.1 rfl dX5_readFolder_32 hcs (Nat.le_of_ble_eq_true rfl) ?_
      have hfz32 := fnS_r hI ((Wo β n (Te β n c)))
      refine z_iconst (pc := 35) E dX5_readFolder_35 ?_
      refine z_icmp_eq (pc := 36) (tgt := 45) E ⟨by omega, by omega⟩ (by decide) dX5_readFolder_36 (by decide) (fun h36 => ?_) (fun h36 => ?_)
      · refine lv_aload_n (pc := 45) E.1 E.2 dX5_readFolder_45 rfl (lv_at hl 1 rfl) ?_
        refine z_wVi (pc := 46) (P1 := fun H9 : Heap => ∃ (η46 : Int → Int), RD G o η46 δ (fun j => sg8 (β j)) H9 ∧ (η46 1 = if η20 1 = 0 then RFol β n δ (Te β n (Te β n c)) else η20 1) ∧ (η46 2 = if η20 1 = 0 ∧ ¬ RFol β n δ (Te β n (Te β n c)) = 0 then Sk β n (Te β n (Te β n c)) else η20 2) ∧ (-4 ≤ η46 1 ∧ η46 1 ≤ 0) ∧ (η46 4 = η20 4) ∧ (η46 5 = Rl β n (Te β n (Te β n c))) ∧ (η46 6 = Sk β n (Te β n (Te β n c))) ∧ (0 ≤ η46 5 ∧ η46 5 ≤ n) ∧ (0 ≤ η46 6 ∧ η46 6 ≤ n)) (As := []) (rest := []) E hml hown hts (mX5_readFolderName lL G o η20 δ β n (Te β n (Te β n c)) (by omega) hb (by omega) (by omega) (by omega) (by omega) hI (by omega) (by first | rfl | assumption | exact Sk_Sk _ _ _ | (congr 1 <;> omega))) (cwV 0 hts gX5_readFolder_X5_readFolderName rfl rfl rfl vdX5_readFolderName ⟨Nat.le_of_ble_eq_true rfl, Nat.le_of_ble_eq_true rfl⟩) (oB.recv hK hR.ob rfl) hR hK hS (fun _ h => h) rfl hl.1 rfl dX5_readFolder_46 hcs (Nat.le_of_ble_eq_true rfl) (fun H locs hnew hsz hoth hS => ?_)
        obtain ⟨η46, hR, e1_46, e2_46, b1_46, e4_46, e5_46, e6_46, b5_46, b6_46⟩ := hnew
        rw [if_pos hw20] at e1_46
        have hk046 := Sk_b β (n := n) (c := (Te β n (Te β n c))) (by omega)
        have hk146 := Rl_b β (n := n) (c := (Te β n (Te β n c))) (by omega)
        have hk346 := RFol_b β δ n (Te β n (Te β n c))
        have hfz46 := fnS_r hI (rW β n (Te β n (Te β n c)))
        by_cases hs46 : RFol β n δ (Te β n (Te β n c)) = 0
        · rw [if_neg (fun z => z.2 hs46)] at e2_46
          have hw46 : η46 1 = 0 := by omega
          have hu46 := RFol_0 hs46
          have hv46 := RFol_v β δ n (Te β n (Te β n c))
          have hx46 : RWd β n (Te β n (Te β n c)) = 0 := by rw [hv46] at hs46; by_cases z : RWd β n (Te β n (Te β n c)) = 0; exact z; rw [if_neg z] at hs46; omega
          have ht46 := RWd_t (b := β) (n := n) (c := (Te β n (Te β n c))) (by omega) hx46
          have htb46 := Te_b β (n := n) (c := (Te β n (Te β n c))) (by omega)
          have h546 : η46 5 = Te β n (Te β n (Te β n c)) := by omega
          have hfr46 := fnS_lt hI (Wo β n (Te β n (Te β n c)))
          rw [ht46.2.1]
          refine lv_istore_n (pc := 49) (lv' := [(3, .int (iI (fnS δ (Wo β n (Te β n (Te β n c))) 0))), (1, .long (iL (Wo β n (Te β n c)))), (0, .ref (o 0))]) E.1 E.2 dX5_readFolder_49 rfl hl (by decide) rfl (fun ls hl => ?_)
          refine lv_aload_n (pc := 50) E.1 E.2 dX5_readFolder_50 rfl (lv_at hl 2 rfl) ?_
          refine g5_1 (pc := 51) E hts hin5 hown hK hR.ob (hts _ (List.mem_of_getElem? (i := 3) rfl)) dX5_readFolder_51 ?_
          refine z_if_ne (pc := 54) (tgt := 69) E ⟨by omega, by omega⟩ dX5_readFolder_54 (by decide) (fun h54 => ?_) (fun h54 => ?_)
          · exact absurd h54 (by first | exact hw46 | exact fun q => hw46 q | omega)
          · refine lv_aload_n (pc := 57) E.1 E.2 dX5_readFolder_57 rfl (lv_at hl 2 rfl) ?_
            refine g5_0 (pc := 58) E hts hin5 hown hK hR.ob (hts _ (List.mem_of_getElem? (i := 1) rfl)) dX5_readFolder_58 ?_
            refine g6_0 (pc := 61) E hts hin6 hown hK hR.dob (hts _ (List.mem_of_getElem? (i := 2) rfl)) dX5_readFolder_61 ?_
            refine lv_iload_n (pc := 64) E.1 E.2 dX5_readFolder_64 rfl (lv_at hl 0 rfl) ?_
            refine lv_lload_n (pc := 65) E.1 E.2 dX5_readFolder_65 rfl (lv_at hl 1 rfl) ?_
            refine z_wVv (pc := 66) (As := [.int (iI (fnS δ (Wo β n (Te β n (Te β n c))) 0)), .long (iL (Wo β n (Te β n c)))]) (rest := []) E hml hown hts (mX3_add lL G (fun k => o (2 + (1 + k))) δ (fnS δ (Wo β n (Te β n (Te β n c))) 0) (Wo β n (Te β n c)) hI (by omega) (by omega)) (cwV 2 hts gX5_readFolder_X3_add rfl rfl rfl vdX3_add ⟨Nat.le_of_ble_eq_true rfl, Nat.le_of_ble_eq_true rfl⟩) (oB.recv hK hR.foo rfl) hR.dra.fo hK hS (fun q ⟨k, hk, e⟩ => ⟨2 + (1 + k), by omega, e⟩) rfl hl.1 rfl dX5_readFolder_66 hcs (Nat.le_of_ble_eq_true rfl) (fun H locs hnew hsz hoth hS => ?_)
            have hR := RD.upD hR (ST.upFO hR.dra hnew (fun q h1 h2 => hoth q h1 h2) (fun j hj => adF_n hI (by omega) (by omega))) (fun q h1 h2 => hoth q h1 (fun ⟨k, hk, e⟩ => h2 ⟨1 + k, by omega, e⟩))
            exact z_retWv (P1 := fun H9 : Heap => ∃ (η1 δ1 : Int → Int), RD G o η1 δ1 (fun j => sg8 (β j)) H9 ∧ (xFld β n δ c = 0 → η1 1 = 0 ∧ η1 5 = cFld β n c ∧ η1 2 = η 2 ∧ δ1 = fFld β n δ c) ∧ (¬ xFld β n δ c = 0 → η1 1 = xFld β n δ c ∧ η1 2 = pFld β n δ c) ∧ (-4 ≤ η1 1 ∧ η1 1 ≤ 0) ∧ (η1 4 = η 4) ∧ (In δ1) ∧ (0 ≤ η1 5 ∧ η1 5 ≤ n) ∧ (0 ≤ η1 6 ∧ η1 6 ≤ n)) E hr ⟨η46, (adF δ (fnS δ (Wo β n (Te β n (Te β n c))) 0) (Wo β n (Te β n c))), hR, (fun _ => And.intro (by omega) (And.intro (by omega) (And.intro (by omega) rfl))), (fun z => absurd (by (try unfold xFld); (try unfold pFld); (try unfold cFld); omega) z), (by first | rfl | (simp only [zu, Int.reduceEq, reduceIte]; done) | (simp only [zu, Int.reduceEq, reduceIte]; omega) | omega), (by first | rfl | (simp only [zu, Int.reduceEq, reduceIte]; done) | (simp only [zu, Int.reduceEq, reduceIte]; omega) | omega), (hI.adFI (by omega) (by omega) (Wo_k (by omega) (by omega) (by omega))), (by first | rfl | (simp only [zu, Int.reduceEq, reduceIte]; done) | (simp only [zu, Int.reduceEq, reduceIte]; omega) | omega), (by first | rfl | (simp only [zu, Int.reduceEq, reduceIte]; done) | (simp only [zu, Int.reduceEq, reduceIte]; omega) | omega)⟩ hS hlocks dX5_readFolder_69
        rw [if_pos ⟨hw20, hs46⟩] at e2_46
        have hw46 : ¬ η46 1 = 0 := by omega
        have hfr46 := fnS_r hI (rW β n (Te β n (Te β n c)))
        refine lv_istore_n (pc := 49) (lv' := [(3, .int (iI (fnS δ (rW β n (Te β n (Te β n c))) 0))), (1, .long (iL (Wo β n (Te β n c)))), (0, .ref (o 0))]) E.1 E.2 dX5_readFolder_49 rfl hl (by decide) rfl (fun ls hl => ?_)
        refine lv_aload_n (pc := 50) E.1 E.2 dX5_readFolder_50 rfl (lv_at hl 2 rfl) ?_
        refine g5_1 (pc := 51) E hts hin5 hown hK hR.ob (hts _ (List.mem_of_getElem? (i := 3) rfl)) dX5_readFolder_51 ?_
        refine z_if_ne (pc := 54) (tgt := 69) E ⟨by omega, by omega⟩ dX5_readFolder_54 (by decide) (fun h54 => ?_) (fun h54 => ?_)
        · exact z_retWv (P1 := fun H9 : Heap => ∃ (η1 δ1 : Int → Int), RD G o η1 δ1 (fun j => sg8 (β j)) H9 ∧ (xFld β n δ c = 0 → η1 1 = 0 ∧ η1 5 = cFld β n c ∧ η1 2 = η 2 ∧ δ1 = fFld β n δ c) ∧ (¬ xFld β n δ c = 0 → η1 1 = xFld β n δ c ∧ η1 2 = pFld β n δ c) ∧ (-4 ≤ η1 1 ∧ η1 1 ≤ 0) ∧ (η1 4 = η 4) ∧ (In δ1) ∧ (0 ≤ η1 5 ∧ η1 5 ≤ n) ∧ (0 ≤ η1 6 ∧ η1 6 ≤ n)) E hr ⟨η46, δ, hR, (fun z => absurd z (by (try unfold xFld); (try unfold pFld); (try unfold cFld); omega)), (fun z => And.intro (by (try unfold xFld); (try unfold pFld); (try unfold cFld); omega) (by (try unfold xFld); (try unfold pFld); (try unfold cFld); omega)), (by first | rfl | (simp only [zu, Int.reduceEq, reduceIte]; done) | (simp only [zu, Int.reduceEq, reduceIte]; omega) | omega), (by first | rfl | (simp only [zu, Int.reduceEq, reduceIte]; done) | (simp only [zu, Int.reduceEq, reduceIte]; omega) | omega), hI, (by first | rfl | (simp only [zu, Int.reduceEq, reduceIte]; done) | (simp only [zu, Int.reduceEq, reduceIte]; omega) | omega), (by first | rfl | (simp only [zu, Int.reduceEq, reduceIte]; done) | (simp only [zu, Int.reduceEq, reduceIte]; omega) | omega)⟩ hS hlocks dX5_readFolder_69
        · exact absurd h54 (by first | exact hw46 | exact fun q => hw46 q | omega)
      · refine lv_aload_n (pc := 39) E.1 E.2 dX5_readFolder_39 rfl (lv_at hl 1 rfl) ?_
        refine z_bipush (pc := 40) E (by decide) dX5_readFolder_40 ?_
        refine z_wVv (pc := 42) (P1 := fun H9 : Heap => ∃ (η42 : Int → Int), RD G o η42 δ (fun j => sg8 (β j)) H9 ∧ (η42 1 = if η20 1 = 0 then (-3) else η20 1) ∧ (η42 2 = if η20 1 = 0 then η20 6 else η20 2) ∧ (η42 4 = η20 4) ∧ (η42 5 = η20 5) ∧ (η42 6 = η20 6)) (As := [.int (iI (-3))]) (rest := []) E hml hown hts (mX5_fail lL G o η20 δ β (-3) (by omega) (by omega)) (cwV 1 hts gX5_readFolder_X5_fail rfl rfl rfl vdX5_fail ⟨Nat.le_of_ble_eq_true rfl, Nat.le_of_ble_eq_true rfl⟩) (oB.recv hK hR.ob rfl) hR hK hS (fun _ h => h) rfl hl.1 rfl dX5_readFolder_42 hcs (Nat.le_of_ble_eq_true rfl) (fun H locs hnew hsz hoth hS => ?_)
        obtain ⟨η42, hR, e1_42, e2_42, e4_42, e5_42, e6_42⟩ := hnew
        rw [if_pos hw20] at e1_42
        rw [if_pos hw20] at e2_42
        have hw42 : ¬ η42 1 = 0 := by omega
        refine lv_aload_n (pc := 45) E.1 E.2 dX5_readFolder_45 rfl (lv_at hl 1 rfl) ?_
        refine z_wVi (pc := 46) (P1 := fun H9 : Heap => ∃ (η46 : Int → Int), RD G o η46 δ (fun j => sg8 (β j)) H9 ∧ (η46 1 = if η42 1 = 0 then RFol β n δ (η42 5) else η42 1) ∧ (η46 2 = if η42 1 = 0 ∧ ¬ RFol β n δ (η42 5) = 0 then Sk β n (η42 5) else η42 2) ∧ (-4 ≤ η46 1 ∧ η46 1 ≤ 0) ∧ (η46 4 = η42 4) ∧ (η46 5 = Rl β n (η42 5)) ∧ (η46 6 = Sk β n (η42 5)) ∧ (0 ≤ η46 5 ∧ η46 5 ≤ n) ∧ (0 ≤ η46 6 ∧ η46 6 ≤ n)) (As := []) (rest := []) E hml hown hts (mX5_readFolderName lL G o η42 δ β n (η42 5) (by omega) hb (by omega) (by omega) (by omega) (by omega) hI (by omega) (by first | rfl | assumption | exact Sk_Sk _ _ _ | (congr 1 <;> omega))) (cwV 0 hts gX5_readFolder_X5_readFolderName rfl rfl rfl vdX5_readFolderName ⟨Nat.le_of_ble_eq_true rfl, Nat.le_of_ble_eq_true rfl⟩) (oB.recv hK hR.ob rfl) hR hK hS (fun _ h => h) rfl hl.1 rfl dX5_readFolder_46 hcs (Nat.le_of_ble_eq_true rfl) (fun H locs hnew hsz hoth hS => ?_)
        obtain ⟨η46, hR, e1_46, e2_46, b1_46, e4_46, e5_46, e6_46, b5_46, b6_46⟩ := hnew
        rw [if_neg hw42] at e1_46
        rw [if_neg (fun z => hw42 z.1)] at e2_46
        have hk046 := Sk_b β (n := n) (c := (η42 5)) (by omega)
        have hk146 := Rl_b β (n := n) (c := (η42 5)) (by omega)
        have hk346 := RFol_b β δ n (η42 5)
        have hfz46 := fnS_r hI (rW β n (η42 5))
        have hw46 : ¬ η46 1 = 0 := by omega
        refine lv_istore_n (pc := 49) (lv' := [(3, .int (iI (fnS δ (rW β n (η42 5)) 0))), (1, .long (iL (Wo β n (Te β n c)))), (0, .ref (o 0))]) E.1 E.2 dX5_readFolder_49 rfl hl (by decide) rfl (fun ls hl => ?_)
        refine lv_aload_n (pc := 50) E.1 E.2 dX5_readFolder_50 rfl (lv_at hl 2 rfl) ?_
        refine g5_1 (pc := 51) E hts hin5 hown hK hR.ob (hts _ (List.mem_of_getElem? (i := 3) rfl)) dX5_readFolder_51 ?_
        refine z_if_ne (pc := 54) (tgt := 69) E ⟨by omega, by omega⟩ dX5_readFolder_54 (by decide) (fun h54 => ?_) (fun h54 => ?_)
        · exact z_retWv (P1 := fun H9 : Heap => ∃ (η1 δ1 : Int → Int), RD G o η1 δ1 (fun j => sg8 (β j)) H9 ∧ (xFld β n δ c = 0 → η1 1 = 0 ∧ η1 5 = cFld β n c ∧ η1 2 = η 2 ∧ δ1 = fFld β n δ c) ∧ (¬ xFld β n δ c = 0 → η1 1 = xFld β n δ c ∧ η1 2 = pFld β n δ c) ∧ (-4 ≤ η1 1 ∧ η1 1 ≤ 0) ∧ (η1 4 = η 4) ∧ (In δ1) ∧ (0 ≤ η1 5 ∧ η1 5 ≤ n) ∧ (0 ≤ η1 6 ∧ η1 6 ≤ n)) E hr ⟨η46, δ, hR, (fun z => absurd z (by (try unfold xFld); (try unfold pFld); (try unfold cFld); omega)), (fun z => And.intro (by (try unfold xFld); (try unfold pFld); (try unfold cFld); omega) (by (try unfold xFld); (try unfold pFld); (try unfold cFld); omega)), (by first | rfl | (simp only [zu, Int.reduceEq, reduceIte]; done) | (simp only [zu, Int.reduceEq, reduceIte]; omega) | omega), (by first | rfl | (simp only [zu, Int.reduceEq, reduceIte]; done) | (simp only [zu, Int.reduceEq, reduceIte]; omega) | omega), hI, (by first | rfl | (simp only [zu, Int.reduceEq, reduceIte]; done) | (simp only [zu, Int.reduceEq, reduceIte]; omega) | omega), (by first | rfl | (simp only [zu, Int.reduceEq, reduceIte]; done) | (simp only [zu, Int.reduceEq, reduceIte]; omega) | omega)⟩ hS hlocks dX5_readFolder_69
        · exact absurd h54 (by first | exact hw46 | exact fun q => hw46 q | omega)
    rw [if_pos ⟨hw, hs20⟩] at e2_20
    have hw20 : ¬ η20 1 = 0 := by omega
    refine lv_lstore_n (pc := 23) (lv' := [(1, .long (iL (rW β n (Te β n c)))), (0, .ref (o 0))]) E.1 E.2 dX5_readFolder_23 rfl hl (by decide) rfl (fun ls hl => ?_)
    refine lv_aload_n (pc := 24) E.1 E.2 dX5_readFolder_24 rfl (lv_at hl 1 rfl) ?_
    refine g5_0 (pc := 25) E hts hin5 hown hK hR.ob (hts _ (List.mem_of_getElem? (i := 1) rfl)) dX5_readFolder_25 ?_
    refine g6_0 (pc := 28) E hts hin6 hown hK hR.dob (hts _ (List.mem_of_getElem? (i := 2) rfl)) dX5_readFolder_28 ?_
    refine lv_lload_n (pc := 31) E.1 E.2 dX5_readFolder_31 rfl (lv_at hl 0 rfl) ?_
    refine z_rVi (pc := 32) (As := [.long (iL (rW β n (Te β n c)))]) (rest := []) E hml hown hts (mX3_numberOf lL G (fun k => o (2 + (1 + k))) δ (rW β n (Te β n c)) hI (by omega)) (cwV 1 hts gX5_readFolder_X3_numberOf rfl rfl rfl vdX3_numberOf ⟨Nat.le_of_ble_eq_true rfl, Nat.le_of_ble_eq_true rfl⟩) (oB.recv hK hR.foo rfl) hR.dra.fo hK rfl hl.1 rfl dX5_readFolder_32 hcs (Nat.le_of_ble_eq_true rfl) ?_
    have hfz32 := fnS_r hI ((rW β n (Te β n c)))
    refine z_iconst (pc := 35) E dX5_readFolder_35 ?_
    refine z_icmp_eq (pc := 36) (tgt := 45) E ⟨by omega, by omega⟩ (by decide) dX5_readFolder_36 (by decide) (fun h36 => ?_) (fun h36 => ?_)
    · refine lv_aload_n (pc := 45) E.1 E.2 dX5_readFolder_45 rfl (lv_at hl 1 rfl) ?_
      refine z_wVi (pc := 46) (P1 := fun H9 : Heap => ∃ (η46 : Int → Int), RD G o η46 δ (fun j => sg8 (β j)) H9 ∧ (η46 1 = if η20 1 = 0 then RFol β n δ (η20 5) else η20 1) ∧ (η46 2 = if η20 1 = 0 ∧ ¬ RFol β n δ (η20 5) = 0 then Sk β n (η20 5) else η20 2) ∧ (-4 ≤ η46 1 ∧ η46 1 ≤ 0) ∧ (η46 4 = η20 4) ∧ (η46 5 = Rl β n (η20 5)) ∧ (η46 6 = Sk β n (η20 5)) ∧ (0 ≤ η46 5 ∧ η46 5 ≤ n) ∧ (0 ≤ η46 6 ∧ η46 6 ≤ n)) (As := []) (rest := []) E hml hown hts (mX5_readFolderName lL G o η20 δ β n (η20 5) (by omega) hb (by omega) (by omega) (by omega) (by omega) hI (by omega) (by first | rfl | assumption | exact Sk_Sk _ _ _ | (congr 1 <;> omega))) (cwV 0 hts gX5_readFolder_X5_readFolderName rfl rfl rfl vdX5_readFolderName ⟨Nat.le_of_ble_eq_true rfl, Nat.le_of_ble_eq_true rfl⟩) (oB.recv hK hR.ob rfl) hR hK hS (fun _ h => h) rfl hl.1 rfl dX5_readFolder_46 hcs (Nat.le_of_ble_eq_true rfl) (fun H locs hnew hsz hoth hS => ?_)
      obtain ⟨η46, hR, e1_46, e2_46, b1_46, e4_46, e5_46, e6_46, b5_46, b6_46⟩ := hnew
      rw [if_neg hw20] at e1_46
      rw [if_neg (fun z => hw20 z.1)] at e2_46
      have hk046 := Sk_b β (n := n) (c := (η20 5)) (by omega)
      have hk146 := Rl_b β (n := n) (c := (η20 5)) (by omega)
      have hk346 := RFol_b β δ n (η20 5)
      have hfz46 := fnS_r hI (rW β n (η20 5))
      have hw46 : ¬ η46 1 = 0 := by omega
      refine lv_istore_n (pc := 49) (lv' := [(3, .int (iI (fnS δ (rW β n (η20 5)) 0))), (1, .long (iL (rW β n (Te β n c)))), (0, .ref (o 0))]) E.1 E.2 dX5_readFolder_49 rfl hl (by decide) rfl (fun ls hl => ?_)
      refine lv_aload_n (pc := 50) E.1 E.2 dX5_readFolder_50 rfl (lv_at hl 2 rfl) ?_
      refine g5_1 (pc := 51) E hts hin5 hown hK hR.ob (hts _ (List.mem_of_getElem? (i := 3) rfl)) dX5_readFolder_51 ?_
      refine z_if_ne (pc := 54) (tgt := 69) E ⟨by omega, by omega⟩ dX5_readFolder_54 (by decide) (fun h54 => ?_) (fun h54 => ?_)
      · exact z_retWv (P1 := fun H9 : Heap => ∃ (η1 δ1 : Int → Int), RD G o η1 δ1 (fun j => sg8 (β j)) H9 ∧ (xFld β n δ c = 0 → η1 1 = 0 ∧ η1 5 = cFld β n c ∧ η1 2 = η 2 ∧ δ1 = fFld β n δ c) ∧ (¬ xFld β n δ c = 0 → η1 1 = xFld β n δ c ∧ η1 2 = pFld β n δ c) ∧ (-4 ≤ η1 1 ∧ η1 1 ≤ 0) ∧ (η1 4 = η 4) ∧ (In δ1) ∧ (0 ≤ η1 5 ∧ η1 5 ≤ n) ∧ (0 ≤ η1 6 ∧ η1 6 ≤ n)) E hr ⟨η46, δ, hR, (fun z => absurd z (by (try unfold xFld); (try unfold pFld); (try unfold cFld); omega)), (fun z => And.intro (by (try unfold xFld); (try unfold pFld); (try unfold cFld); omega) (by (try unfold xFld); (try unfold pFld); (try unfold cFld); omega)), (by first | rfl | (simp only [zu, Int.reduceEq, reduceIte]; done) | (simp only [zu, Int.reduceEq, reduceIte]; omega) | omega), (by first | rfl | (simp only [zu, Int.reduceEq, reduceIte]; done) | (simp only [zu, Int.reduceEq, reduceIte]; omega) | omega), hI, (by first | rfl | (simp only [zu, Int.reduceEq, reduceIte]; done) | (simp only [zu, Int.reduceEq, reduceIte]; omega) | omega), (by first | rfl | (simp only [zu, Int.reduceEq, reduceIte]; done) | (simp only [zu, Int.reduceEq, reduceIte]; omega) | omega)⟩ hS hlocks dX5_readFolder_69
      · exact absurd h54 (by first | exact hw46 | exact fun q => hw46 q | omega)
    · refine lv_aload_n (pc := 39) E.1 E.2 dX5_readFolder_39 rfl (lv_at hl 1 rfl) ?_
      refine z_bipush (pc := 40) E (by decide) dX5_readFolder_40 ?_
      refine z_wVv (pc := 42) (P1 := fun H9 : Heap => ∃ (η42 : Int → Int), RD G o η42 δ (fun j => sg8 (β j)) H9 ∧ (η42 1 = if η20 1 = 0 then (-3) else η20 1) ∧ (η42 2 = if η20 1 = 0 then η20 6 else η20 2) ∧ (η42 4 = η20 4) ∧ (η42 5 = η20 5) ∧ (η42 6 = η20 6)) (As := [.int (iI (-3))]) (rest := []) E hml hown hts (mX5_fail lL G o η20 δ β (-3) (by omega) (by omega)) (cwV 1 hts gX5_readFolder_X5_fail rfl rfl rfl vdX5_fail ⟨Nat.le_of_ble_eq_true rfl, Nat.le_of_ble_eq_true rfl⟩) (oB.recv hK hR.ob rfl) hR hK hS (fun _ h => h) rfl hl.1 rfl dX5_readFolder_42 hcs (Nat.le_of_ble_eq_true rfl) (fun H locs hnew hsz hoth hS => ?_)
      obtain ⟨η42, hR, e1_42, e2_42, e4_42, e5_42, e6_42⟩ := hnew
      rw [if_neg hw20] at e1_42
      rw [if_neg hw20] at e2_42
      have hw42 : ¬ η42 1 = 0 := by omega
      refine lv_aload_n (pc := 45) E.1 E.2 dX5_readFolder_45 rfl (lv_at hl 1 rfl) ?_
      refine z_wVi (pc := 46) (P1 := fun H9 : Heap => ∃ (η46 : Int → Int), RD G o η46 δ (fun j => sg8 (β j)) H9 ∧ (η46 1 = if η42 1 = 0 then RFol β n δ (η42 5) else η42 1) ∧ (η46 2 = if η42 1 = 0 ∧ ¬ RFol β n δ (η42 5) = 0 then Sk β n (η42 5) else η42 2) ∧ (-4 ≤ η46 1 ∧ η46 1 ≤ 0) ∧ (η46 4 = η42 4) ∧ (η46 5 = Rl β n (η42 5)) ∧ (η46 6 = Sk β n (η42 5)) ∧ (0 ≤ η46 5 ∧ η46 5 ≤ n) ∧ (0 ≤ η46 6 ∧ η46 6 ≤ n)) (As := []) (rest := []) E hml hown hts (mX5_readFolderName lL G o η42 δ β n (η42 5) (by omega) hb (by omega) (by omega) (by omega) (by omega) hI (by omega) (by first | rfl | assumption | exact Sk_Sk _ _ _ | (congr 1 <;> omega))) (cwV 0 hts gX5_readFolder_X5_readFolderName rfl rfl rfl vdX5_readFolderName ⟨Nat.le_of_ble_eq_true rfl, Nat.le_of_ble_eq_true rfl⟩) (oB.recv hK hR.ob rfl) hR hK hS (fun _ h => h) rfl hl.1 rfl dX5_readFolder_46 hcs (Nat.le_of_ble_eq_true rfl) (fun H locs hnew hsz hoth hS => ?_)
      obtain ⟨η46, hR, e1_46, e2_46, b1_46, e4_46, e5_46, e6_46, b5_46, b6_46⟩ := hnew
      rw [if_neg hw42] at e1_46
      rw [if_neg (fun z => hw42 z.1)] at e2_46
      have hk046 := Sk_b β (n := n) (c := (η42 5)) (by omega)
      have hk146 := Rl_b β (n := n) (c := (η42 5)) (by omega)
      have hk346 := RFol_b β δ n (η42 5)
      have hfz46 := fnS_r hI (rW β n (η42 5))
      have hw46 : ¬ η46 1 = 0 := by omega
      refine lv_istore_n (pc := 49) (lv' := [(3, .int (iI (fnS δ (rW β n (η42 5)) 0))), (1, .long (iL (rW β n (Te β n c)))), (0, .ref (o 0))]) E.1 E.2 dX5_readFolder_49 rfl hl (by decide) rfl (fun ls hl => ?_)
      refine lv_aload_n (pc := 50) E.1 E.2 dX5_readFolder_50 rfl (lv_at hl 2 rfl) ?_
      refine g5_1 (pc := 51) E hts hin5 hown hK hR.ob (hts _ (List.mem_of_getElem? (i := 3) rfl)) dX5_readFolder_51 ?_
      refine z_if_ne (pc := 54) (tgt := 69) E ⟨by omega, by omega⟩ dX5_readFolder_54 (by decide) (fun h54 => ?_) (fun h54 => ?_)
      · exact z_retWv (P1 := fun H9 : Heap => ∃ (η1 δ1 : Int → Int), RD G o η1 δ1 (fun j => sg8 (β j)) H9 ∧ (xFld β n δ c = 0 → η1 1 = 0 ∧ η1 5 = cFld β n c ∧ η1 2 = η 2 ∧ δ1 = fFld β n δ c) ∧ (¬ xFld β n δ c = 0 → η1 1 = xFld β n δ c ∧ η1 2 = pFld β n δ c) ∧ (-4 ≤ η1 1 ∧ η1 1 ≤ 0) ∧ (η1 4 = η 4) ∧ (In δ1) ∧ (0 ≤ η1 5 ∧ η1 5 ≤ n) ∧ (0 ≤ η1 6 ∧ η1 6 ≤ n)) E hr ⟨η46, δ, hR, (fun z => absurd z (by (try unfold xFld); (try unfold pFld); (try unfold cFld); omega)), (fun z => And.intro (by (try unfold xFld); (try unfold pFld); (try unfold cFld); omega) (by (try unfold xFld); (try unfold pFld); (try unfold cFld); omega)), (by first | rfl | (simp only [zu, Int.reduceEq, reduceIte]; done) | (simp only [zu, Int.reduceEq, reduceIte]; omega) | omega), (by first | rfl | (simp only [zu, Int.reduceEq, reduceIte]; done) | (simp only [zu, Int.reduceEq, reduceIte]; omega) | omega), hI, (by first | rfl | (simp only [zu, Int.reduceEq, reduceIte]; done) | (simp only [zu, Int.reduceEq, reduceIte]; omega) | omega), (by first | rfl | (simp only [zu, Int.reduceEq, reduceIte]; done) | (simp only [zu, Int.reduceEq, reduceIte]; omega) | omega)⟩ hS hlocks dX5_readFolder_69
      · exact absurd h54 (by first | exact hw46 | exact fun q => hw46 q | omega)
  · refine lv_aload_n (pc := 13) E.1 E.2 dX5_readFolder_13 rfl (lv_at hl 0 rfl) ?_
    refine z_bipush (pc := 14) E (by decide) dX5_readFolder_14 ?_
    refine z_wVv (pc := 16) (P1 := fun H9 : Heap => ∃ (η16 : Int → Int), RD G o η16 δ (fun j => sg8 (β j)) H9 ∧ (η16 1 = if η 1 = 0 then (-4) else η 1) ∧ (η16 2 = if η 1 = 0 then η 6 else η 2) ∧ (η16 4 = η 4) ∧ (η16 5 = η 5) ∧ (η16 6 = η 6)) (As := [.int (iI (-4))]) (rest := []) E hml hown hts (mX5_fail lL G o η δ β (-4) (by omega) (by omega)) (cwV 1 hts gX5_readFolder_X5_fail rfl rfl rfl vdX5_fail ⟨Nat.le_of_ble_eq_true rfl, Nat.le_of_ble_eq_true rfl⟩) (oB.recv hK hR.ob rfl) hR hK hS (fun _ h => h) rfl hl.1 rfl dX5_readFolder_16 hcs (Nat.le_of_ble_eq_true rfl) (fun H locs hnew hsz hoth hS => ?_)
    obtain ⟨η16, hR, e1_16, e2_16, e4_16, e5_16, e6_16⟩ := hnew
    rw [if_pos hw] at e1_16
    rw [if_pos hw] at e2_16
    have hw16 : ¬ η16 1 = 0 := by omega
    refine lv_aload_n (pc := 19) E.1 E.2 dX5_readFolder_19 rfl (lv_at hl 0 rfl) ?_
    refine z_wVl (pc := 20) (P1 := fun H9 : Heap => ∃ (η20 : Int → Int), RD G o η20 δ (fun j => sg8 (β j)) H9 ∧ (η20 1 = if η16 1 = 0 then RWd β n (η16 5) else η16 1) ∧ (η20 2 = if η16 1 = 0 ∧ ¬ RWd β n (η16 5) = 0 then Sk β n (η16 5) else η16 2) ∧ (-4 ≤ η20 1 ∧ η20 1 ≤ 0) ∧ (η20 4 = η16 4) ∧ (η20 5 = Rl β n (η16 5)) ∧ (η20 6 = Sk β n (η16 5)) ∧ (0 ≤ η20 5 ∧ η20 5 ≤ n) ∧ (0 ≤ η20 6 ∧ η20 6 ≤ n)) (As := []) (rest := []) E hml hown hts (mX5_readWord lL G o η16 δ β n (η16 5) (by omega) hb (by omega) (by omega) (by omega) (by omega) (by omega) (by first | rfl | assumption | exact Sk_Sk _ _ _ | (congr 1 <;> omega))) (cwV 0 hts gX5_readFolder_X5_readWord rfl rfl rfl vdX5_readWord ⟨Nat.le_of_ble_eq_true rfl, Nat.le_of_ble_eq_true rfl⟩) (oB.recv hK hR.ob rfl) hR hK hS (fun _ h => h) rfl hl.1 rfl dX5_readFolder_20 hcs (Nat.le_of_ble_eq_true rfl) (fun H locs hnew hsz hoth hS => ?_)
    obtain ⟨η20, hR, e1_20, e2_20, b1_20, e4_20, e5_20, e6_20, b5_20, b6_20⟩ := hnew
    rw [if_neg hw16] at e1_20
    rw [if_neg (fun z => hw16 z.1)] at e2_20
    have hk020 := Sk_b β (n := n) (c := (η16 5)) (by omega)
    have hk120 := Rl_b β (n := n) (c := (η16 5)) (by omega)
    have hk220 := RWd_i (b := β) (n := n) (c := (η16 5)) (by omega)
    have hk320 := RWd_b β n (η16 5)
    have hk420 := rW_b β n (η16 5)
    have hw20 : ¬ η20 1 = 0 := by omega
    refine lv_lstore_n (pc := 23) (lv' := [(1, .long (iL (rW β n (η16 5)))), (0, .ref (o 0))]) E.1 E.2 dX5_readFolder_23 rfl hl (by decide) rfl (fun ls hl => ?_)
    refine lv_aload_n (pc := 24) E.1 E.2 dX5_readFolder_24 rfl (lv_at hl 1 rfl) ?_
    refine g5_0 (pc := 25) E hts hin5 hown hK hR.ob (hts _ (List.mem_of_getElem? (i := 1) rfl)) dX5_readFolder_25 ?_
    refine g6_0 (pc := 28) E hts hin6 hown hK hR.dob (hts _ (List.mem_of_getElem? (i := 2) rfl)) dX5_readFolder_28 ?_
    refine lv_lload_n (pc := 31) E.1 E.2 dX5_readFolder_31 rfl (lv_at hl 0 rfl) ?_
    refine z_rVi (pc := 32) (As := [.long (iL (rW β n (η16 5)))]) (rest := []) E hml hown hts (mX3_numberOf lL G (fun k => o (2 + (1 + k))) δ (rW β n (η16 5)) hI (by omega)) (cwV 1 hts gX5_readFolder_X3_numberOf rfl rfl rfl vdX3_numberOf ⟨Nat.le_of_ble_eq_true rfl, Nat.le_of_ble_eq_true rfl⟩) (oB.recv hK hR.foo rfl) hR.dra.fo hK rfl hl.1 rfl dX5_readFolder_32 hcs (Nat.le_of_ble_eq_true rfl) ?_
    have hfz32 := fnS_r hI ((rW β n (η16 5)))
    refine z_iconst (pc := 35) E dX5_readFolder_35 ?_
    refine z_icmp_eq (pc := 36) (tgt := 45) E ⟨by omega, by omega⟩ (by decide) dX5_readFolder_36 (by decide) (fun h36 => ?_) (fun h36 => ?_)
    · refine lv_aload_n (pc := 45) E.1 E.2 dX5_readFolder_45 rfl (lv_at hl 1 rfl) ?_
      refine z_wVi (pc := 46) (P1 := fun H9 : Heap => ∃ (η46 : Int → Int), RD G o η46 δ (fun j => sg8 (β j)) H9 ∧ (η46 1 = if η20 1 = 0 then RFol β n δ (η20 5) else η20 1) ∧ (η46 2 = if η20 1 = 0 ∧ ¬ RFol β n δ (η20 5) = 0 then Sk β n (η20 5) else η20 2) ∧ (-4 ≤ η46 1 ∧ η46 1 ≤ 0) ∧ (η46 4 = η20 4) ∧ (η46 5 = Rl β n (η20 5)) ∧ (η46 6 = Sk β n (η20 5)) ∧ (0 ≤ η46 5 ∧ η46 5 ≤ n) ∧ (0 ≤ η46 6 ∧ η46 6 ≤ n)) (As := []) (rest := []) E hml hown hts (mX5_readFolderName lL G o η20 δ β n (η20 5) (by omega) hb (by omega) (by omega) (by omega) (by omega) hI (by omega) (by first | rfl | assumption | exact Sk_Sk _ _ _ | (congr 1 <;> omega))) (cwV 0 hts gX5_readFolder_X5_readFolderName rfl rfl rfl vdX5_readFolderName ⟨Nat.le_of_ble_eq_true rfl, Nat.le_of_ble_eq_true rfl⟩) (oB.recv hK hR.ob rfl) hR hK hS (fun _ h => h) rfl hl.1 rfl dX5_readFolder_46 hcs (Nat.le_of_ble_eq_true rfl) (fun H locs hnew hsz hoth hS => ?_)
      obtain ⟨η46, hR, e1_46, e2_46, b1_46, e4_46, e5_46, e6_46, b5_46, b6_46⟩ := hnew
      rw [if_neg hw20] at e1_46
      rw [if_neg (fun z => hw20 z.1)] at e2_46
      have hk046 := Sk_b β (n := n) (c := (η20 5)) (by omega)
      have hk146 := Rl_b β (n := n) (c := (η20 5)) (by omega)
      have hk346 := RFol_b β δ n (η20 5)
      have hfz46 := fnS_r hI (rW β n (η20 5))
      have hw46 : ¬ η46 1 = 0 := by omega
      refine lv_istore_n (pc := 49) (lv' := [(3, .int (iI (fnS δ (rW β n (η20 5)) 0))), (1, .long (iL (rW β n (η16 5)))), (0, .ref (o 0))]) E.1 E.2 dX5_readFolder_49 rfl hl (by decide) rfl (fun ls hl => ?_)
      refine lv_aload_n (pc := 50) E.1 E.2 dX5_readFolder_50 rfl (lv_at hl 2 rfl) ?_
      refine g5_1 (pc := 51) E hts hin5 hown hK hR.ob (hts _ (List.mem_of_getElem? (i := 3) rfl)) dX5_readFolder_51 ?_
      refine z_if_ne (pc := 54) (tgt := 69) E ⟨by omega, by omega⟩ dX5_readFolder_54 (by decide) (fun h54 => ?_) (fun h54 => ?_)
      · exact z_retWv (P1 := fun H9 : Heap => ∃ (η1 δ1 : Int → Int), RD G o η1 δ1 (fun j => sg8 (β j)) H9 ∧ (xFld β n δ c = 0 → η1 1 = 0 ∧ η1 5 = cFld β n c ∧ η1 2 = η 2 ∧ δ1 = fFld β n δ c) ∧ (¬ xFld β n δ c = 0 → η1 1 = xFld β n δ c ∧ η1 2 = pFld β n δ c) ∧ (-4 ≤ η1 1 ∧ η1 1 ≤ 0) ∧ (η1 4 = η 4) ∧ (In δ1) ∧ (0 ≤ η1 5 ∧ η1 5 ≤ n) ∧ (0 ≤ η1 6 ∧ η1 6 ≤ n)) E hr ⟨η46, δ, hR, (fun z => absurd z (by (try unfold xFld); (try unfold pFld); (try unfold cFld); omega)), (fun z => And.intro (by (try unfold xFld); (try unfold pFld); (try unfold cFld); omega) (by (try unfold xFld); (try unfold pFld); (try unfold cFld); omega)), (by first | rfl | (simp only [zu, Int.reduceEq, reduceIte]; done) | (simp only [zu, Int.reduceEq, reduceIte]; omega) | omega), (by first | rfl | (simp only [zu, Int.reduceEq, reduceIte]; done) | (simp only [zu, Int.reduceEq, reduceIte]; omega) | omega), hI, (by first | rfl | (simp only [zu, Int.reduceEq, reduceIte]; done) | (simp only [zu, Int.reduceEq, reduceIte]; omega) | omega), (by first | rfl | (simp only [zu, Int.reduceEq, reduceIte]; done) | (simp only [zu, Int.reduceEq, reduceIte]; omega) | omega)⟩ hS hlocks dX5_readFolder_69
      · exact absurd h54 (by first | exact hw46 | exact fun q => hw46 q | omega)
    · refine lv_aload_n (pc := 39) E.1 E.2 dX5_readFolder_39 rfl (lv_at hl 1 rfl) ?_
      refine z_bipush (pc := 40) E (by decide) dX5_readFolder_40 ?_
      refine z_wVv (pc := 42) (P1 := fun H9 : Heap => ∃ (η42 : Int → Int), RD G o η42 δ (fun j => sg8 (β j)) H9 ∧ (η42 1 = if η20 1 = 0 then (-3) else η20 1) ∧ (η42 2 = if η20 1 = 0 then η20 6 else η20 2) ∧ (η42 4 = η20 4) ∧ (η42 5 = η20 5) ∧ (η42 6 = η20 6)) (As := [.int (iI (-3))]) (rest := []) E hml hown hts (mX5_fail lL G o η20 δ β (-3) (by omega) (by omega)) (cwV 1 hts gX5_readFolder_X5_fail rfl rfl rfl vdX5_fail ⟨Nat.le_of_ble_eq_true rfl, Nat.le_of_ble_eq_true rfl⟩) (oB.recv hK hR.ob rfl) hR hK hS (fun _ h => h) rfl hl.1 rfl dX5_readFolder_42 hcs (Nat.le_of_ble_eq_true rfl) (fun H locs hnew hsz hoth hS => ?_)
      obtain ⟨η42, hR, e1_42, e2_42, e4_42, e5_42, e6_42⟩ := hnew
      rw [if_neg hw20] at e1_42
      rw [if_neg hw20] at e2_42
      have hw42 : ¬ η42 1 = 0 := by omega
      refine lv_aload_n (pc := 45) E.1 E.2 dX5_readFolder_45 rfl (lv_at hl 1 rfl) ?_
      refine z_wVi (pc := 46) (P1 := fun H9 : Heap => ∃ (η46 : Int → Int), RD G o η46 δ (fun j => sg8 (β j)) H9 ∧ (η46 1 = if η42 1 = 0 then RFol β n δ (η42 5) else η42 1) ∧ (η46 2 = if η42 1 = 0 ∧ ¬ RFol β n δ (η42 5) = 0 then Sk β n (η42 5) else η42 2) ∧ (-4 ≤ η46 1 ∧ η46 1 ≤ 0) ∧ (η46 4 = η42 4) ∧ (η46 5 = Rl β n (η42 5)) ∧ (η46 6 = Sk β n (η42 5)) ∧ (0 ≤ η46 5 ∧ η46 5 ≤ n) ∧ (0 ≤ η46 6 ∧ η46 6 ≤ n)) (As := []) (rest := []) E hml hown hts (mX5_readFolderName lL G o η42 δ β n (η42 5) (by omega) hb (by omega) (by omega) (by omega) (by omega) hI (by omega) (by first | rfl | assumption | exact Sk_Sk _ _ _ | (congr 1 <;> omega))) (cwV 0 hts gX5_readFolder_X5_readFolderName rfl rfl rfl vdX5_readFolderName ⟨Nat.le_of_ble_eq_true rfl, Nat.le_of_ble_eq_true rfl⟩) (oB.recv hK hR.ob rfl) hR hK hS (fun _ h => h) rfl hl.1 rfl dX5_readFolder_46 hcs (Nat.le_of_ble_eq_true rfl) (fun H locs hnew hsz hoth hS => ?_)
      obtain ⟨η46, hR, e1_46, e2_46, b1_46, e4_46, e5_46, e6_46, b5_46, b6_46⟩ := hnew
      rw [if_neg hw42] at e1_46
      rw [if_neg (fun z => hw42 z.1)] at e2_46
      have hk046 := Sk_b β (n := n) (c := (η42 5)) (by omega)
      have hk146 := Rl_b β (n := n) (c := (η42 5)) (by omega)
      have hk346 := RFol_b β δ n (η42 5)
      have hfz46 := fnS_r hI (rW β n (η42 5))
      have hw46 : ¬ η46 1 = 0 := by omega
      refine lv_istore_n (pc := 49) (lv' := [(3, .int (iI (fnS δ (rW β n (η42 5)) 0))), (1, .long (iL (rW β n (η16 5)))), (0, .ref (o 0))]) E.1 E.2 dX5_readFolder_49 rfl hl (by decide) rfl (fun ls hl => ?_)
      refine lv_aload_n (pc := 50) E.1 E.2 dX5_readFolder_50 rfl (lv_at hl 2 rfl) ?_
      refine g5_1 (pc := 51) E hts hin5 hown hK hR.ob (hts _ (List.mem_of_getElem? (i := 3) rfl)) dX5_readFolder_51 ?_
      refine z_if_ne (pc := 54) (tgt := 69) E ⟨by omega, by omega⟩ dX5_readFolder_54 (by decide) (fun h54 => ?_) (fun h54 => ?_)
      · exact z_retWv (P1 := fun H9 : Heap => ∃ (η1 δ1 : Int → Int), RD G o η1 δ1 (fun j => sg8 (β j)) H9 ∧ (xFld β n δ c = 0 → η1 1 = 0 ∧ η1 5 = cFld β n c ∧ η1 2 = η 2 ∧ δ1 = fFld β n δ c) ∧ (¬ xFld β n δ c = 0 → η1 1 = xFld β n δ c ∧ η1 2 = pFld β n δ c) ∧ (-4 ≤ η1 1 ∧ η1 1 ≤ 0) ∧ (η1 4 = η 4) ∧ (In δ1) ∧ (0 ≤ η1 5 ∧ η1 5 ≤ n) ∧ (0 ≤ η1 6 ∧ η1 6 ≤ n)) E hr ⟨η46, δ, hR, (fun z => absurd z (by (try unfold xFld); (try unfold pFld); (try unfold cFld); omega)), (fun z => And.intro (by (try unfold xFld); (try unfold pFld); (try unfold cFld); omega) (by (try unfold xFld); (try unfold pFld); (try unfold cFld); omega)), (by first | rfl | (simp only [zu, Int.reduceEq, reduceIte]; done) | (simp only [zu, Int.reduceEq, reduceIte]; omega) | omega), (by first | rfl | (simp only [zu, Int.reduceEq, reduceIte]; done) | (simp only [zu, Int.reduceEq, reduceIte]; omega) | omega), hI, (by first | rfl | (simp only [zu, Int.reduceEq, reduceIte]; done) | (simp only [zu, Int.reduceEq, reduceIte]; omega) | omega), (by first | rfl | (simp only [zu, Int.reduceEq, reduceIte]; done) | (simp only [zu, Int.reduceEq, reduceIte]; omega) | omega)⟩ hS hlocks dX5_readFolder_69
      · exact absurd h54 (by first | exact hw46 | exact fun q => hw46 q | omega)
set_option maxHeartbeats 4000000 in
set_option maxRecDepth 100000 in
theorem mX5_readFolderN (lL : Launch) (G : GG) (o : Nat → Nat) (η δ β : Int → Int) (n : Int) (h1 : -4 ≤ η 1 ∧ η 1 ≤ 0) (hb : TX β) (hn : 0 ≤ n ∧ n ≤ 900) (h4 : η 4 = n) (h5 : 0 ≤ η 5 ∧ η 5 ≤ n) (h6 : 0 ≤ η 6 ∧ η 6 ≤ n) (hI : In δ) (hw : ¬ η 1 = 0) : Met lL yX5_readFolder wsX5_readFolder ({ frames := 3, cells := 0, slots := 0, locals := 65 } : Room) (va_Pc [.ref (o 0)] (fun U => RD G o η δ (fun j => sg8 (β j)) U.heap ∧ KK G U)) (va_Qv (fun _ : Unit => True) (fun _ tZ => ∃ (η1 : Int → Int), RD G o η1 δ (fun j => sg8 (β j)) tZ.heap ∧ (η1 1 = η 1) ∧ (η1 2 = η 2) ∧ (η1 4 = η 4) ∧ (0 ≤ η1 5 ∧ η1 5 ≤ n) ∧ (0 ≤ η1 6 ∧ η1 6 ≤ n)) (Ax o 20)) 0 0 (Ax o 20) := by
  refine z_met (P := (fun H : Heap => RD G o η δ (fun j => sg8 (β j)) H)) (by decide) rfl (Nat.le_of_ble_eq_true rfl) (fun pp ee ss mm below meth cC E hr hml hown hts hlocks hR hK ls hl => ?_)
  have hl : lv_has ls 4 [(0, .ref (o 0))] := hl
  have hcs : 0 ≤ (({ frames := 3, cells := 0, slots := 0, locals := 65 } : Room)).cells ∧ 0 ≤ (({ frames := 3, cells := 0, slots := 0, locals := 65 } : Room)).slots := ⟨Nat.zero_le _, Nat.zero_le _⟩
  have hS : va_S (Ax o 20) ss.heap ss.heap [] := va_S.rf
  have hin5 : ∀ w ∈ wsX50, w ∈ wsX5_readFolder := fun w h => List.mem_cons_of_mem _ (List.mem_append_left _ (List.mem_append_left _ (List.mem_append_right _ (h))))
  have hin6 : ∀ w ∈ wsX60, w ∈ wsX5_readFolder := fun w h => List.mem_cons_of_mem _ (List.mem_append_left _ (List.mem_append_right _ (h)))
  have hF := hI.F
  have hMm := hI.M
  have hGn := hI.Gn
  refine lv_aload_n (pc := 0) E.1 E.2 dX5_readFolder_0 rfl (lv_at hl 0 rfl) ?_
  refine g5_0 (pc := 1) E hts hin5 hown hK hR.ob (hts _ (List.mem_of_getElem? (i := 1) rfl)) dX5_readFolder_1 ?_
  refine g6_0 (pc := 4) E hts hin6 hown hK hR.dob (hts _ (List.mem_of_getElem? (i := 2) rfl)) dX5_readFolder_4 ?_
  refine z_rVi (pc := 7) (As := []) (rest := []) E hml hown hts (mX3_isFull lL G (fun k => o (2 + (1 + k))) δ  hI) (cwV 0 hts gX5_readFolder_X3_isFull rfl rfl rfl vdX3_isFull ⟨Nat.le_of_ble_eq_true rfl, Nat.le_of_ble_eq_true rfl⟩) (oB.recv hK hR.foo rfl) hR.dra.fo hK rfl hl.1 rfl dX5_readFolder_7 hcs (Nat.le_of_ble_eq_true rfl) ?_
  refine z_ifb_eq (pc := 10) (tgt := 19) E dX5_readFolder_10 (by decide) (fun h10 => ?_) (fun h10 => ?_)
  · refine lv_aload_n (pc := 19) E.1 E.2 dX5_readFolder_19 rfl (lv_at hl 0 rfl) ?_
    refine z_wVl (pc := 20) (P1 := fun H9 : Heap => ∃ (η20 : Int → Int), RD G o η20 δ (fun j => sg8 (β j)) H9 ∧ (η20 1 = if η 1 = 0 then RWd β n (η 5) else η 1) ∧ (η20 2 = if η 1 = 0 ∧ ¬ RWd β n (η 5) = 0 then Sk β n (η 5) else η 2) ∧ (-4 ≤ η20 1 ∧ η20 1 ≤ 0) ∧ (η20 4 = η 4) ∧ (η20 5 = Rl β n (η 5)) ∧ (η20 6 = Sk β n (η 5)) ∧ (0 ≤ η20 5 ∧ η20 5 ≤ n) ∧ (0 ≤ η20 6 ∧ η20 6 ≤ n)) (As := []) (rest := []) E hml hown hts (mX5_readWord lL G o η δ β n (η 5) (by omega) hb (by omega) (by omega) (by omega) (by omega) (by omega) (by first | rfl | assumption | exact Sk_Sk _ _ _ | (congr 1 <;> omega))) (cwV 0 hts gX5_readFolder_X5_readWord rfl rfl rfl vdX5_readWord ⟨Nat.le_of_ble_eq_true rfl, Nat.le_of_ble_eq_true rfl⟩) (oB.recv hK hR.ob rfl) hR hK hS (fun _ h => h) rfl hl.1 rfl dX5_readFolder_20 hcs (Nat.le_of_ble_eq_true rfl) (fun H locs hnew hsz hoth hS => ?_)
    obtain ⟨η20, hR, e1_20, e2_20, b1_20, e4_20, e5_20, e6_20, b5_20, b6_20⟩ := hnew
    rw [if_neg hw] at e1_20
    rw [if_neg (fun z => hw z.1)] at e2_20
    have hk020 := Sk_b β (n := n) (c := (η 5)) (by omega)
    have hk120 := Rl_b β (n := n) (c := (η 5)) (by omega)
    have hk220 := RWd_i (b := β) (n := n) (c := (η 5)) (by omega)
    have hk320 := RWd_b β n (η 5)
    have hk420 := rW_b β n (η 5)
    have hw20 : ¬ η20 1 = 0 := by omega
    refine lv_lstore_n (pc := 23) (lv' := [(1, .long (iL (rW β n (η 5)))), (0, .ref (o 0))]) E.1 E.2 dX5_readFolder_23 rfl hl (by decide) rfl (fun ls hl => ?_)
    refine lv_aload_n (pc := 24) E.1 E.2 dX5_readFolder_24 rfl (lv_at hl 1 rfl) ?_
    refine g5_0 (pc := 25) E hts hin5 hown hK hR.ob (hts _ (List.mem_of_getElem? (i := 1) rfl)) dX5_readFolder_25 ?_
    refine g6_0 (pc := 28) E hts hin6 hown hK hR.dob (hts _ (List.mem_of_getElem? (i := 2) rfl)) dX5_readFolder_28 ?_
    refine lv_lload_n (pc := 31) E.1 E.2 dX5_readFolder_31 rfl (lv_at hl 0 rfl) ?_
    refine z_rVi (pc := 32) (As := [.long (iL (rW β n (η 5)))]) (rest := []) E hml hown hts (mX3_numberOf lL G (fun k => o (2 + (1 + k))) δ (rW β n (η 5)) hI (by omega)) (cwV 1 hts gX5_readFolder_X3_numberOf rfl rfl rfl vdX3_numberOf ⟨Nat.le_of_ble_eq_true rfl, Nat.le_of_ble_eq_true rfl⟩) (oB.recv hK hR.foo rfl) hR.dra.fo hK rfl hl.1 rfl dX5_readFolder_32 hcs (Nat.le_of_ble_eq_true rfl) ?_
    have hfz32 := fnS_r hI ((rW β n (η 5)))
    refine z_iconst (pc := 35) E dX5_readFolder_35 ?_
    refine z_icmp_eq (pc := 36) (tgt := 45) E ⟨by omega, by omega⟩ (by decide) dX5_readFolder_36 (by decide) (fun h36 => ?_) (fun h36 => ?_)
    · refine lv_aload_n (pc := 45) E.1 E.2 dX5_readFolder_45 rfl (lv_at hl 1 rfl) ?_
      refine z_wVi (pc := 46) (P1 := fun H9 : Heap => ∃ (η46 : Int → Int), RD G o η46 δ (fun j => sg8 (β j)) H9 ∧ (η46 1 = if η20 1 = 0 then RFol β n δ (η20 5) else η20 1) ∧ (η46 2 = if η20 1 = 0 ∧ ¬ RFol β n δ (η20 5) = 0 then Sk β n (η20 5) else η20 2) ∧ (-4 ≤ η46 1 ∧ η46 1 ≤ 0) ∧ (η46 4 = η20 4) ∧ (η46 5 = Rl β n (η20 5)) ∧ (η46 6 = Sk β n (η20 5)) ∧ (0 ≤ η46 5 ∧ η46 5 ≤ n) ∧ (0 ≤ η46 6 ∧ η46 6 ≤ n)) (As := []) (rest := []) E hml hown hts (mX5_readFolderName lL G o η20 δ β n (η20 5) (by omega) hb (by omega) (by omega) (by omega) (by omega) hI (by omega) (by first | rfl | assumption | exact Sk_Sk _ _ _ | (congr 1 <;> omega))) (cwV 0 hts gX5_readFolder_X5_readFolderName rfl rfl rfl vdX5_readFolderName ⟨Nat.le_of_ble_eq_true rfl, Nat.le_of_ble_eq_true rfl⟩) (oB.recv hK hR.ob rfl) hR hK hS (fun _ h => h) rfl hl.1 rfl dX5_readFolder_46 hcs (Nat.le_of_ble_eq_true rfl) (fun H locs hnew hsz hoth hS => ?_)
      obtain ⟨η46, hR, e1_46, e2_46, b1_46, e4_46, e5_46, e6_46, b5_46, b6_46⟩ := hnew
      rw [if_neg hw20] at e1_46
      rw [if_neg (fun z => hw20 z.1)] at e2_46
      have hk046 := Sk_b β (n := n) (c := (η20 5)) (by omega)
      have hk146 := Rl_b β (n := n) (c := (η20 5)) (by omega)
      have hk346 := RFol_b β δ n (η20 5)
      have hfz46 := fnS_r hI (rW β n (η20 5))
      have hw46 : ¬ η46 1 = 0 := by omega
      refine lv_istore_n (pc := 49) (lv' := [(3, .int (iI (fnS δ (rW β n (η20 5)) 0))), (1, .long (iL (rW β n (η 5)))), (0, .ref (o 0))]) E.1 E.2 dX5_readFolder_49 rfl hl (by decide) rfl (fun ls hl => ?_)
      refine lv_aload_n (pc := 50) E.1 E.2 dX5_readFolder_50 rfl (lv_at hl 2 rfl) ?_
      refine g5_1 (pc := 51) E hts hin5 hown hK hR.ob (hts _ (List.mem_of_getElem? (i := 3) rfl)) dX5_readFolder_51 ?_
      refine z_if_ne (pc := 54) (tgt := 69) E ⟨by omega, by omega⟩ dX5_readFolder_54 (by decide) (fun h54 => ?_) (fun h54 => ?_)
      · exact z_retWv (P1 := fun H9 : Heap => ∃ (η1 : Int → Int), RD G o η1 δ (fun j => sg8 (β j)) H9 ∧ (η1 1 = η 1) ∧ (η1 2 = η 2) ∧ (η1 4 = η 4) ∧ (0 ≤ η1 5 ∧ η1 5 ≤ n) ∧ (0 ≤ η1 6 ∧ η1 6 ≤ n)) E hr ⟨η46, hR, (by first | rfl | (simp only [zu, Int.reduceEq, reduceIte]; done) | (simp only [zu, Int.reduceEq, reduceIte]; omega) | omega), (by first | rfl | (simp only [zu, Int.reduceEq, reduceIte]; done) | (simp only [zu, Int.reduceEq, reduceIte]; omega) | omega), (by first | rfl | (simp only [zu, Int.reduceEq, reduceIte]; done) | (simp only [zu, Int.reduceEq, reduceIte]; omega) | omega), (by first | rfl | (simp only [zu, Int.reduceEq, reduceIte]; done) | (simp only [zu, Int.reduceEq, reduceIte]; omega) | omega), (by first | rfl | (simp only [zu, Int.reduceEq, reduceIte]; done) | (simp only [zu, Int.reduceEq, reduceIte]; omega) | omega)⟩ hS hlocks dX5_readFolder_69
      · exact absurd h54 (by first | exact hw46 | exact fun q => hw46 q | omega)
    · refine lv_aload_n (pc := 39) E.1 E.2 dX5_readFolder_39 rfl (lv_at hl 1 rfl) ?_
      refine z_bipush (pc := 40) E (by decide) dX5_readFolder_40 ?_
      refine z_wVv (pc := 42) (P1 := fun H9 : Heap => ∃ (η42 : Int → Int), RD G o η42 δ (fun j => sg8 (β j)) H9 ∧ (η42 1 = if η20 1 = 0 then (-3) else η20 1) ∧ (η42 2 = if η20 1 = 0 then η20 6 else η20 2) ∧ (η42 4 = η20 4) ∧ (η42 5 = η20 5) ∧ (η42 6 = η20 6)) (As := [.int (iI (-3))]) (rest := []) E hml hown hts (mX5_fail lL G o η20 δ β (-3) (by omega) (by omega)) (cwV 1 hts gX5_readFolder_X5_fail rfl rfl rfl vdX5_fail ⟨Nat.le_of_ble_eq_true rfl, Nat.le_of_ble_eq_true rfl⟩) (oB.recv hK hR.ob rfl) hR hK hS (fun _ h => h) rfl hl.1 rfl dX5_readFolder_42 hcs (Nat.le_of_ble_eq_true rfl) (fun H locs hnew hsz hoth hS => ?_)
      obtain ⟨η42, hR, e1_42, e2_42, e4_42, e5_42, e6_42⟩ := hnew
      rw [if_neg hw20] at e1_42
      rw [if_neg hw20] at e2_42
      have hw42 : ¬ η42 1 = 0 := by omega
      refine lv_aload_n (pc := 45) E.1 E.2 dX5_readFolder_45 rfl (lv_at hl 1 rfl) ?_
      refine z_wVi (pc := 46) (P1 := fun H9 : Heap => ∃ (η46 : Int → Int), RD G o η46 δ (fun j => sg8 (β j)) H9 ∧ (η46 1 = if η42 1 = 0 then RFol β n δ (η42 5) else η42 1) ∧ (η46 2 = if η42 1 = 0 ∧ ¬ RFol β n δ (η42 5) = 0 then Sk β n (η42 5) else η42 2) ∧ (-4 ≤ η46 1 ∧ η46 1 ≤ 0) ∧ (η46 4 = η42 4) ∧ (η46 5 = Rl β n (η42 5)) ∧ (η46 6 = Sk β n (η42 5)) ∧ (0 ≤ η46 5 ∧ η46 5 ≤ n) ∧ (0 ≤ η46 6 ∧ η46 6 ≤ n)) (As := []) (rest := []) E hml hown hts (mX5_readFolderName lL G o η42 δ β n (η42 5) (by omega) hb (by omega) (by omega) (by omega) (by omega) hI (by omega) (by first | rfl | assumption | exact Sk_Sk _ _ _ | (congr 1 <;> omega))) (cwV 0 hts gX5_readFolder_X5_readFolderName rfl rfl rfl vdX5_readFolderName ⟨Nat.le_of_ble_eq_true rfl, Nat.le_of_ble_eq_true rfl⟩) (oB.recv hK hR.ob rfl) hR hK hS (fun _ h => h) rfl hl.1 rfl dX5_readFolder_46 hcs (Nat.le_of_ble_eq_true rfl) (fun H locs hnew hsz hoth hS => ?_)
      obtain ⟨η46, hR, e1_46, e2_46, b1_46, e4_46, e5_46, e6_46, b5_46, b6_46⟩ := hnew
      rw [if_neg hw42] at e1_46
      rw [if_neg (fun z => hw42 z.1)] at e2_46
      have hk046 := Sk_b β (n := n) (c := (η42 5)) (by omega)
      have hk146 := Rl_b β (n := n) (c := (η42 5)) (by omega)
      have hk346 := RFol_b β δ n (η42 5)
      have hfz46 := fnS_r hI (rW β n (η42 5))
      have hw46 : ¬ η46 1 = 0 := by omega
      refine lv_istore_n (pc := 49) (lv' := [(3, .int (iI (fnS δ (rW β n (η42 5)) 0))), (1, .long (iL (rW β n (η 5)))), (0, .ref (o 0))]) E.1 E.2 dX5_readFolder_49 rfl hl (by decide) rfl (fun ls hl => ?_)
      refine lv_aload_n (pc := 50) E.1 E.2 dX5_readFolder_50 rfl (lv_at hl 2 rfl) ?_
      refine g5_1 (pc := 51) E hts hin5 hown hK hR.ob (hts _ (List.mem_of_getElem? (i := 3) rfl)) dX5_readFolder_51 ?_
      refine z_if_ne (pc := 54) (tgt := 69) E ⟨by omega, by omega⟩ dX5_readFolder_54 (by decide) (fun h54 => ?_) (fun h54 => ?_)
      · exact z_retWv (P1 := fun H9 : Heap => ∃ (η1 : Int → Int), RD G o η1 δ (fun j => sg8 (β j)) H9 ∧ (η1 1 = η 1) ∧ (η1 2 = η 2) ∧ (η1 4 = η 4) ∧ (0 ≤ η1 5 ∧ η1 5 ≤ n) ∧ (0 ≤ η1 6 ∧ η1 6 ≤ n)) E hr ⟨η46, hR, (by first | rfl | (simp only [zu, Int.reduceEq, reduceIte]; done) | (simp only [zu, Int.reduceEq, reduceIte]; omega) | omega), (by first | rfl | (simp only [zu, Int.reduceEq, reduceIte]; done) | (simp only [zu, Int.reduceEq, reduceIte]; omega) | omega), (by first | rfl | (simp only [zu, Int.reduceEq, reduceIte]; done) | (simp only [zu, Int.reduceEq, reduceIte]; omega) | omega), (by first | rfl | (simp only [zu, Int.reduceEq, reduceIte]; done) | (simp only [zu, Int.reduceEq, reduceIte]; omega) | omega), (by first | rfl | (simp only [zu, Int.reduceEq, reduceIte]; done) | (simp only [zu, Int.reduceEq, reduceIte]; omega) | omega)⟩ hS hlocks dX5_readFolder_69
      · exact absurd h54 (by first | exact hw46 | exact fun q => hw46 q | omega)
  · refine lv_aload_n (pc := 13) E.1 E.2 dX5_readFolder_13 rfl (lv_at hl 0 rfl) ?_
    refine z_bipush (pc := 14) E (by decide) dX5_readFolder_14 ?_
    refine z_wVv (pc := 16) (P1 := fun H9 : Heap => ∃ (η16 : Int → Int), RD G o η16 δ (fun j => sg8 (β j)) H9 ∧ (η16 1 = if η 1 = 0 then (-4) else η 1) ∧ (η16 2 = if η 1 = 0 then η 6 else η 2) ∧ (η16 4 = η 4) ∧ (η16 5 = η 5) ∧ (η16 6 = η 6)) (As := [.int (iI (-4))]) (rest := []) E hml hown hts (mX5_fail lL G o η δ β (-4) (by omega) (by omega)) (cwV 1 hts gX5_readFolder_X5_fail rfl rfl rfl vdX5_fail ⟨Nat.le_of_ble_eq_true rfl, Nat.le_of_ble_eq_true rfl⟩) (oB.recv hK hR.ob rfl) hR hK hS (fun _ h => h) rfl hl.1 rfl dX5_readFolder_16 hcs (Nat.le_of_ble_eq_true rfl) (fun H locs hnew hsz hoth hS => ?_)
    obtain ⟨η16, hR, e1_16, e2_16, e4_16, e5_16, e6_16⟩ := hnew
    rw [if_neg hw] at e1_16
    rw [if_neg hw] at e2_16
    have hw16 : ¬ η16 1 = 0 := by omega
    refine lv_aload_n (pc := 19) E.1 E.2 dX5_readFolder_19 rfl (lv_at hl 0 rfl) ?_
    refine z_wVl (pc := 20) (P1 := fun H9 : Heap => ∃ (η20 : Int → Int), RD G o η20 δ (fun j => sg8 (β j)) H9 ∧ (η20 1 = if η16 1 = 0 then RWd β n (η16 5) else η16 1) ∧ (η20 2 = if η16 1 = 0 ∧ ¬ RWd β n (η16 5) = 0 then Sk β n (η16 5) else η16 2) ∧ (-4 ≤ η20 1 ∧ η20 1 ≤ 0) ∧ (η20 4 = η16 4) ∧ (η20 5 = Rl β n (η16 5)) ∧ (η20 6 = Sk β n (η16 5)) ∧ (0 ≤ η20 5 ∧ η20 5 ≤ n) ∧ (0 ≤ η20 6 ∧ η20 6 ≤ n)) (As := []) (rest := []) E hml hown hts (mX5_readWord lL G o η16 δ β n (η16 5) (by omega) hb (by omega) (by omega) (by omega) (by omega) (by omega) (by first | rfl | assumption | exact Sk_Sk _ _ _ | (congr 1 <;> omega))) (cwV 0 hts gX5_readFolder_X5_readWord rfl rfl rfl vdX5_readWord ⟨Nat.le_of_ble_eq_true rfl, Nat.le_of_ble_eq_true rfl⟩) (oB.recv hK hR.ob rfl) hR hK hS (fun _ h => h) rfl hl.1 rfl dX5_readFolder_20 hcs (Nat.le_of_ble_eq_true rfl) (fun H locs hnew hsz hoth hS => ?_)
    obtain ⟨η20, hR, e1_20, e2_20, b1_20, e4_20, e5_20, e6_20, b5_20, b6_20⟩ := hnew
    rw [if_neg hw16] at e1_20
    rw [if_neg (fun z => hw16 z.1)] at e2_20
    have hk020 := Sk_b β (n := n) (c := (η16 5)) (by omega)
    have hk120 := Rl_b β (n := n) (c := (η16 5)) (by omega)
    have hk220 := RWd_i (b := β) (n := n) (c := (η16 5)) (by omega)
    have hk320 := RWd_b β n (η16 5)
    have hk420 := rW_b β n (η16 5)
    have hw20 : ¬ η20 1 = 0 := by omega
    refine lv_lstore_n (pc := 23) (lv' := [(1, .long (iL (rW β n (η16 5)))), (0, .ref (o 0))]) E.1 E.2 dX5_readFolder_23 rfl hl (by decide) rfl (fun ls hl => ?_)
    refine lv_aload_n (pc := 24) E.1 E.2 dX5_readFolder_24 rfl (lv_at hl 1 rfl) ?_
    refine g5_0 (pc := 25) E hts hin5 hown hK hR.ob (hts _ (List.mem_of_getElem? (i := 1) rfl)) dX5_readFolder_25 ?_
    refine g6_0 (pc := 28) E hts hin6 hown hK hR.dob (hts _ (List.mem_of_getElem? (i := 2) rfl)) dX5_readFolder_28 ?_
    refine lv_lload_n (pc := 31) E.1 E.2 dX5_readFolder_31 rfl (lv_at hl 0 rfl) ?_
    refine z_rVi (pc := 32) (As := [.long (iL (rW β n (η16 5)))]) (rest := []) E hml hown hts (mX3_numberOf lL G (fun k => o (2 + (1 + k))) δ (rW β n (η16 5)) hI (by omega)) (cwV 1 hts gX5_readFolder_X3_numberOf rfl rfl rfl vdX3_numberOf ⟨Nat.le_of_ble_eq_true rfl, Nat.le_of_ble_eq_true rfl⟩) (oB.recv hK hR.foo rfl) hR.dra.fo hK rfl hl.1 rfl dX5_readFolder_32 hcs (Nat.le_of_ble_eq_true rfl) ?_
    have hfz32 := fnS_r hI ((rW β n (η16 5)))
    refine z_iconst (pc := 35) E dX5_readFolder_35 ?_
    refine z_icmp_eq (pc := 36) (tgt := 45) E ⟨by omega, by omega⟩ (by decide) dX5_readFolder_36 (by decide) (fun h36 => ?_) (fun h36 => ?_)
    · refine lv_aload_n (pc := 45) E.1 E.2 dX5_readFolder_45 rfl (lv_at hl 1 rfl) ?_
      refine z_wVi (pc := 46) (P1 := fun H9 : Heap => ∃ (η46 : Int → Int), RD G o η46 δ (fun j => sg8 (β j)) H9 ∧ (η46 1 = if η20 1 = 0 then RFol β n δ (η20 5) else η20 1) ∧ (η46 2 = if η20 1 = 0 ∧ ¬ RFol β n δ (η20 5) = 0 then Sk β n (η20 5) else η20 2) ∧ (-4 ≤ η46 1 ∧ η46 1 ≤ 0) ∧ (η46 4 = η20 4) ∧ (η46 5 = Rl β n (η20 5)) ∧ (η46 6 = Sk β n (η20 5)) ∧ (0 ≤ η46 5 ∧ η46 5 ≤ n) ∧ (0 ≤ η46 6 ∧ η46 6 ≤ n)) (As := []) (rest := []) E hml hown hts (mX5_readFolderName lL G o η20 δ β n (η20 5) (by omega) hb (by omega) (by omega) (by omega) (by omega) hI (by omega) (by first | rfl | assumption | exact Sk_Sk _ _ _ | (congr 1 <;> omega))) (cwV 0 hts gX5_readFolder_X5_readFolderName rfl rfl rfl vdX5_readFolderName ⟨Nat.le_of_ble_eq_true rfl, Nat.le_of_ble_eq_true rfl⟩) (oB.recv hK hR.ob rfl) hR hK hS (fun _ h => h) rfl hl.1 rfl dX5_readFolder_46 hcs (Nat.le_of_ble_eq_true rfl) (fun H locs hnew hsz hoth hS => ?_)
      obtain ⟨η46, hR, e1_46, e2_46, b1_46, e4_46, e5_46, e6_46, b5_46, b6_46⟩ := hnew
      rw [if_neg hw20] at e1_46
      rw [if_neg (fun z => hw20 z.1)] at e2_46
      have hk046 := Sk_b β (n := n) (c := (η20 5)) (by omega)
      have hk146 := Rl_b β (n := n) (c := (η20 5)) (by omega)
      have hk346 := RFol_b β δ n (η20 5)
      have hfz46 := fnS_r hI (rW β n (η20 5))
      have hw46 : ¬ η46 1 = 0 := by omega
      refine lv_istore_n (pc := 49) (lv' := [(3, .int (iI (fnS δ (rW β n (η20 5)) 0))), (1, .long (iL (rW β n (η16 5)))), (0, .ref (o 0))]) E.1 E.2 dX5_readFolder_49 rfl hl (by decide) rfl (fun ls hl => ?_)
      refine lv_aload_n (pc := 50) E.1 E.2 dX5_readFolder_50 rfl (lv_at hl 2 rfl) ?_
      refine g5_1 (pc := 51) E hts hin5 hown hK hR.ob (hts _ (List.mem_of_getElem? (i := 3) rfl)) dX5_readFolder_51 ?_
      refine z_if_ne (pc := 54) (tgt := 69) E ⟨by omega, by omega⟩ dX5_readFolder_54 (by decide) (fun h54 => ?_) (fun h54 => ?_)
      · exact z_retWv (P1 := fun H9 : Heap => ∃ (η1 : Int → Int), RD G o η1 δ (fun j => sg8 (β j)) H9 ∧ (η1 1 = η 1) ∧ (η1 2 = η 2) ∧ (η1 4 = η 4) ∧ (0 ≤ η1 5 ∧ η1 5 ≤ n) ∧ (0 ≤ η1 6 ∧ η1 6 ≤ n)) E hr ⟨η46, hR, (by first | rfl | (simp only [zu, Int.reduceEq, reduceIte]; done) | (simp only [zu, Int.reduceEq, reduceIte]; omega) | omega), (by first | rfl | (simp only [zu, Int.reduceEq, reduceIte]; done) | (simp only [zu, Int.reduceEq, reduceIte]; omega) | omega), (by first | rfl | (simp only [zu, Int.reduceEq, reduceIte]; done) | (simp only [zu, Int.reduceEq, reduceIte]; omega) | omega), (by first | rfl | (simp only [zu, Int.reduceEq, reduceIte]; done) | (simp only [zu, Int.reduceEq, reduceIte]; omega) | omega), (by first | rfl | (simp only [zu, Int.reduceEq, reduceIte]; done) | (simp only [zu, Int.reduceEq, reduceIte]; omega) | omega)⟩ hS hlocks dX5_readFolder_69
      · exact absurd h54 (by first | exact hw46 | exact fun q => hw46 q | omega)
    · refine lv_aload_n (pc := 39) E.1 E.2 dX5_readFolder_39 rfl (lv_at hl 1 rfl) ?_
      refine z_bipush (pc := 40) E (by decide) dX5_readFolder_40 ?_
      refine z_wVv (pc := 42) (P1 := fun H9 : Heap => ∃ (η42 : Int → Int), RD G o η42 δ (fun j => sg8 (β j)) H9 ∧ (η42 1 = if η20 1 = 0 then (-3) else η20 1) ∧ (η42 2 = if η20 1 = 0 then η20 6 else η20 2) ∧ (η42 4 = η20 4) ∧ (η42 5 = η20 5) ∧ (η42 6 = η20 6)) (As := [.int (iI (-3))]) (rest := []) E hml hown hts (mX5_fail lL G o η20 δ β (-3) (by omega) (by omega)) (cwV 1 hts gX5_readFolder_X5_fail rfl rfl rfl vdX5_fail ⟨Nat.le_of_ble_eq_true rfl, Nat.le_of_ble_eq_true rfl⟩) (oB.recv hK hR.ob rfl) hR hK hS (fun _ h => h) rfl hl.1 rfl dX5_readFolder_42 hcs (Nat.le_of_ble_eq_true rfl) (fun H locs hnew hsz hoth hS => ?_)
      obtain ⟨η42, hR, e1_42, e2_42, e4_42, e5_42, e6_42⟩ := hnew
      rw [if_neg hw20] at e1_42
      rw [if_neg hw20] at e2_42
      have hw42 : ¬ η42 1 = 0 := by omega
      refine lv_aload_n (pc := 45) E.1 E.2 dX5_readFolder_45 rfl (lv_at hl 1 rfl) ?_
      refine z_wVi (pc := 46) (P1 := fun H9 : Heap => ∃ (η46 : Int → Int), RD G o η46 δ (fun j => sg8 (β j)) H9 ∧ (η46 1 = if η42 1 = 0 then RFol β n δ (η42 5) else η42 1) ∧ (η46 2 = if η42 1 = 0 ∧ ¬ RFol β n δ (η42 5) = 0 then Sk β n (η42 5) else η42 2) ∧ (-4 ≤ η46 1 ∧ η46 1 ≤ 0) ∧ (η46 4 = η42 4) ∧ (η46 5 = Rl β n (η42 5)) ∧ (η46 6 = Sk β n (η42 5)) ∧ (0 ≤ η46 5 ∧ η46 5 ≤ n) ∧ (0 ≤ η46 6 ∧ η46 6 ≤ n)) (As := []) (rest := []) E hml hown hts (mX5_readFolderName lL G o η42 δ β n (η42 5) (by omega) hb (by omega) (by omega) (by omega) (by omega) hI (by omega) (by first | rfl | assumption | exact Sk_Sk _ _ _ | (congr 1 <;> omega))) (cwV 0 hts gX5_readFolder_X5_readFolderName rfl rfl rfl vdX5_readFolderName ⟨Nat.le_of_ble_eq_true rfl, Nat.le_of_ble_eq_true rfl⟩) (oB.recv hK hR.ob rfl) hR hK hS (fun _ h => h) rfl hl.1 rfl dX5_readFolder_46 hcs (Nat.le_of_ble_eq_true rfl) (fun H locs hnew hsz hoth hS => ?_)
      obtain ⟨η46, hR, e1_46, e2_46, b1_46, e4_46, e5_46, e6_46, b5_46, b6_46⟩ := hnew
      rw [if_neg hw42] at e1_46
      rw [if_neg (fun z => hw42 z.1)] at e2_46
      have hk046 := Sk_b β (n := n) (c := (η42 5)) (by omega)
      have hk146 := Rl_b β (n := n) (c := (η42 5)) (by omega)
      have hk346 := RFol_b β δ n (η42 5)
      have hfz46 := fnS_r hI (rW β n (η42 5))
      have hw46 : ¬ η46 1 = 0 := by omega
      refine lv_istore_n (pc := 49) (lv' := [(3, .int (iI (fnS δ (rW β n (η42 5)) 0))), (1, .long (iL (rW β n (η16 5)))), (0, .ref (o 0))]) E.1 E.2 dX5_readFolder_49 rfl hl (by decide) rfl (fun ls hl => ?_)
      refine lv_aload_n (pc := 50) E.1 E.2 dX5_readFolder_50 rfl (lv_at hl 2 rfl) ?_
      refine g5_1 (pc := 51) E hts hin5 hown hK hR.ob (hts _ (List.mem_of_getElem? (i := 3) rfl)) dX5_readFolder_51 ?_
      refine z_if_ne (pc := 54) (tgt := 69) E ⟨by omega, by omega⟩ dX5_readFolder_54 (by decide) (fun h54 => ?_) (fun h54 => ?_)
      · exact z_retWv (P1 := fun H9 : Heap => ∃ (η1 : Int → Int), RD G o η1 δ (fun j => sg8 (β j)) H9 ∧ (η1 1 = η 1) ∧ (η1 2 = η 2) ∧ (η1 4 = η 4) ∧ (0 ≤ η1 5 ∧ η1 5 ≤ n) ∧ (0 ≤ η1 6 ∧ η1 6 ≤ n)) E hr ⟨η46, hR, (by first | rfl | (simp only [zu, Int.reduceEq, reduceIte]; done) | (simp only [zu, Int.reduceEq, reduceIte]; omega) | omega), (by first | rfl | (simp only [zu, Int.reduceEq, reduceIte]; done) | (simp only [zu, Int.reduceEq, reduceIte]; omega) | omega), (by first | rfl | (simp only [zu, Int.reduceEq, reduceIte]; done) | (simp only [zu, Int.reduceEq, reduceIte]; omega) | omega), (by first | rfl | (simp only [zu, Int.reduceEq, reduceIte]; done) | (simp only [zu, Int.reduceEq, reduceIte]; omega) | omega), (by first | rfl | (simp only [zu, Int.reduceEq, reduceIte]; done) | (simp only [zu, Int.reduceEq, reduceIte]; omega) | omega)⟩ hS hlocks dX5_readFolder_69
      · exact absurd h54 (by first | exact hw46 | exact fun q => hw46 q | omega)
