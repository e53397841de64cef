set_option maxHeartbeats 4000000 in
set_option maxRecDepth 100000 in
theorem mX5_readGraceZ (lL : Launch) (G : GG) (o : Nat → Nat) (η δ β : Int → Int) (n : Int) (c : Int) (h1 : -4 ≤ η 1 ∧ η 1 ≤ 0) (hb : TX β) (hn : 0 ≤ n ∧ n ≤ 900) (h4 : η 4 = n) (h5 : 0 ≤ η 5 ∧ η 5 ≤ n) (h6 : 0 ≤ η 6 ∧ η 6 ≤ n) (hI : In δ) (hw : η 1 = 0) (hc : 0 ≤ c ∧ c ≤ n) (ht6 : η 6 = Sk β n c) (hsk : Sk β n (η 5) = Sk β n (Te β n c)) : Met lL yX5_readGrace wsX5_readGrace ({ frames := 2, cells := 0, slots := 0, locals := 63 } : Room) (va_Pc [.ref (o 0)] (fun U => RD G o η δ (fun j => sg8 (β j)) U.heap ∧ KK G U)) (va_Qv (fun _ : Unit => True) (fun _ tZ => ∃ (η1 δ1 : Int → Int), RD G o η1 δ1 (fun j => sg8 (β j)) tZ.heap ∧ (xGr β n c = 0 → η1 1 = 0 ∧ η1 5 = Te β n (Te β n c) ∧ η1 2 = η 2 ∧ δ1 = zu δ 1 (Nm β n (Te β n c))) ∧ (¬ xGr β n c = 0 → η1 1 = xGr β n c ∧ η1 2 = Sk β n (Te β n c)) ∧ (-4 ≤ η1 1 ∧ η1 1 ≤ 0) ∧ (η1 4 = η 4) ∧ (In δ1) ∧ (0 ≤ η1 5 ∧ η1 5 ≤ n) ∧ (0 ≤ η1 6 ∧ η1 6 ≤ n)) (Ax o 20)) 0 0 (Ax o 20) := by
  refine z_met (P := (fun H : Heap => RD G o η δ (fun j => sg8 (β j)) H)) (by decide) rfl (Nat.le_of_ble_eq_true rfl) (fun pp ee ss mm below meth cC E hr hml hown hts hlocks hR hK ls hl => ?_)
  have hl : lv_has ls 2 [(0, .ref (o 0))] := hl
  have hcs : 0 ≤ (({ frames := 2, cells := 0, slots := 0, locals := 63 } : Room)).cells ∧ 0 ≤ (({ frames := 2, cells := 0, slots := 0, locals := 63 } : Room)).slots := ⟨Nat.zero_le _, Nat.zero_le _⟩
  have hS : va_S (Ax o 20) ss.heap ss.heap [] := va_S.rf
  have hin5 : ∀ w ∈ wsX50, w ∈ wsX5_readGrace := fun w h => List.mem_cons_of_mem _ (List.mem_append_left _ (List.mem_append_right _ (h)))
  have hin6 : ∀ w ∈ wsX60, w ∈ wsX5_readGrace := fun w h => List.mem_cons_of_mem _ (List.mem_append_right _ (h))
  have hF := hI.F
  have hMm := hI.M
  have hGn := hI.Gn
  have htc := Te_b β (n := n) (c := c) (by omega)
  have hskc := Sk_b β (n := n) (c := c) (by omega)
  refine lv_aload_n (pc := 0) E.1 E.2 dX5_readGrace_0 rfl (lv_at hl 0 rfl) ?_
  refine z_iconst (pc := 1) E dX5_readGrace_1 ?_
  refine z_bipush (pc := 2) E (by decide) dX5_readGrace_2 ?_
  refine z_wVi (pc := 4) (P1 := fun H9 : Heap => ∃ (η4 : Int → Int), RD G o η4 δ (fun j => sg8 (β j)) H9 ∧ (η4 1 = if η 1 = 0 then RNum β n (Te β n c) 1 99 else η 1) ∧ (η4 2 = if η 1 = 0 ∧ ¬ RNum β n (Te β n c) 1 99 = 0 then Sk β n (Te β n c) else η 2) ∧ (-4 ≤ η4 1 ∧ η4 1 ≤ 0) ∧ (η4 4 = η 4) ∧ (η4 5 = Rd β n (Te β n c)) ∧ (η4 6 = Sk β n (Te β n c)) ∧ (0 ≤ η4 5 ∧ η4 5 ≤ n) ∧ (0 ≤ η4 6 ∧ η4 6 ≤ n)) (As := [.int (iI 1), .int (iI 99)]) (rest := []) E hml hown hts (mX5_readNumber lL G o η δ β 1 99 n (Te β n c) (by omega) hb (by omega) (by omega) (by omega) (by omega) (by omega) (by first | rfl | assumption | exact Sk_Sk _ _ _ | (congr 1 <;> omega)) (by omega) (by omega)) (cwV 2 hts gX5_readGrace_X5_readNumber rfl rfl rfl vdX5_readNumber ⟨Nat.le_of_ble_eq_true rfl, Nat.le_of_ble_eq_true rfl⟩) (oB.recv hK hR.ob rfl) hR hK hS (fun _ h => h) rfl hl.1 rfl dX5_readGrace_4 hcs (Nat.le_of_ble_eq_true rfl) (fun H locs hnew hsz hoth hS => ?_)
  obtain ⟨η4, hR, e1_4, e2_4, b1_4, e4_4, e5_4, e6_4, b5_4, b6_4⟩ := hnew
  rw [if_pos hw] at e1_4
  have hk04 := Sk_b β (n := n) (c := (Te β n c)) (by omega)
  have hk14 := Rd_b β (n := n) (c := (Te β n c)) (by omega)
  have hk34 := RNum_b β n (Te β n c) 1 99
  have hk44 := rN_b (b := β) (n := n) (c := (Te β n c)) (by omega)
  by_cases hs4 : RNum β n (Te β n c) 1 99 = 0
  · rw [if_neg (fun z => z.2 hs4)] at e2_4
    have hw4 : η4 1 = 0 := by omega
    have ht4 := RNum_t (b := β) (n := n) (c := (Te β n c)) (by omega) (by omega) hs4
    have hu4 := RNum_0 hs4
    have htb4 := Te_b β (n := n) (c := (Te β n c)) (by omega)
    have h54 : η4 5 = Te β n (Te β n c) := by omega
    rw [ht4.2]
    refine lv_istore_n (pc := 7) (lv' := [(1, .int (iI (Nm β n (Te β n c)))), (0, .ref (o 0))]) E.1 E.2 dX5_readGrace_7 rfl hl (by decide) rfl (fun ls hl => ?_)
    refine lv_aload_n (pc := 8) E.1 E.2 dX5_readGrace_8 rfl (lv_at hl 1 rfl) ?_
    refine g5_1 (pc := 9) E hts hin5 hown hK hR.ob (hts _ (List.mem_of_getElem? (i := 1) rfl)) dX5_readGrace_9 ?_
    refine z_if_ne (pc := 12) (tgt := 23) E ⟨by omega, by omega⟩ dX5_readGrace_12 (by decide) (fun h12 => ?_) (fun h12 => ?_)
    · exact absurd h12 (by first | exact hw4 | exact fun q => hw4 q | omega)
    · refine lv_aload_n (pc := 15) E.1 E.2 dX5_readGrace_15 rfl (lv_at hl 1 rfl) ?_
      refine g5_0 (pc := 16) E hts hin5 hown hK hR.ob (hts _ (List.mem_of_getElem? (i := 2) rfl)) dX5_readGrace_16 ?_
      refine lv_iload_n (pc := 19) E.1 E.2 dX5_readGrace_19 rfl (lv_at hl 0 rfl) ?_
      refine p6_5 (pc := 20) E hts hin6 hown hK hR.dob hS (Ax.at 2 (by decide)) (hts _ (List.mem_of_getElem? (i := 3) rfl)) dX5_readGrace_20 (fun H locs hnew hoth hS => ?_)
      have hR := RD.upD hR (ST.upO hR.dra (τ := (zu δ 1 (Nm β n (Te β n c)))) (by simpa only [zu, Int.reduceEq, reduceIte] using hnew) (fun q _ h => hoth q h) (fun j hj => zu_n _ _ (by omega))) (fun q _ h => hoth q (fun z => h ⟨0, by decide, z⟩))
      exact z_retWv (P1 := fun H9 : Heap => ∃ (η1 δ1 : Int → Int), RD G o η1 δ1 (fun j => sg8 (β j)) H9 ∧ (xGr β n c = 0 → η1 1 = 0 ∧ η1 5 = Te β n (Te β n c) ∧ η1 2 = η 2 ∧ δ1 = zu δ 1 (Nm β n (Te β n c))) ∧ (¬ xGr β n c = 0 → η1 1 = xGr β n c ∧ η1 2 = Sk β n (Te β n c)) ∧ (-4 ≤ η1 1 ∧ η1 1 ≤ 0) ∧ (η1 4 = η 4) ∧ (In δ1) ∧ (0 ≤ η1 5 ∧ η1 5 ≤ n) ∧ (0 ≤ η1 6 ∧ η1 6 ≤ n)) E hr ⟨η4, (zu δ 1 (Nm β n (Te β n c))), hR, (fun _ => And.intro (by omega) (And.intro (by omega) (And.intro (by omega) rfl))), (fun z => absurd (by (try unfold xGr); omega) z), (by first | rfl | (simp only [zu, Int.reduceEq, reduceIte]; done) | (simp only [zu, Int.reduceEq, reduceIte]; omega) | omega), (by first | rfl | (simp only [zu, Int.reduceEq, reduceIte]; done) | (simp only [zu, Int.reduceEq, reduceIte]; omega) | omega), (hI.grace (by omega)), (by first | rfl | (simp only [zu, Int.reduceEq, reduceIte]; done) | (simp only [zu, Int.reduceEq, reduceIte]; omega) | omega), (by first | rfl | (simp only [zu, Int.reduceEq, reduceIte]; done) | (simp only [zu, Int.reduceEq, reduceIte]; omega) | omega)⟩ hS hlocks dX5_readGrace_23
  rw [if_pos ⟨hw, hs4⟩] at e2_4
  have hw4 : ¬ η4 1 = 0 := by omega
  refine lv_istore_n (pc := 7) (lv' := [(1, .int (iI (rN β n (Te β n c)))), (0, .ref (o 0))]) E.1 E.2 dX5_readGrace_7 rfl hl (by decide) rfl (fun ls hl => ?_)
  refine lv_aload_n (pc := 8) E.1 E.2 dX5_readGrace_8 rfl (lv_at hl 1 rfl) ?_
  refine g5_1 (pc := 9) E hts hin5 hown hK hR.ob (hts _ (List.mem_of_getElem? (i := 1) rfl)) dX5_readGrace_9 ?_
  refine z_if_ne (pc := 12) (tgt := 23) E ⟨by omega, by omega⟩ dX5_readGrace_12 (by decide) (fun h12 => ?_) (fun h12 => ?_)
  · exact z_retWv (P1 := fun H9 : Heap => ∃ (η1 δ1 : Int → Int), RD G o η1 δ1 (fun j => sg8 (β j)) H9 ∧ (xGr β n c = 0 → η1 1 = 0 ∧ η1 5 = Te β n (Te β n c) ∧ η1 2 = η 2 ∧ δ1 = zu δ 1 (Nm β n (Te β n c))) ∧ (¬ xGr β n c = 0 → η1 1 = xGr β n c ∧ η1 2 = Sk β n (Te β n c)) ∧ (-4 ≤ η1 1 ∧ η1 1 ≤ 0) ∧ (η1 4 = η 4) ∧ (In δ1) ∧ (0 ≤ η1 5 ∧ η1 5 ≤ n) ∧ (0 ≤ η1 6 ∧ η1 6 ≤ n)) E hr ⟨η4, δ, hR, (fun z => absurd z (by (try unfold xGr); omega)), (fun z => And.intro (by (try unfold xGr); omega) (by (try unfold xGr); omega)), (by first | rfl | (simp only [zu, Int.reduceEq, reduceIte]; done) | (simp only [zu, Int.reduceEq, reduceIte]; omega) | omega), (by first | rfl | (simp only [zu, Int.reduceEq, reduceIte]; done) | (simp only [zu, Int.reduceEq, reduceIte]; omega) | omega), hI, (by first | rfl | (simp only [zu, Int.reduceEq, reduceIte]; done) | (simp only [zu, Int.reduceEq, reduceIte]; omega) | omega), (by first | rfl | (simp only [zu, Int.reduceEq, reduceIte]; done) | (simp only [zu, Int.reduceEq, reduceIte]; omega) | omega)⟩ hS hlocks dX5_readGrace_23
  · exact absurd h12 (by first | exact hw4 | exact fun q => hw4 q | omega)
set_option maxHeartbeats 4000000 in
set_option maxRecDepth 100000 in
theorem mX5_readGraceN (lL : Launch) (G : GG) (o : Nat → Nat) (η δ β : Int → Int) (n : Int) (h1 : -4 ≤ η 1 ∧ η 1 ≤ 0) (hb : TX β) (hn : 0 ≤ n ∧ n ≤ 900) (h4 : η 4 = n) (h5 : 0 ≤ η 5 ∧ η 5 ≤ n) (h6 : 0 ≤ η 6 ∧ η 6 ≤ n) (hI : In δ) (hw : ¬ η 1 = 0) : Met lL yX5_readGrace wsX5_readGrace ({ frames := 2, cells := 0, slots := 0, locals := 63 } : Room) (va_Pc [.ref (o 0)] (fun U => RD G o η δ (fun j => sg8 (β j)) U.heap ∧ KK G U)) (va_Qv (fun _ : Unit => True) (fun _ tZ => ∃ (η1 : Int → Int), RD G o η1 δ (fun j => sg8 (β j)) tZ.heap ∧ (η1 1 = η 1) ∧ (η1 2 = η 2) ∧ (η1 4 = η 4) ∧ (0 ≤ η1 5 ∧ η1 5 ≤ n) ∧ (0 ≤ η1 6 ∧ η1 6 ≤ n)) (Ax o 20)) 0 0 (Ax o 20) := by
  refine z_met (P := (fun H : Heap => RD G o η δ (fun j => sg8 (β j)) H)) (by decide) rfl (Nat.le_of_ble_eq_true rfl) (fun pp ee ss mm below meth cC E hr hml hown hts hlocks hR hK ls hl => ?_)
  have hl : lv_has ls 2 [(0, .ref (o 0))] := hl
  have hcs : 0 ≤ (({ frames := 2, cells := 0, slots := 0, locals := 63 } : Room)).cells ∧ 0 ≤ (({ frames := 2, cells := 0, slots := 0, locals := 63 } : Room)).slots := ⟨Nat.zero_le _, Nat.zero_le _⟩
  have hS : va_S (Ax o 20) ss.heap ss.heap [] := va_S.rf
  have hin5 : ∀ w ∈ wsX50, w ∈ wsX5_readGrace := fun w h => List.mem_cons_of_mem _ (List.mem_append_left _ (List.mem_append_right _ (h)))
  have hF := hI.F
  have hMm := hI.M
  have hGn := hI.Gn
  refine lv_aload_n (pc := 0) E.1 E.2 dX5_readGrace_0 rfl (lv_at hl 0 rfl) ?_
  refine z_iconst (pc := 1) E dX5_readGrace_1 ?_
  refine z_bipush (pc := 2) E (by decide) dX5_readGrace_2 ?_
  refine z_wVi (pc := 4) (P1 := fun H9 : Heap => ∃ (η4 : Int → Int), RD G o η4 δ (fun j => sg8 (β j)) H9 ∧ (η4 1 = if η 1 = 0 then RNum β n (η 5) 1 99 else η 1) ∧ (η4 2 = if η 1 = 0 ∧ ¬ RNum β n (η 5) 1 99 = 0 then Sk β n (η 5) else η 2) ∧ (-4 ≤ η4 1 ∧ η4 1 ≤ 0) ∧ (η4 4 = η 4) ∧ (η4 5 = Rd β n (η 5)) ∧ (η4 6 = Sk β n (η 5)) ∧ (0 ≤ η4 5 ∧ η4 5 ≤ n) ∧ (0 ≤ η4 6 ∧ η4 6 ≤ n)) (As := [.int (iI 1), .int (iI 99)]) (rest := []) E hml hown hts (mX5_readNumber lL G o η δ β 1 99 n (η 5) (by omega) hb (by omega) (by omega) (by omega) (by omega) (by omega) (by first | rfl | assumption | exact Sk_Sk _ _ _ | (congr 1 <;> omega)) (by omega) (by omega)) (cwV 2 hts gX5_readGrace_X5_readNumber rfl rfl rfl vdX5_readNumber ⟨Nat.le_of_ble_eq_true rfl, Nat.le_of_ble_eq_true rfl⟩) (oB.recv hK hR.ob rfl) hR hK hS (fun _ h => h) rfl hl.1 rfl dX5_readGrace_4 hcs (Nat.le_of_ble_eq_true rfl) (fun H locs hnew hsz hoth hS => ?_)
  obtain ⟨η4, hR, e1_4, e2_4, b1_4, e4_4, e5_4, e6_4, b5_4, b6_4⟩ := hnew
  rw [if_neg hw] at e1_4
  rw [if_neg (fun z => hw z.1)] at e2_4
  have hk04 := Sk_b β (n := n) (c := (η 5)) (by omega)
  have hk14 := Rd_b β (n := n) (c := (η 5)) (by omega)
  have hk34 := RNum_b β n (η 5) 1 99
  have hk44 := rN_b (b := β) (n := n) (c := (η 5)) (by omega)
  have hw4 : ¬ η4 1 = 0 := by omega
  refine lv_istore_n (pc := 7) (lv' := [(1, .int (iI (rN β n (η 5)))), (0, .ref (o 0))]) E.1 E.2 dX5_readGrace_7 rfl hl (by decide) rfl (fun ls hl => ?_)
  refine lv_aload_n (pc := 8) E.1 E.2 dX5_readGrace_8 rfl (lv_at hl 1 rfl) ?_
  refine g5_1 (pc := 9) E hts hin5 hown hK hR.ob (hts _ (List.mem_of_getElem? (i := 1) rfl)) dX5_readGrace_9 ?_
  refine z_if_ne (pc := 12) (tgt := 23) E ⟨by omega, by omega⟩ dX5_readGrace_12 (by decide) (fun h12 => ?_) (fun h12 => ?_)
  · exact z_retWv (P1 := fun H9 : Heap => ∃ (η1 : Int → Int), RD G o η1 δ (fun j => sg8 (β j)) H9 ∧ (η1 1 = η 1) ∧ (η1 2 = η 2) ∧ (η1 4 = η 4) ∧ (0 ≤ η1 5 ∧ η1 5 ≤ n) ∧ (0 ≤ η1 6 ∧ η1 6 ≤ n)) E hr ⟨η4, hR, (by first | rfl | (simp only [zu, Int.reduceEq, reduceIte]; done) | (simp only [zu, Int.reduceEq, reduceIte]; omega) | omega), (by first | rfl | (simp only [zu, Int.reduceEq, reduceIte]; done) | (simp only [zu, Int.reduceEq, reduceIte]; omega) | omega), (by first | rfl | (simp only [zu, Int.reduceEq, reduceIte]; done) | (simp only [zu, Int.reduceEq, reduceIte]; omega) | omega), (by first | rfl | (simp only [zu, Int.reduceEq, reduceIte]; done) | (simp only [zu, Int.reduceEq, reduceIte]; omega) | omega), (by first | rfl | (simp only [zu, Int.reduceEq, reduceIte]; done) | (simp only [zu, Int.reduceEq, reduceIte]; omega) | omega)⟩ hS hlocks dX5_readGrace_23
  · exact absurd h12 (by first | exact hw4 | exact fun q => hw4 q | omega)
set_option maxHeartbeats 4000000 in
set_option maxRecDepth 100000 in
theorem mX5_readTagZ (lL : Launch) (G : GG) (o : Nat → Nat) (η δ β : Int → Int) (n : Int) (c : Int) (h1 : -4 ≤ η 1 ∧ η 1 ≤ 0) (hb : TX β) (hn : 0 ≤ n ∧ n ≤ 900) (h4 : η 4 = n) (h5 : 0 ≤ η 5 ∧ η 5 ≤ n) (h6 : 0 ≤ η 6 ∧ η 6 ≤ n) (hI : In δ) (hw : η 1 = 0) (hc : 0 ≤ c ∧ c ≤ n) (ht6 : η 6 = Sk β n c) (hsk : Sk β n (η 5) = Sk β n (Te β n c)) : Met lL yX5_readTag wsX5_readTag ({ frames := 3, cells := 0, slots := 0, locals := 65 } : Room) (va_Pc [.ref (o 0)] (fun U => RD G o η δ (fun j => sg8 (β j)) U.heap ∧ KK G U)) (va_Qv (fun _ : Unit => True) (fun _ tZ => ∃ (η1 δ1 : Int → Int), RD G o η1 δ1 (fun j => sg8 (β j)) tZ.heap ∧ (xTag β n δ c = 0 → η1 1 = 0 ∧ η1 5 = Te β n (Te β n (Te β n c)) ∧ η1 2 = η 2 ∧ δ1 = fTag β n δ c) ∧ (¬ xTag β n δ c = 0 → η1 1 = xTag β n δ c ∧ η1 2 = pTag β n δ c) ∧ (-4 ≤ η1 1 ∧ η1 1 ≤ 0) ∧ (η1 4 = η 4) ∧ (In δ1) ∧ (0 ≤ η1 5 ∧ η1 5 ≤ n) ∧ (0 ≤ η1 6 ∧ η1 6 ≤ n)) (Ax o 20)) 0 0 (Ax o 20) := by
  refine z_met (P := (fun H : Heap => RD G o η δ (fun j => sg8 (β j)) H)) (by decide) rfl (Nat.le_of_ble_eq_true rfl) (fun pp ee ss mm below meth cC E hr hml hown hts hlocks hR hK ls hl => ?_)
  have hl : lv_has ls 3 [(0, .ref (o 0))] := hl
  have hcs : 0 ≤ (({ frames := 3, cells := 0, slots := 0, locals := 65 } : Room)).cells ∧ 0 ≤ (({ frames := 3, cells := 0, slots := 0, locals := 65 } : Room)).slots := ⟨Nat.zero_le _, Nat.zero_le _⟩
  have hS : va_S (Ax o 20) ss.heap ss.heap [] := va_S.rf
  have hin5 : ∀ w ∈ wsX50, w ∈ wsX5_readTag := fun w h => List.mem_cons_of_mem _ (List.mem_append_left _ (List.mem_append_left _ (List.mem_append_right _ (h))))
  have hin6 : ∀ w ∈ wsX60, w ∈ wsX5_readTag := fun w h => List.mem_cons_of_mem _ (List.mem_append_left _ (List.mem_append_right _ (h)))
  have hF := hI.F
  have hMm := hI.M
  have hGn := hI.Gn
  have htc := Te_b β (n := n) (c := c) (by omega)
  have hskc := Sk_b β (n := n) (c := c) (by omega)
  refine lv_aload_n (pc := 0) E.1 E.2 dX5_readTag_0 rfl (lv_at hl 0 rfl) ?_
  refine z_wVi (pc := 1) (P1 := fun H9 : Heap => ∃ (η1 : Int → Int), RD G o η1 δ (fun j => sg8 (β j)) H9 ∧ (η1 1 = if η 1 = 0 then RFol β n δ (Te β n c) else η 1) ∧ (η1 2 = if η 1 = 0 ∧ ¬ RFol β n δ (Te β n c) = 0 then Sk β n (Te β n c) else η 2) ∧ (-4 ≤ η1 1 ∧ η1 1 ≤ 0) ∧ (η1 4 = η 4) ∧ (η1 5 = Rl β n (Te β n c)) ∧ (η1 6 = Sk β n (Te β n c)) ∧ (0 ≤ η1 5 ∧ η1 5 ≤ n) ∧ (0 ≤ η1 6 ∧ η1 6 ≤ n)) (As := []) (rest := []) E hml hown hts (mX5_readFolderName lL G o η δ β n (Te β n c) (by omega) hb (by omega) (by omega) (by omega) (by omega) hI (by omega) (by first | rfl | assumption | exact Sk_Sk _ _ _ | (congr 1 <;> omega))) (cwV 0 hts gX5_readTag_X5_readFolderName rfl rfl rfl vdX5_readFolderName ⟨Nat.le_of_ble_eq_true rfl, Nat.le_of_ble_eq_true rfl⟩) (oB.recv hK hR.ob rfl) hR hK hS (fun _ h => h) rfl hl.1 rfl dX5_readTag_1 hcs (Nat.le_of_ble_eq_true rfl) (fun H locs hnew hsz hoth hS => ?_)
  obtain ⟨η1, hR, e1_1, e2_1, b1_1, e4_1, e5_1, e6_1, b5_1, b6_1⟩ := hnew
  rw [if_pos hw] at e1_1
  have hk01 := Sk_b β (n := n) (c := (Te β n c)) (by omega)
  have hk11 := Rl_b β (n := n) (c := (Te β n c)) (by omega)
  have hk31 := RFol_b β δ n (Te β n c)
  have hfz1 := fnS_r hI (rW β n (Te β n c))
  by_cases hs1 : RFol β n δ (Te β n c) = 0
  · rw [if_neg (fun z => z.2 hs1)] at e2_1
    have hw1 : η1 1 = 0 := by omega
    have hu1 := RFol_0 hs1
    have hv1 := RFol_v β δ n (Te β n c)
    have hx1 : RWd β n (Te β n c) = 0 := by rw [hv1] at hs1; by_cases z : RWd β n (Te β n c) = 0; exact z; rw [if_neg z] at hs1; omega
    have ht1 := RWd_t (b := β) (n := n) (c := (Te β n c)) (by omega) hx1
    have htb1 := Te_b β (n := n) (c := (Te β n c)) (by omega)
    have h51 : η1 5 = Te β n (Te β n c) := by omega
    have hfr1 := fnS_lt hI (Wo β n (Te β n c))
    rw [ht1.2.1]
    refine lv_istore_n (pc := 4) (lv' := [(1, .int (iI (fnS δ (Wo β n (Te β n c)) 0))), (0, .ref (o 0))]) E.1 E.2 dX5_readTag_4 rfl hl (by decide) rfl (fun ls hl => ?_)
    refine lv_aload_n (pc := 5) E.1 E.2 dX5_readTag_5 rfl (lv_at hl 1 rfl) ?_
    refine z_iconst (pc := 6) E dX5_readTag_6 ?_
    refine z_bipush (pc := 7) E (by decide) dX5_readTag_7 ?_
    refine z_wVi (pc := 9) (P1 := fun H9 : Heap => ∃ (η9 : Int → Int), RD G o η9 δ (fun j => sg8 (β j)) H9 ∧ (η9 1 = if η1 1 = 0 then RNum β n (Te β n (Te β n c)) 0 7 else η1 1) ∧ (η9 2 = if η1 1 = 0 ∧ ¬ RNum β n (Te β n (Te β n c)) 0 7 = 0 then Sk β n (Te β n (Te β n c)) else η1 2) ∧ (-4 ≤ η9 1 ∧ η9 1 ≤ 0) ∧ (η9 4 = η1 4) ∧ (η9 5 = Rd β n (Te β n (Te β n c))) ∧ (η9 6 = Sk β n (Te β n (Te β n c))) ∧ (0 ≤ η9 5 ∧ η9 5 ≤ n) ∧ (0 ≤ η9 6 ∧ η9 6 ≤ n)) (As := [.int (iI 0), .int (iI 7)]) (rest := []) E hml hown hts (mX5_readNumber lL G o η1 δ β 0 7 n (Te β n (Te β n c)) (by omega) hb (by omega) (by omega) (by omega) (by omega) (by omega) (by first | rfl | assumption | exact Sk_Sk _ _ _ | (congr 1 <;> omega)) (by omega) (by omega)) (cwV 2 hts gX5_readTag_X5_readNumber rfl rfl rfl vdX5_readNumber ⟨Nat.le_of_ble_eq_true rfl, Nat.le_of_ble_eq_true rfl⟩) (oB.recv hK hR.ob rfl) hR hK hS (fun _ h => h) rfl hl.1 rfl dX5_readTag_9 hcs (Nat.le_of_ble_eq_true rfl) (fun H locs hnew hsz hoth hS => ?_)
    obtain ⟨η9, hR, e1_9, e2_9, b1_9, e4_9, e5_9, e6_9, b5_9, b6_9⟩ := hnew
    rw [if_pos hw1] at e1_9
    have hk09 := Sk_b β (n := n) (c := (Te β n (Te β n c))) (by omega)
    have hk19 := Rd_b β (n := n) (c := (Te β n (Te β n c))) (by omega)
    have hk39 := RNum_b β n (Te β n (Te β n c)) 0 7
    have hk49 := rN_b (b := β) (n := n) (c := (Te β n (Te β n c))) (by omega)
    by_cases hs9 : RNum β n (Te β n (Te β n c)) 0 7 = 0
    · rw [if_neg (fun z => z.2 hs9)] at e2_9
      have hw9 : η9 1 = 0 := by omega
      have ht9 := RNum_t (b := β) (n := n) (c := (Te β n (Te β n c))) (by omega) (by omega) hs9
      have hu9 := RNum_0 hs9
      have htb9 := Te_b β (n := n) (c := (Te β n (Te β n c))) (by omega)
      have h59 : η9 5 = Te β n (Te β n (Te β n c)) := by omega
      rw [ht9.2]
      refine lv_istore_n (pc := 12) (lv' := [(2, .int (iI (Nm β n (Te β n (Te β n c))))), (1, .int (iI (fnS δ (Wo β n (Te β n c)) 0))), (0, .ref (o 0))]) E.1 E.2 dX5_readTag_12 rfl hl (by decide) rfl (fun ls hl => ?_)
      refine lv_aload_n (pc := 13) E.1 E.2 dX5_readTag_13 rfl (lv_at hl 2 rfl) ?_
      refine g5_1 (pc := 14) E hts hin5 hown hK hR.ob (hts _ (List.mem_of_getElem? (i := 1) rfl)) dX5_readTag_14 ?_
      refine z_if_ne (pc := 17) (tgt := 32) E ⟨by omega, by omega⟩ dX5_readTag_17 (by decide) (fun h17 => ?_) (fun h17 => ?_)
      · exact absurd h17 (by first | exact hw9 | exact fun q => hw9 q | omega)
      · refine lv_aload_n (pc := 20) E.1 E.2 dX5_readTag_20 rfl (lv_at hl 2 rfl) ?_
        refine g5_0 (pc := 21) E hts hin5 hown hK hR.ob (hts _ (List.mem_of_getElem? (i := 2) rfl)) dX5_readTag_21 ?_
        refine g6_0 (pc := 24) E hts hin6 hown hK hR.dob (hts _ (List.mem_of_getElem? (i := 3) rfl)) dX5_readTag_24 ?_
        refine lv_iload_n (pc := 27) E.1 E.2 dX5_readTag_27 rfl (lv_at hl 1 rfl) ?_
        refine lv_iload_n (pc := 28) E.1 E.2 dX5_readTag_28 rfl (lv_at hl 0 rfl) ?_
        refine z_wVv (pc := 29) (As := [.int (iI (fnS δ (Wo β n (Te β n c)) 0)), .int (iI (Nm β n (Te β n (Te β n c))))]) (rest := []) E hml hown hts (mX3_setTag lL G (fun k => o (2 + (1 + k))) δ (fnS δ (Wo β n (Te β n c)) 0) (Nm β n (Te β n (Te β n c))) hI (by omega) (by omega)) (cwV 2 hts gX5_readTag_X3_setTag rfl rfl rfl vdX3_setTag ⟨Nat.le_of_ble_eq_true rfl, Nat.le_of_ble_eq_true rfl⟩) (oB.recv hK hR.foo rfl) hR.dra.fo hK hS (fun q ⟨k, hk, e⟩ => ⟨2 + (1 + k), by omega, e⟩) rfl hl.1 rfl dX5_readTag_29 hcs (Nat.le_of_ble_eq_true rfl) (fun H locs hnew hsz hoth hS => ?_)
        have hR := RD.upD hR (ST.upFO hR.dra hnew (fun q h1 h2 => hoth q h1 h2) (fun j hj => by first | rw [zu_n _ _ (by omega)] | rw [zu_n _ _ (by omega), zu_n _ _ (by omega)])) (fun q h1 h2 => hoth q h1 (fun ⟨k, hk, e⟩ => h2 ⟨1 + k, by omega, e⟩))
        exact z_retWv (P1 := fun H9 : Heap => ∃ (η1 δ1 : Int → Int), RD G o η1 δ1 (fun j => sg8 (β j)) H9 ∧ (xTag β n δ c = 0 → η1 1 = 0 ∧ η1 5 = Te β n (Te β n (Te β n c)) ∧ η1 2 = η 2 ∧ δ1 = fTag β n δ c) ∧ (¬ xTag β n δ c = 0 → η1 1 = xTag β n δ c ∧ η1 2 = pTag β n δ c) ∧ (-4 ≤ η1 1 ∧ η1 1 ≤ 0) ∧ (η1 4 = η 4) ∧ (In δ1) ∧ (0 ≤ η1 5 ∧ η1 5 ≤ n) ∧ (0 ≤ η1 6 ∧ η1 6 ≤ n)) E hr ⟨η9, (zu δ (109 + (fnS δ (Wo β n (Te β n c)) 0)) (Nm β n (Te β n (Te β n c)))), hR, (fun _ => And.intro (by omega) (And.intro (by omega) (And.intro (by omega) rfl))), (fun z => absurd (by (try unfold xTag); (try unfold pTag); omega) z), (by first | rfl | (simp only [zu, Int.reduceEq, reduceIte]; done) | (simp only [zu, Int.reduceEq, reduceIte]; omega) | omega), (by first | rfl | (simp only [zu, Int.reduceEq, reduceIte]; done) | (simp only [zu, Int.reduceEq, reduceIte]; omega) | omega), (hI.tagS (by omega) (by omega)), (by first | rfl | (simp only [zu, Int.reduceEq, reduceIte]; done) | (simp only [zu, Int.reduceEq, reduceIte]; omega) | omega), (by first | rfl | (simp only [zu, Int.reduceEq, reduceIte]; done) | (simp only [zu, Int.reduceEq, reduceIte]; omega) | omega)⟩ hS hlocks dX5_readTag_32
    rw [if_pos ⟨hw1, hs9⟩] at e2_9
    have hw9 : ¬ η9 1 = 0 := by omega
    refine lv_istore_n (pc := 12) (lv' := [(2, .int (iI (rN β n (Te β n (Te β n c))))), (1, .int (iI (fnS δ (Wo β n (Te β n c)) 0))), (0, .ref (o 0))]) E.1 E.2 dX5_readTag_12 rfl hl (by decide) rfl (fun ls hl => ?_)
    refine lv_aload_n (pc := 13) E.1 E.2 dX5_readTag_13 rfl (lv_at hl 2 rfl) ?_
    refine g5_1 (pc := 14) E hts hin5 hown hK hR.ob (hts _ (List.mem_of_getElem? (i := 1) rfl)) dX5_readTag_14 ?_
    refine z_if_ne (pc := 17) (tgt := 32) E ⟨by omega, by omega⟩ dX5_readTag_17 (by decide) (fun h17 => ?_) (fun h17 => ?_)
    · exact z_retWv (P1 := fun H9 : Heap => ∃ (η1 δ1 : Int → Int), RD G o η1 δ1 (fun j => sg8 (β j)) H9 ∧ (xTag β n δ c = 0 → η1 1 = 0 ∧ η1 5 = Te β n (Te β n (Te β n c)) ∧ η1 2 = η 2 ∧ δ1 = fTag β n δ c) ∧ (¬ xTag β n δ c = 0 → η1 1 = xTag β n δ c ∧ η1 2 = pTag β n δ c) ∧ (-4 ≤ η1 1 ∧ η1 1 ≤ 0) ∧ (η1 4 = η 4) ∧ (In δ1) ∧ (0 ≤ η1 5 ∧ η1 5 ≤ n) ∧ (0 ≤ η1 6 ∧ η1 6 ≤ n)) E hr ⟨η9, δ, hR, (fun z => absurd z (by (try unfold xTag); (try unfold pTag); omega)), (fun z => And.intro (by (try unfold xTag); (try unfold pTag); omega) (by (try unfold xTag); (try unfold pTag); omega)), (by first | rfl | (simp only [zu, Int.reduceEq, reduceIte]; done) | (simp only [zu, Int.reduceEq, reduceIte]; omega) | omega), (by first | rfl | (simp only [zu, Int.reduceEq, reduceIte]; done) | (simp only [zu, Int.reduceEq, reduceIte]; omega) | omega), hI, (by first | rfl | (simp only [zu, Int.reduceEq, reduceIte]; done) | (simp only [zu, Int.reduceEq, reduceIte]; omega) | omega), (by first | rfl | (simp only [zu, Int.reduceEq, reduceIte]; done) | (simp only [zu, Int.reduceEq, reduceIte]; omega) | omega)⟩ hS hlocks dX5_readTag_32
    · exact absurd h17 (by first | exact hw9 | exact fun q => hw9 q | omega)
  rw [if_pos ⟨hw, hs1⟩] at e2_1
  have hw1 : ¬ η1 1 = 0 := by omega
  have hfr1 := fnS_r hI (rW β n (Te β n c))
  refine lv_istore_n (pc := 4) (lv' := [(1, .int (iI (fnS δ (rW β n (Te β n c)) 0))), (0, .ref (o 0))]) E.1 E.2 dX5_readTag_4 rfl hl (by decide) rfl (fun ls hl => ?_)
  refine lv_aload_n (pc := 5) E.1 E.2 dX5_readTag_5 rfl (lv_at hl 1 rfl) ?_
  refine z_iconst (pc := 6) E dX5_readTag_6 ?_
  refine z_bipush (pc := 7) E (by decide) dX5_readTag_7 ?_
  refine z_wVi (pc := 9) (P1 := fun H9 : Heap => ∃ (η9 : Int → Int), RD G o η9 δ (fun j => sg8 (β j)) H9 ∧ (η9 1 = if η1 1 = 0 then RNum β n (η1 5) 0 7 else η1 1) ∧ (η9 2 = if η1 1 = 0 ∧ ¬ RNum β n (η1 5) 0 7 = 0 then Sk β n (η1 5) else η1 2) ∧ (-4 ≤ η9 1 ∧ η9 1 ≤ 0) ∧ (η9 4 = η1 4) ∧ (η9 5 = Rd β n (η1 5)) ∧ (η9 6 = Sk β n (η1 5)) ∧ (0 ≤ η9 5 ∧ η9 5 ≤ n) ∧ (0 ≤ η9 6 ∧ η9 6 ≤ n)) (As := [.int (iI 0), .int (iI 7)]) (rest := []) E hml hown hts (mX5_readNumber lL G o η1 δ β 0 7 n (η1 5) (by omega) hb (by omega) (by omega) (by omega) (by omega) (by omega) (by first | rfl | assumption | exact Sk_Sk _ _ _ | (congr 1 <;> omega)) (by omega) (by omega)) (cwV 2 hts gX5_readTag_X5_readNumber rfl rfl rfl vdX5_readNumber ⟨Nat.le_of_ble_eq_true rfl, Nat.le_of_ble_eq_true rfl⟩) (oB.recv hK hR.ob rfl) hR hK hS (fun _ h => h) rfl hl.1 rfl dX5_readTag_9 hcs (Nat.le_of_ble_eq_true rfl) (fun H locs hnew hsz hoth hS => ?_)
  obtain ⟨η9, hR, e1_9, e2_9, b1_9, e4_9, e5_9, e6_9, b5_9, b6_9⟩ := hnew
  rw [if_neg hw1] at e1_9
  rw [if_neg (fun z => hw1 z.1)] at e2_9
  have hk09 := Sk_b β (n := n) (c := (η1 5)) (by omega)
  have hk19 := Rd_b β (n := n) (c := (η1 5)) (by omega)
  have hk39 := RNum_b β n (η1 5) 0 7
  have hk49 := rN_b (b := β) (n := n) (c := (η1 5)) (by omega)
  have hw9 : ¬ η9 1 = 0 := by omega
  refine lv_istore_n (pc := 12) (lv' := [(2, .int (iI (rN β n (η1 5)))), (1, .int (iI (fnS δ (rW β n (Te β n c)) 0))), (0, .ref (o 0))]) E.1 E.2 dX5_readTag_12 rfl hl (by decide) rfl (fun ls hl => ?_)
  refine lv_aload_n (pc := 13) E.1 E.2 dX5_readTag_13 rfl (lv_at hl 2 rfl) ?_
  refine g5_1 (pc := 14) E hts hin5 hown hK hR.ob (hts _ (List.mem_of_getElem? (i := 1) rfl)) dX5_readTag_14 ?_
  refine z_if_ne (pc := 17) (tgt := 32) E ⟨by omega, by omega⟩ dX5_readTag_17 (by decide) (fun h17 => ?_) (fun h17 => ?_)
  · exact z_retWv (P1 := fun H9 : Heap => ∃ (η1 δ1 : Int → Int), RD G o η1 δ1 (fun j => sg8 (β j)) H9 ∧ (xTag β n δ c = 0 → η1 1 = 0 ∧ η1 5 = Te β n (Te β n (Te β n c)) ∧ η1 2 = η 2 ∧ δ1 = fTag β n δ c) ∧ (¬ xTag β n δ c = 0 → η1 1 = xTag β n δ c ∧ η1 2 = pTag β n δ c) ∧ (-4 ≤ η1 1 ∧ η1 1 ≤ 0) ∧ (η1 4 = η 4) ∧ (In δ1) ∧ (0 ≤ η1 5 ∧ η1 5 ≤ n) ∧ (0 ≤ η1 6 ∧ η1 6 ≤ n)) E hr ⟨η9, δ, hR, (fun z => absurd z (by (try unfold xTag); (try unfold pTag); omega)), (fun z => And.intro (by (try unfold xTag); (try unfold pTag); omega) (by (try unfold xTag); (try unfold pTag); omega)), (by first | rfl | (simp only [zu, Int.reduceEq, reduceIte]; done) | (simp only [zu, Int.reduceEq, reduceIte]; omega) | omega), (by first | rfl | (simp only [zu, Int.reduceEq, reduceIte]; done) | (simp only [zu, Int.reduceEq, reduceIte]; omega) | omega), hI, (by first | rfl | (simp only [zu, Int.reduceEq, reduceIte]; done) | (simp only [zu, Int.reduceEq, reduceIte]; omega) | omega), (by first | rfl | (simp only [zu, Int.reduceEq, reduceIte]; done) | (simp only [zu, Int.reduceEq, reduceIte]; omega) | omega)⟩ hS hlocks dX5_readTag_32
  · exact absurd h17 (by first | exact hw9 | exact fun q => hw9 q | omega)
set_option maxHeartbeats 4000000 in
set_option maxRecDepth 100000 in
theorem mX5_readTagN (lL : Launch) (G : GG) (o : Nat → Nat) (η δ β : Int → Int) (n : Int) (h1 : -4 ≤ η 1 ∧ η 1 ≤ 0) (hb : TX β) (hn : 0 ≤ n ∧ n ≤ 900) (h4 : η 4 = n) (h5 : 0 ≤ η 5 ∧ η 5 ≤ n) (h6 : 0 ≤ η 6 ∧ η 6 ≤ n) (hI : In δ) (hw : ¬ η 1 = 0) : Met lL yX5_readTag wsX5_readTag ({ frames := 3, cells := 0, slots := 0, locals := 65 } : Room) (va_Pc [.ref (o 0)] (fun U => RD G o η δ (fun j => sg8 (β j)) U.heap ∧ KK G U)) (va_Qv (fun _ : Unit => True) (fun _ tZ => ∃ (η1 : Int → Int), RD G o η1 δ (fun j => sg8 (β j)) tZ.heap ∧ (η1 1 = η 1) ∧ (η1 2 = η 2) ∧ (η1 4 = η 4) ∧ (0 ≤ η1 5 ∧ η1 5 ≤ n) ∧ (0 ≤ η1 6 ∧ η1 6 ≤ n)) (Ax o 20)) 0 0 (Ax o 20) := by
  refine z_met (P := (fun H : Heap => RD G o η δ (fun j => sg8 (β j)) H)) (by decide) rfl (Nat.le_of_ble_eq_true rfl) (fun pp ee ss mm below meth cC E hr hml hown hts hlocks hR hK ls hl => ?_)
  have hl : lv_has ls 3 [(0, .ref (o 0))] := hl
  have hcs : 0 ≤ (({ frames := 3, cells := 0, slots := 0, locals := 65 } : Room)).cells ∧ 0 ≤ (({ frames := 3, cells := 0, slots := 0, locals := 65 } : Room)).slots := ⟨Nat.zero_le _, Nat.zero_le _⟩
  have hS : va_S (Ax o 20) ss.heap ss.heap [] := va_S.rf
  have hin5 : ∀ w ∈ wsX50, w ∈ wsX5_readTag := fun w h => List.mem_cons_of_mem _ (List.mem_append_left _ (List.mem_append_left _ (List.mem_append_right _ (h))))
  have hF := hI.F
  have hMm := hI.M
  have hGn := hI.Gn
  refine lv_aload_n (pc := 0) E.1 E.2 dX5_readTag_0 rfl (lv_at hl 0 rfl) ?_
  refine z_wVi (pc := 1) (P1 := fun H9 : Heap => ∃ (η1 : Int → Int), RD G o η1 δ (fun j => sg8 (β j)) H9 ∧ (η1 1 = if η 1 = 0 then RFol β n δ (η 5) else η 1) ∧ (η1 2 = if η 1 = 0 ∧ ¬ RFol β n δ (η 5) = 0 then Sk β n (η 5) else η 2) ∧ (-4 ≤ η1 1 ∧ η1 1 ≤ 0) ∧ (η1 4 = η 4) ∧ (η1 5 = Rl β n (η 5)) ∧ (η1 6 = Sk β n (η 5)) ∧ (0 ≤ η1 5 ∧ η1 5 ≤ n) ∧ (0 ≤ η1 6 ∧ η1 6 ≤ n)) (As := []) (rest := []) E hml hown hts (mX5_readFolderName lL G o η δ β n (η 5) (by omega) hb (by omega) (by omega) (by omega) (by omega) hI (by omega) (by first | rfl | assumption | exact Sk_Sk _ _ _ | (congr 1 <;> omega))) (cwV 0 hts gX5_readTag_X5_readFolderName rfl rfl rfl vdX5_readFolderName ⟨Nat.le_of_ble_eq_true rfl, Nat.le_of_ble_eq_true rfl⟩) (oB.recv hK hR.ob rfl) hR hK hS (fun _ h => h) rfl hl.1 rfl dX5_readTag_1 hcs (Nat.le_of_ble_eq_true rfl) (fun H locs hnew hsz hoth hS => ?_)
  obtain ⟨η1, hR, e1_1, e2_1, b1_1, e4_1, e5_1, e6_1, b5_1, b6_1⟩ := hnew
  rw [if_neg hw] at e1_1
  rw [if_neg (fun z => hw z.1)] at e2_1
  have hk01 := Sk_b β (n := n) (c := (η 5)) (by omega)
  have hk11 := Rl_b β (n := n) (c := (η 5)) (by omega)
  have hk31 := RFol_b β δ n (η 5)
  have hfz1 := fnS_r hI (rW β n (η 5))
  have hw1 : ¬ η1 1 = 0 := by omega
  refine lv_istore_n (pc := 4) (lv' := [(1, .int (iI (fnS δ (rW β n (η 5)) 0))), (0, .ref (o 0))]) E.1 E.2 dX5_readTag_4 rfl hl (by decide) rfl (fun ls hl => ?_)
  refine lv_aload_n (pc := 5) E.1 E.2 dX5_readTag_5 rfl (lv_at hl 1 rfl) ?_
  refine z_iconst (pc := 6) E dX5_readTag_6 ?_
  refine z_bipush (pc := 7) E (by decide) dX5_readTag_7 ?_
  refine z_wVi (pc := 9) (P1 := fun H9 : Heap => ∃ (η9 : Int → Int), RD G o η9 δ (fun j => sg8 (β j)) H9 ∧ (η9 1 = if η1 1 = 0 then RNum β n (η1 5) 0 7 else η1 1) ∧ (η9 2 = if η1 1 = 0 ∧ ¬ RNum β n (η1 5) 0 7 = 0 then Sk β n (η1 5) else η1 2) ∧ (-4 ≤ η9 1 ∧ η9 1 ≤ 0) ∧ (η9 4 = η1 4) ∧ (η9 5 = Rd β n (η1 5)) ∧ (η9 6 = Sk β n (η1 5)) ∧ (0 ≤ η9 5 ∧ η9 5 ≤ n) ∧ (0 ≤ η9 6 ∧ η9 6 ≤ n)) (As := [.int (iI 0), .int (iI 7)]) (rest := []) E hml hown hts (mX5_readNumber lL G o η1 δ β 0 7 n (η1 5) (by omega) hb (by omega) (by omega) (by omega) (by omega) (by omega) (by first | rfl | assumption | exact Sk_Sk _ _ _ | (congr 1 <;> omega)) (by omega) (by omega)) (cwV 2 hts gX5_readTag_X5_readNumber rfl rfl rfl vdX5_readNumber ⟨Nat.le_of_ble_eq_true rfl, Nat.le_of_ble_eq_true rfl⟩) (oB.recv hK hR.ob rfl) hR hK hS (fun _ h => h) rfl hl.1 rfl dX5_readTag_9 hcs (Nat.le_of_ble_eq_true rfl) (fun H locs hnew hsz hoth hS => ?_)
  obtain ⟨η9, hR, e1_9, e2_9, b1_9, e4_9, e5_9, e6_9, b5_9, b6_9⟩ := hnew
  rw [if_neg hw1] at e1_9
  rw [if_neg (fun z => hw1 z.1)] at e2_9
  have hk09 := Sk_b β (n := n) (c := (η1 5)) (by omega)
  have hk19 := Rd_b β (n := n) (c := (η1 5)) (by omega)
  have hk39 := RNum_b β n (η1 5) 0 7
  have hk49 := rN_b (b := β) (n := n) (c := (η1 5)) (by omega)
  have hw9 : ¬ η9 1 = 0 := by omega
  refine lv_istore_n (pc := 12) (lv' := [(2, .int (iI (rN β n (η1 5)))), (1, .int (iI (fnS δ (rW β n (η 5)) 0))), (0, .ref (o 0))]) E.1 E.2 dX5_readTag_12 rfl hl (by decide) rfl (fun ls hl => ?_)
  refine lv_aload_n (pc := 13) E.1 E.2 dX5_readTag_13 rfl (lv_at hl 2 rfl) ?_
  refine g5_1 (pc := 14) E hts hin5 hown hK hR.ob (hts _ (List.mem_of_getElem? (i := 1) rfl)) dX5_readTag_14 ?_
  refine z_if_ne (pc := 17) (tgt := 32) E ⟨by omega, by omega⟩ dX5_readTag_17 (by decide) (fun h17 => ?_) (fun h17 => ?_)
  · exact z_retWv (P1 := fun H9 : Heap => ∃ (η1 : Int → Int), RD G o η1 δ (fun j => sg8 (β j)) H9 ∧ (η1 1 = η 1) ∧ (η1 2 = η 2) ∧ (η1 4 = η 4) ∧ (0 ≤ η1 5 ∧ η1 5 ≤ n) ∧ (0 ≤ η1 6 ∧ η1 6 ≤ n)) E hr ⟨η9, hR, (by first | rfl | (simp only [zu, Int.reduceEq, reduceIte]; done) | (simp only [zu, Int.reduceEq, reduceIte]; omega) | omega), (by first | rfl | (simp only [zu, Int.reduceEq, reduceIte]; done) | (simp only [zu, Int.reduceEq, reduceIte]; omega) | omega), (by first | rfl | (simp only [zu, Int.reduceEq, reduceIte]; done) | (simp only [zu, Int.reduceEq, reduceIte]; omega) | omega), (by first | rfl | (simp only [zu, Int.reduceEq, reduceIte]; done) | (simp only [zu, Int.reduceEq, reduceIte]; omega) | omega), (by first | rfl | (simp only [zu, Int.reduceEq, reduceIte]; done) | (simp only [zu, Int.reduceEq, reduceIte]; omega) | omega)⟩ hS hlocks dX5_readTag_32
  · exact absurd h17 (by first | exact hw9 | exact fun q => hw9 q | omega)
set_option maxHeartbeats 4000000 in
set_option maxRecDepth 100000 in
theorem mX5_readFileZ (lL : Launch) (G : GG) (o : Nat → Nat) (η δ β : Int → Int) (n : Int) (c : Int) (h1 : -4 ≤ η 1 ∧ η 1 ≤ 0) (hb : TX β) (hn : 0 ≤ n ∧ n ≤ 900) (h4 : η 4 = n) (h5 : 0 ≤ η 5 ∧ η 5 ≤ n) (h6 : 0 ≤ η 6 ∧ η 6 ≤ n) (hI : In δ) (hw : η 1 = 0) (hc : 0 ≤ c ∧ c ≤ n) (ht6 : η 6 = Sk β n c) (hsk : Sk β n (η 5) = Sk β n (Te β n c)) : Met lL yX5_readFile wsX5_readFile ({ frames := 3, cells := 0, slots := 0, locals := 65 } : Room) (va_Pc [.ref (o 0)] (fun U => RD G o η δ (fun j => sg8 (β j)) U.heap ∧ KK G U)) (va_Qv (fun _ : Unit => True) (fun _ tZ => ∃ (η1 δ1 : Int → Int), RD G o η1 δ1 (fun j => sg8 (β j)) tZ.heap ∧ (xFil β n δ c = 0 → η1 1 = 0 ∧ η1 5 = Te β n (Te β n (Te β n c)) ∧ η1 2 = η 2 ∧ δ1 = fFil β n δ c) ∧ (¬ xFil β n δ c = 0 → η1 1 = xFil β n δ c ∧ η1 2 = pFil β n δ c) ∧ (-4 ≤ η1 1 ∧ η1 1 ≤ 0) ∧ (η1 4 = η 4) ∧ (In δ1) ∧ (0 ≤ η1 5 ∧ η1 5 ≤ n) ∧ (0 ≤ η1 6 ∧ η1 6 ≤ n)) (Ax o 20)) 0 0 (Ax o 20) := by
  refine z_met (P := (fun H : Heap => RD G o η δ (fun j => sg8 (β j)) H)) (by decide) rfl (Nat.le_of_ble_eq_true rfl) (fun pp ee ss mm below meth cC E hr hml hown hts hlocks hR hK ls hl => ?_)
  have hl : lv_has ls 3 [(0, .ref (o 0))] := hl
  have hcs : 0 ≤ (({ frames := 3, cells := 0, slots := 0, locals := 65 } : Room)).cells ∧ 0 ≤ (({ frames := 3, cells := 0, slots := 0, locals := 65 } : Room)).slots := ⟨Nat.zero_le _, Nat.zero_le _⟩
  have hS : va_S (Ax o 20) ss.heap ss.heap [] := va_S.rf
  have hin5 : ∀ w ∈ wsX50, w ∈ wsX5_readFile := fun w h => List.mem_cons_of_mem _ (List.mem_append_left _ (List.mem_append_left _ (List.mem_append_left _ (List.mem_append_right _ (h)))))
  have hin6 : ∀ w ∈ wsX60, w ∈ wsX5_readFile := fun w h => List.mem_cons_of_mem _ (List.mem_append_left _ (List.mem_append_left _ (List.mem_append_right _ (h))))
  have hF := hI.F
  have hMm := hI.M
  have hGn := hI.Gn
  have htc := Te_b β (n := n) (c := c) (by omega)
  have hskc := Sk_b β (n := n) (c := c) (by omega)
  refine lv_aload_n (pc := 0) E.1 E.2 dX5_readFile_0 rfl (lv_at hl 0 rfl) ?_
  refine g5_0 (pc := 1) E hts hin5 hown hK hR.ob (hts _ (List.mem_of_getElem? (i := 1) rfl)) dX5_readFile_1 ?_
  refine g6_1 (pc := 4) E hts hin6 hown hK hR.dob (hts _ (List.mem_of_getElem? (i := 2) rfl)) dX5_readFile_4 ?_
  refine z_rVi (pc := 7) (As := []) (rest := []) E hml hown hts (mX2_isFull lL G (fun k => o (2 + (5 + k))) δ  hI) (cwV 0 hts gX5_readFile_X2_isFull rfl rfl rfl vdX2_isFull ⟨Nat.le_of_ble_eq_true rfl, Nat.le_of_ble_eq_true rfl⟩) (oB.recv hK hR.fio rfl) hR.dra.fi hK rfl hl.1 rfl dX5_readFile_7 hcs (Nat.le_of_ble_eq_true rfl) ?_
  refine z_ifb_eq (pc := 10) (tgt := 19) E dX5_readFile_10 (by decide) (fun h10 => ?_) (fun h10 => ?_)
  · refine lv_aload_n (pc := 19) E.1 E.2 dX5_readFile_19 rfl (lv_at hl 0 rfl) ?_
    refine z_wVi (pc := 20) (P1 := fun H9 : Heap => ∃ (η20 : Int → Int), RD G o η20 δ (fun j => sg8 (β j)) H9 ∧ (η20 1 = if η 1 = 0 then RFol β n δ (Te β n c) else η 1) ∧ (η20 2 = if η 1 = 0 ∧ ¬ RFol β n δ (Te β n c) = 0 then Sk β n (Te β n c) else η 2) ∧ (-4 ≤ η20 1 ∧ η20 1 ≤ 0) ∧ (η20 4 = η 4) ∧ (η20 5 = Rl β n (Te β n c)) ∧ (η20 6 = Sk β n (Te β n c)) ∧ (0 ≤ η20 5 ∧ η20 5 ≤ n) ∧ (0 ≤ η20 6 ∧ η20 6 ≤ n)) (As := []) (rest := []) E hml hown hts (mX5_readFolderName lL G o η δ β n (Te β n c) (by omega) hb (by omega) (by omega) (by omega) (by omega) hI (by omega) (by first | rfl | assumption | exact Sk_Sk _ _ _ | (congr 1 <;> omega))) (cwV 0 hts gX5_readFile_X5_readFolderName rfl rfl rfl vdX5_readFolderName ⟨Nat.le_of_ble_eq_true rfl, Nat.le_of_ble_eq_true rfl⟩) (oB.recv hK hR.ob rfl) hR hK hS (fun _ h => h) rfl hl.1 rfl dX5_readFile_20 hcs (Nat.le_of_ble_eq_true rfl) (fun H locs hnew hsz hoth hS => ?_)
    obtain ⟨η20, hR, e1_20, e2_20, b1_20, e4_20, e5_20, e6_20, b5_20, b6_20⟩ := hnew
    rw [if_pos hw] at e1_20
    have hk020 := Sk_b β (n := n) (c := (Te β n c)) (by omega)
    have hk120 := Rl_b β (n := n) (c := (Te β n c)) (by omega)
    have hk320 := RFol_b β δ n (Te β n c)
    have hfz20 := fnS_r hI (rW β n (Te β n c))
    by_cases hs20 : RFol β n δ (Te β n c) = 0
    · rw [if_neg (fun z => z.2 hs20)] at e2_20
      have hw20 : η20 1 = 0 := by omega
      have hu20 := RFol_0 hs20
      have hv20 := RFol_v β δ n (Te β n c)
      have hx20 : RWd β n (Te β n c) = 0 := by rw [hv20] at hs20; by_cases z : RWd β n (Te β n c) = 0; exact z; rw [if_neg z] at hs20; omega
      have ht20 := RWd_t (b := β) (n := n) (c := (Te β n c)) (by omega) hx20
      have htb20 := Te_b β (n := n) (c := (Te β n c)) (by omega)
      have h520 : η20 5 = Te β n (Te β n c) := by omega
      have hfr20 := fnS_lt hI (Wo β n (Te β n c))
      rw [ht20.2.1]
      refine lv_istore_n (pc := 23) (lv' := [(1, .int (iI (fnS δ (Wo β n (Te β n c)) 0))), (0, .ref (o 0))]) E.1 E.2 dX5_readFile_23 rfl hl (by decide) rfl (fun ls hl => ?_)
      refine lv_aload_n (pc := 24) E.1 E.2 dX5_readFile_24 rfl (lv_at hl 1 rfl) ?_
      refine z_iconst (pc := 25) E dX5_readFile_25 ?_
      refine z_sipush (pc := 26) E (by decide) dX5_readFile_26 ?_
      refine z_wVi (pc := 29) (P1 := fun H9 : Heap => ∃ (η29 : Int → Int), RD G o η29 δ (fun j => sg8 (β j)) H9 ∧ (η29 1 = if η20 1 = 0 then RNum β n (Te β n (Te β n c)) 0 9999 else η20 1) ∧ (η29 2 = if η20 1 = 0 ∧ ¬ RNum β n (Te β n (Te β n c)) 0 9999 = 0 then Sk β n (Te β n (Te β n c)) else η20 2) ∧ (-4 ≤ η29 1 ∧ η29 1 ≤ 0) ∧ (η29 4 = η20 4) ∧ (η29 5 = Rd β n (Te β n (Te β n c))) ∧ (η29 6 = Sk β n (Te β n (Te β n c))) ∧ (0 ≤ η29 5 ∧ η29 5 ≤ n) ∧ (0 ≤ η29 6 ∧ η29 6 ≤ n)) (As := [.int (iI 0), .int (iI 9999)]) (rest := []) E hml hown hts (mX5_readNumber lL G o η20 δ β 0 9999 n (Te β n (Te β n c)) (by omega) hb (by omega) (by omega) (by omega) (by omega) (by omega) (by first | rfl | assumption | exact Sk_Sk _ _ _ | (congr 1 <;> omega)) (by omega) (by omega)) (cwV 2 hts gX5_readFile_X5_readNumber rfl rfl rfl vdX5_readNumber ⟨Nat.le_of_ble_eq_true rfl, Nat.le_of_ble_eq_true rfl⟩) (oB.recv hK hR.ob rfl) hR hK hS (fun _ h => h) rfl hl.1 rfl dX5_readFile_29 hcs (Nat.le_of_ble_eq_true rfl) (fun H locs hnew hsz hoth hS => ?_)
      obtain ⟨η29, hR, e1_29, e2_29, b1_29, e4_29, e5_29, e6_29, b5_29, b6_29⟩ := hnew
      rw [if_pos hw20] at e1_29
      have hk029 := Sk_b β (n := n) (c := (Te β n (Te β n c))) (by omega)
      have hk129 := Rd_b β (n := n) (c := (Te β n (Te β n c))) (by omega)
      have hk329 := RNum_b β n (Te β n (Te β n c)) 0 9999
      have hk429 := rN_b (b := β) (n := n) (c := (Te β n (Te β n c))) (by omega)
      by_cases hs29 : RNum β n (Te β n (Te β n c)) 0 9999 = 0
      · rw [if_neg (fun z => z.2 hs29)] at e2_29
        have hw29 : η29 1 = 0 := by omega
        have ht29 := RNum_t (b := β) (n := n) (c := (Te β n (Te β n c))) (by omega) (by omega) hs29
        have hu29 := RNum_0 hs29
        have htb29 := Te_b β (n := n) (c := (Te β n (Te β n c))) (by omega)
        have h529 : η29 5 = Te β n (Te β n (Te β n c)) := by omega
        rw [ht29.2]
        refine lv_istore_n (pc := 32) (lv' := [(2, .int (iI (Nm β n (Te β n (Te β n c))))), (1, .int (iI (fnS δ (Wo β n (Te β n c)) 0))), (0, .ref (o 0))]) E.1 E.2 dX5_readFile_32 rfl hl (by decide) rfl (fun ls hl => ?_)
        refine lv_aload_n (pc := 33) E.1 E.2 dX5_readFile_33 rfl (lv_at hl 2 rfl) ?_
        refine g5_1 (pc := 34) E hts hin5 hown hK hR.ob (hts _ (List.mem_of_getElem? (i := 3) rfl)) dX5_readFile_34 ?_
        refine z_if_ne (pc := 37) (tgt := 52) E ⟨by omega, by omega⟩ dX5_readFile_37 (by decide) (fun h37 => ?_) (fun h37 => ?_)
        · exact absurd h37 (by first | exact hw29 | exact fun q => hw29 q | omega)
        · refine lv_aload_n (pc := 40) E.1 E.2 dX5_readFile_40 rfl (lv_at hl 2 rfl) ?_
          refine g5_0 (pc := 41) E hts hin5 hown hK hR.ob (hts _ (List.mem_of_getElem? (i := 1) rfl)) dX5_readFile_41 ?_
          refine g6_1 (pc := 44) E hts hin6 hown hK hR.dob (hts _ (List.mem_of_getElem? (i := 2) rfl)) dX5_readFile_44 ?_
          refine lv_iload_n (pc := 47) E.1 E.2 dX5_readFile_47 rfl (lv_at hl 1 rfl) ?_
          refine lv_iload_n (pc := 48) E.1 E.2 dX5_readFile_48 rfl (lv_at hl 0 rfl) ?_
          refine z_wVv (pc := 49) (As := [.int (iI (fnS δ (Wo β n (Te β n c)) 0)), .int (iI (Nm β n (Te β n (Te β n c))))]) (rest := []) E hml hown hts (mX2_add lL G (fun k => o (2 + (5 + k))) δ (fnS δ (Wo β n (Te β n c)) 0) (Nm β n (Te β n (Te β n c))) hI (by omega) (by omega) (by omega)) (cwV 2 hts gX5_readFile_X2_add rfl rfl rfl vdX2_add ⟨Nat.le_of_ble_eq_true rfl, Nat.le_of_ble_eq_true rfl⟩) (oB.recv hK hR.fio rfl) hR.dra.fi hK hS (fun q ⟨k, hk, e⟩ => ⟨2 + (5 + k), by omega, e⟩) rfl hl.1 rfl dX5_readFile_49 hcs (Nat.le_of_ble_eq_true rfl) (fun H locs hnew hsz hoth hS => ?_)
          have hR := RD.upD hR (ST.upFI hR.dra hnew (fun q h1 h2 => hoth q h1 h2) (fun j hj => afF_n2 hI (by omega) (by omega)) (by omega)) (fun q h1 h2 => hoth q h1 (fun ⟨k, hk, e⟩ => h2 ⟨5 + k, by omega, e⟩))
          exact z_retWv (P1 := fun H9 : Heap => ∃ (η1 δ1 : Int → Int), RD G o η1 δ1 (fun j => sg8 (β j)) H9 ∧ (xFil β n δ c = 0 → η1 1 = 0 ∧ η1 5 = Te β n (Te β n (Te β n c)) ∧ η1 2 = η 2 ∧ δ1 = fFil β n δ c) ∧ (¬ xFil β n δ c = 0 → η1 1 = xFil β n δ c ∧ η1 2 = pFil β n δ c) ∧ (-4 ≤ η1 1 ∧ η1 1 ≤ 0) ∧ (η1 4 = η 4) ∧ (In δ1) ∧ (0 ≤ η1 5 ∧ η1 5 ≤ n) ∧ (0 ≤ η1 6 ∧ η1 6 ≤ n)) E hr ⟨η29, (afF δ (fnS δ (Wo β n (Te β n c)) 0) (Nm β n (Te β n (Te β n c)))), hR, (fun _ => And.intro (by omega) (And.intro (by omega) (And.intro (by omega) rfl))), (fun z => absurd (by (try unfold xFil); (try unfold pFil); omega) z), (by first | rfl | (simp only [zu, Int.reduceEq, reduceIte]; done) | (simp only [zu, Int.reduceEq, reduceIte]; omega) | omega), (by first | rfl | (simp only [zu, Int.reduceEq, reduceIte]; done) | (simp only [zu, Int.reduceEq, reduceIte]; omega) | omega), (hI.afFI (by omega) (by omega) (by omega)), (by first | rfl | (simp only [zu, Int.reduceEq, reduceIte]; done) | (simp only [zu, Int.reduceEq, reduceIte]; omega) | omega), (by first | rfl | (simp only [zu, Int.reduceEq, reduceIte]; done) | (simp only [zu, Int.reduceEq, reduceIte]; omega) | omega)⟩ hS hlocks dX5_readFile_52
      rw [if_pos ⟨hw20, hs29⟩] at e2_29
      have hw29 : ¬ η29 1 = 0 := by omega
      refine lv_istore_n (pc := 32) (lv' := [(2, .int (iI (rN β n (Te β n (Te β n c))))), (1, .int (iI (fnS δ (Wo β n (Te β n c)) 0))), (0, .ref (o 0))]) E.1 E.2 dX5_readFile_32 rfl hl (by decide) rfl (fun ls hl => ?_)
      refine lv_aload_n (pc := 33) E.1 E.2 dX5_readFile_33 rfl (lv_at hl 2 rfl) ?_
      refine g5_1 (pc := 34) E hts hin5 hown hK hR.ob (hts _ (List.mem_of_getElem? (i := 3) rfl)) dX5_readFile_34 ?_
      refine z_if_ne (pc := 37) (tgt := 52) E ⟨by omega, by omega⟩ dX5_readFile_37 (by decide) (fun h37 => ?_) (fun h37 => ?_)
      · exact z_retWv (P1 := fun H9 : Heap => ∃ (η1 δ1 : Int → Int), RD G o η1 δ1 (fun j => sg8 (β j)) H9 ∧ (xFil β n δ c = 0 → η1 1 = 0 ∧ η1 5 = Te β n (Te β n (Te β n c)) ∧ η1 2 = η 2 ∧ δ1 = fFil β n δ c) ∧ (¬ xFil β n δ c = 0 → η1 1 = xFil β n δ c ∧ η1 2 = pFil β n δ c) ∧ (-4 ≤ η1 1 ∧ η1 1 ≤ 0) ∧ (η1 4 = η 4) ∧ (In δ1) ∧ (0 ≤ η1 5 ∧ η1 5 ≤ n) ∧ (0 ≤ η1 6 ∧ η1 6 ≤ n)) E hr ⟨η29, δ, hR, (fun z => absurd z (by (try unfold xFil); (try unfold pFil); omega)), (fun z => And.intro (by (try unfold xFil); (try unfold pFil); omega) (by (try unfold xFil); (try unfold pFil); omega)), (by first | rfl | (simp only [zu, Int.reduceEq, reduceIte]; done) | (simp only [zu, Int.reduceEq, reduceIte]; omega) | omega), (by first | rfl | (simp only [zu, Int.reduceEq, reduceIte]; done) | (simp only [zu, Int.reduceEq, reduceIte]; omega) | omega), hI, (by first | rfl | (simp only [zu, Int.reduceEq, reduceIte]; done) | (simp only [zu, Int.reduceEq, reduceIte]; omega) | omega), (by first | rfl | (simp only [zu, Int.reduceEq, reduceIte]; done) | (simp only [zu, Int.reduceEq, reduceIte]; omega) | omega)⟩ hS hlocks dX5_readFile_52
      · exact absurd h37 (by first | exact hw29 | exact fun q => hw29 q | omega)
    rw [if_pos ⟨hw, hs20⟩] at e2_20
    have hw20 : ¬ η20 1 = 0 := by omega
    have hfr20 := fnS_r hI (rW β n (Te β n c))
    refine lv_istore_n (pc := 23) (lv' := [(1, .int (iI (fnS δ (rW β n (Te β n c)) 0))), (0, .ref (o 0))]) E.1 E.2 dX5_readFile_23 rfl hl (by decide) rfl (fun ls hl => ?_)
    refine lv_aload_n (pc := 24) E.1 E.2 dX5_readFile_24 rfl (lv_at hl 1 rfl) ?_
    refine z_iconst (pc := 25) E dX5_readFile_25 ?_
    refine z_sipush (pc := 26) E (by decide) dX5_readFile_26 ?_
    refine z_wVi (pc := 29) (P1 := fun H9 : Heap => ∃ (η29 : Int → Int), RD G o η29 δ (fun j => sg8 (β j)) H9 ∧ (η29 1 = if η20 1 = 0 then RNum β n (η20 5) 0 9999 else η20 1) ∧ (η29 2 = if η20 1 = 0 ∧ ¬ RNum β n (η20 5) 0 9999 = 0 then Sk β n (η20 5) else η20 2) ∧ (-4 ≤ η29 1 ∧ η29 1 ≤ 0) ∧ (η29 4 = η20 4) ∧ (η29 5 = Rd β n (η20 5)) ∧ (η29 6 = Sk β n (η20 5)) ∧ (0 ≤ η29 5 ∧ η29 5 ≤ n) ∧ (0 ≤ η29 6 ∧ η29 6 ≤ n)) (As := [.int (iI 0), .int (iI 9999)]) (rest := []) E hml hown hts (mX5_readNumber lL G o η20 δ β 0 9999 n (η20 5) (by omega) hb (by omega) (by omega) (by omega) (by omega) (by omega) (by first | rfl | assumption | exact Sk_Sk _ _ _ | (congr 1 <;> omega)) (by omega) (by omega)) (cwV 2 hts gX5_readFile_X5_readNumber rfl rfl rfl vdX5_readNumber ⟨Nat.le_of_ble_eq_true rfl, Nat.le_of_ble_eq_true rfl⟩) (oB.recv hK hR.ob rfl) hR hK hS (fun _ h => h) rfl hl.1 rfl dX5_readFile_29 hcs (Nat.le_of_ble_eq_true rfl) (fun H locs hnew hsz hoth hS => ?_)
    obtain ⟨η29, hR, e1_29, e2_29, b1_29, e4_29, e5_29, e6_29, b5_29, b6_29⟩ := hnew
    rw [if_neg hw20] at e1_29
    rw [if_neg (fun z => hw20 z.1)] at e2_29
    have hk029 := Sk_b β (n := n) (c := (η20 5)) (by omega)
    have hk129 := Rd_b β (n := n) (c := (η20 5)) (by omega)
    have hk329 := RNum_b β n (η20 5) 0 9999
    have hk429 := rN_b (b := β) (n := n) (c := (η20 5)) (by omega)
    have hw29 : ¬ η29 1 = 0 := by omega
    refine lv_istore_n (pc := 32) (lv' := [(2, .int (iI (rN β n (η20 5)))), (1, .int (iI (fnS δ (rW β n (Te β n c)) 0))), (0, .ref (o 0))]) E.1 E.2 dX5_readFile_32 rfl hl (by decide) rfl (fun ls hl => ?_)
    refine lv_aload_n (pc := 33) E.1 E.2 dX5_readFile_33 rfl (lv_at hl 2 rfl) ?_
    refine g5_1 (pc := 34) E hts hin5 hown hK hR.ob (hts _ (List.mem_of_getElem? (i := 3) rfl)) dX5_readFile_34 ?_
    refine z_if_ne (pc := 37) (tgt := 52) E ⟨by omega, by omega⟩ dX5_readFile_37 (by decide) (fun h37 => ?_) (fun h37 => ?_)
    · exact z_retWv (P1 := fun H9 : Heap => ∃ (η1 δ1 : Int → Int), RD G o η1 δ1 (fun j => sg8 (β j)) H9 ∧ (xFil β n δ c = 0 → η1 1 = 0 ∧ η1 5 = Te β n (Te β n (Te β n c)) ∧ η1 2 = η 2 ∧ δ1 = fFil β n δ c) ∧ (¬ xFil β n δ c = 0 → η1 1 = xFil β n δ c ∧ η1 2 = pFil β n δ c) ∧ (-4 ≤ η1 1 ∧ η1 1 ≤ 0) ∧ (η1 4 = η 4) ∧ (In δ1) ∧ (0 ≤ η1 5 ∧ η1 5 ≤ n) ∧ (0 ≤ η1 6 ∧ η1 6 ≤ n)) E hr ⟨η29, δ, hR, (fun z => absurd z (by (try unfold xFil); (try unfold pFil); omega)), (fun z => And.intro (by (try unfold xFil); (try unfold pFil); omega) (by (try unfold xFil); (try unfold pFil); omega)), (by first | rfl | (simp only [zu, Int.reduceEq, reduceIte]; done) | (simp only [zu, Int.reduceEq, reduceIte]; omega) | omega), (by first | rfl | (simp only [zu, Int.reduceEq, reduceIte]; done) | (simp only [zu, Int.reduceEq, reduceIte]; omega) | omega), hI, (by first | rfl | (simp only [zu, Int.reduceEq, reduceIte]; done) | (simp only [zu, Int.reduceEq, reduceIte]; omega) | omega), (by first | rfl | (simp only [zu, Int.reduceEq, reduceIte]; done) | (simp only [zu, Int.reduceEq, reduceIte]; omega) | omega)⟩ hS hlocks dX5_readFile_52
    · exact absurd h37 (by first | exact hw29 | exact fun q => hw29 q | omega)
  · refine lv_aload_n (pc := 13) E.1 E.2 dX5_readFile_13 rfl (lv_at hl 0 rfl) ?_
    refine z_bipush (pc := 14) E (by decide) dX5_readFile_14 ?_
    refine z_wVv (pc := 16) (P1 := fun H9 : Heap => ∃ (η16 : Int → Int), RD G o η16 δ (fun j => sg8 (β j)) H9 ∧ (η16 1 = if η 1 = 0 then (-4) else η 1) ∧ (η16 2 = if η 1 = 0 then η 6 else η 2) ∧ (η16 4 = η 4) ∧ (η16 5 = η 5) ∧ (η16 6 = η 6)) (As := [.int (iI (-4))]) (rest := []) E hml hown hts (mX5_fail lL G o η δ β (-4) (by omega) (by omega)) (cwV 1 hts gX5_readFile_X5_fail rfl rfl rfl vdX5_fail ⟨Nat.le_of_ble_eq_true rfl, Nat.le_of_ble_eq_true rfl⟩) (oB.recv hK hR.ob rfl) hR hK hS (fun _ h => h) rfl hl.1 rfl dX5_readFile_16 hcs (Nat.le_of_ble_eq_true rfl) (fun H locs hnew hsz hoth hS => ?_)
    obtain ⟨η16, hR, e1_16, e2_16, e4_16, e5_16, e6_16⟩ := hnew
    rw [if_pos hw] at e1_16
    rw [if_pos hw] at e2_16
    have hw16 : ¬ η16 1 = 0 := by omega
    refine lv_aload_n (pc := 19) E.1 E.2 dX5_readFile_19 rfl (lv_at hl 0 rfl) ?_
    refine z_wVi (pc := 20) (P1 := fun H9 : Heap => ∃ (η20 : Int → Int), RD G o η20 δ (fun j => sg8 (β j)) H9 ∧ (η20 1 = if η16 1 = 0 then RFol β n δ (η16 5) else η16 1) ∧ (η20 2 = if η16 1 = 0 ∧ ¬ RFol β n δ (η16 5) = 0 then Sk β n (η16 5) else η16 2) ∧ (-4 ≤ η20 1 ∧ η20 1 ≤ 0) ∧ (η20 4 = η16 4) ∧ (η20 5 = Rl β n (η16 5)) ∧ (η20 6 = Sk β n (η16 5)) ∧ (0 ≤ η20 5 ∧ η20 5 ≤ n) ∧ (0 ≤ η20 6 ∧ η20 6 ≤ n)) (As := []) (rest := []) E hml hown hts (mX5_readFolderName lL G o η16 δ β n (η16 5) (by omega) hb (by omega) (by omega) (by omega) (by omega) hI (by omega) (by first | rfl | assumption | exact Sk_Sk _ _ _ | (congr 1 <;> omega))) (cwV 0 hts gX5_readFile_X5_readFolderName rfl rfl rfl vdX5_readFolderName ⟨Nat.le_of_ble_eq_true rfl, Nat.le_of_ble_eq_true rfl⟩) (oB.recv hK hR.ob rfl) hR hK hS (fun _ h => h) rfl hl.1 rfl dX5_readFile_20 hcs (Nat.le_of_ble_eq_true rfl) (fun H locs hnew hsz hoth hS => ?_)
    obtain ⟨η20, hR, e1_20, e2_20, b1_20, e4_20, e5_20, e6_20, b5_20, b6_20⟩ := hnew
    rw [if_neg hw16] at e1_20
    rw [if_neg (fun z => hw16 z.1)] at e2_20
    have hk020 := Sk_b β (n := n) (c := (η16 5)) (by omega)
    have hk120 := Rl_b β (n := n) (c := (η16 5)) (by omega)
    have hk320 := RFol_b β δ n (η16 5)
    have hfz20 := fnS_r hI (rW β n (η16 5))
    have hw20 : ¬ η20 1 = 0 := by omega
    refine lv_istore_n (pc := 23) (lv' := [(1, .int (iI (fnS δ (rW β n (η16 5)) 0))), (0, .ref (o 0))]) E.1 E.2 dX5_readFile_23 rfl hl (by decide) rfl (fun ls hl => ?_)
    refine lv_aload_n (pc := 24) E.1 E.2 dX5_readFile_24 rfl (lv_at hl 1 rfl) ?_
    refine z_iconst (pc := 25) E dX5_readFile_25 ?_
    refine z_sipush (pc := 26) E (by decide) dX5_readFile_26 ?_
    refine z_wVi (pc := 29) (P1 := fun H9 : Heap => ∃ (η29 : Int → Int), RD G o η29 δ (fun j => sg8 (β j)) H9 ∧ (η29 1 = if η20 1 = 0 then RNum β n (η20 5) 0 9999 else η20 1) ∧ (η29 2 = if η20 1 = 0 ∧ ¬ RNum β n (η20 5) 0 9999 = 0 then Sk β n (η20 5) else η20 2) ∧ (-4 ≤ η29 1 ∧ η29 1 ≤ 0) ∧ (η29 4 = η20 4) ∧ (η29 5 = Rd β n (η20 5)) ∧ (η29 6 = Sk β n (η20 5)) ∧ (0 ≤ η29 5 ∧ η29 5 ≤ n) ∧ (0 ≤ η29 6 ∧ η29 6 ≤ n)) (As := [.int (iI 0), .int (iI 9999)]) (rest := []) E hml hown hts (mX5_readNumber lL G o η20 δ β 0 9999 n (η20 5) (by omega) hb (by omega) (by omega) (by omega) (by omega) (by omega) (by first | rfl | assumption | exact Sk_Sk _ _ _ | (congr 1 <;> omega)) (by omega) (by omega)) (cwV 2 hts gX5_readFile_X5_readNumber rfl rfl rfl vdX5_readNumber ⟨Nat.le_of_ble_eq_true rfl, Nat.le_of_ble_eq_true rfl⟩) (oB.recv hK hR.ob rfl) hR hK hS (fun _ h => h) rfl hl.1 rfl dX5_readFile_29 hcs (Nat.le_of_ble_eq_true rfl) (fun H locs hnew hsz hoth hS => ?_)
    obtain ⟨η29, hR, e1_29, e2_29, b1_29, e4_29, e5_29, e6_29, b5_29, b6_29⟩ := hnew
    rw [if_neg hw20] at e1_29
    rw [if_neg (fun z => hw20 z.1)] at e2_29
    have hk029 := Sk_b β (n := n) (c := (η20 5)) (by omega)
    have hk129 := Rd_b β (n := n) (c := (η20 5)) (by omega)
    have hk329 := RNum_b β n (η20 5) 0 9999
    have hk429 := rN_b (b := β) (n := n) (c := (η20 5)) (by omega)
    have hw29 : ¬ η29 1 = 0 := by omega
    refine lv_istore_n (pc := 32) (lv' := [(2, .int (iI (rN β n (η20 5)))), (1, .int (iI (fnS δ (rW β n (η16 5)) 0))), (0, .ref (o 0))]) E.1 E.2 dX5_readFile_32 rfl hl (by decide) rfl (fun ls hl => ?_)
    refine lv_aload_n (pc := 33) E.1 E.2 dX5_readFile_33 rfl (lv_at hl 2 rfl) ?_
    refine g5_1 (pc := 34) E hts hin5 hown hK hR.ob (hts _ (List.mem_of_getElem? (i := 3) rfl)) dX5_readFile_34 ?_
    refine z_if_ne (pc := 37) (tgt := 52) E ⟨by omega, by omega⟩ dX5_readFile_37 (by decide) (fun h37 => ?_) (fun h37 => ?_)
    · exact z_retWv (P1 := fun H9 : Heap => ∃ (η1 δ1 : Int → Int), RD G o η1 δ1 (fun j => sg8 (β j)) H9 ∧ (xFil β n δ c = 0 → η1 1 = 0 ∧ η1 5 = Te β n (Te β n (Te β n c)) ∧ η1 2 = η 2 ∧ δ1 = fFil β n δ c) ∧ (¬ xFil β n δ c = 0 → η1 1 = xFil β n δ c ∧ η1 2 = pFil β n δ c) ∧ (-4 ≤ η1 1 ∧ η1 1 ≤ 0) ∧ (η1 4 = η 4) ∧ (In δ1) ∧ (0 ≤ η1 5 ∧ η1 5 ≤ n) ∧ (0 ≤ η1 6 ∧ η1 6 ≤ n)) E hr ⟨η29, δ, hR, (fun z => absurd z (by (try unfold xFil); (try unfold pFil); omega)), (fun z => And.intro (by (try unfold xFil); (try unfold pFil); omega) (by (try unfold xFil); (try unfold pFil); omega)), (by first | rfl | (simp only [zu, Int.reduceEq, reduceIte]; done) | (simp only [zu, Int.reduceEq, reduceIte]; omega) | omega), (by first | rfl | (simp only [zu, Int.reduceEq, reduceIte]; done) | (simp only [zu, Int.reduceEq, reduceIte]; omega) | omega), hI, (by first | rfl | (simp only [zu, Int.reduceEq, reduceIte]; done) | (simp only [zu, Int.reduceEq, reduceIte]; omega) | omega), (by first | rfl | (simp only [zu, Int.reduceEq, reduceIte]; done) | (simp only [zu, Int.reduceEq, reduceIte]; omega) | omega)⟩ hS hlocks dX5_readFile_52
    · exact absurd h37 (by first | exact hw29 | exact fun q => hw29 q | omega)
set_option maxHeartbeats 4000000 in
set_option maxRecDepth 100000 in
theorem mX5_readFileN (lL : Launch) (G : GG) (o : Nat → Nat) (η δ β : Int → Int) (n : Int) (h1 : -4 ≤ η 1 ∧ η 1 ≤ 0) (hb : TX β) (hn : 0 ≤ n ∧ n ≤ 900) (h4 : η 4 = n) (h5 : 0 ≤ η 5 ∧ η 5 ≤ n) (h6 : 0 ≤ η 6 ∧ η 6 ≤ n) (hI : In δ) (hw : ¬ η 1 = 0) : Met lL yX5_readFile wsX5_readFile ({ frames := 3, cells := 0, slots := 0, locals := 65 } : Room) (va_Pc [.ref (o 0)] (fun U => RD G o η δ (fun j => sg8 (β j)) U.heap ∧ KK G U)) (va_Qv (fun _ : Unit => True) (fun _ tZ => ∃ (η1 : Int → Int), RD G o η1 δ (fun j => sg8 (β j)) tZ.heap ∧ (η1 1 = η 1) ∧ (η1 2 = η 2) ∧ (η1 4 = η 4) ∧ (0 ≤ η1 5 ∧ η1 5 ≤ n) ∧ (0 ≤ η1 6 ∧ η1 6 ≤ n)) (Ax o 20)) 0 0 (Ax o 20) := by
  refine z_met (P := (fun H : Heap => RD G o η δ (fun j => sg8 (β j)) H)) (by decide) rfl (Nat.le_of_ble_eq_true rfl) (fun pp ee ss mm below meth cC E hr hml hown hts hlocks hR hK ls hl => ?_)
  have hl : lv_has ls 3 [(0, .ref (o 0))] := hl
  have hcs : 0 ≤ (({ frames := 3, cells := 0, slots := 0, locals := 65 } : Room)).cells ∧ 0 ≤ (({ frames := 3, cells := 0, slots := 0, locals := 65 } : Room)).slots := ⟨Nat.zero_le _, Nat.zero_le _⟩
  have hS : va_S (Ax o 20) ss.heap ss.heap [] := va_S.rf
  have hin5 : ∀ w ∈ wsX50, w ∈ wsX5_readFile := fun w h => List.mem_cons_of_mem _ (List.mem_append_left _ (List.mem_append_left _ (List.mem_append_left _ (List.mem_append_right _ (h)))))
  have hin6 : ∀ w ∈ wsX60, w ∈ wsX5_readFile := fun w h => List.mem_cons_of_mem _ (List.mem_append_left _ (List.mem_append_left _ (List.mem_append_right _ (h))))
  have hF := hI.F
  have hMm := hI.M
  have hGn := hI.Gn
  refine lv_aload_n (pc := 0) E.1 E.2 dX5_readFile_0 rfl (lv_at hl 0 rfl) ?_
  refine g5_0 (pc := 1) E hts hin5 hown hK hR.ob (hts _ (List.mem_of_getElem? (i := 1) rfl)) dX5_readFile_1 ?_
  refine g6_1 (pc := 4) E hts hin6 hown hK hR.dob (hts _ (List.mem_of_getElem? (i := 2) rfl)) dX5_readFile_4 ?_
  refine z_rVi (pc := 7) (As := []) (rest := []) E hml hown hts (mX2_isFull lL G (fun k => o (2 + (5 + k))) δ  hI) (cwV 0 hts gX5_readFile_X2_isFull rfl rfl rfl vdX2_isFull ⟨Nat.le_of_ble_eq_true rfl, Nat.le_of_ble_eq_true rfl⟩) (oB.recv hK hR.fio rfl) hR.dra.fi hK rfl hl.1 rfl dX5_readFile_7 hcs (Nat.le_of_ble_eq_true rfl) ?_
  refine z_ifb_eq (pc := 10) (tgt := 19) E dX5_readFile_10 (by decide) (fun h10 => ?_) (fun h10 => ?_)
  · refine lv_aload_n (pc := 19) E.1 E.2 dX5_readFile_19 rfl (lv_at hl 0 rfl) ?_
    refine z_wVi (pc := 20) (P1 := fun H9 : Heap => ∃ (η20 : Int → Int), RD G o η20 δ (fun j => sg8 (β j)) H9 ∧ (η20 1 = if η 1 = 0 then RFol β n δ (η 5) else η 1) ∧ (η20 2 = if η 1 = 0 ∧ ¬ RFol β n δ (η 5) = 0 then Sk β n (η 5) else η 2) ∧ (-4 ≤ η20 1 ∧ η20 1 ≤ 0) ∧ (η20 4 = η 4) ∧ (η20 5 = Rl β n (η 5)) ∧ (η20 6 = Sk β n (η 5)) ∧ (0 ≤ η20 5 ∧ η20 5 ≤ n) ∧ (0 ≤ η20 6 ∧ η20 6 ≤ n)) (As := []) (rest := []) E hml hown hts (mX5_readFolderName lL G o η δ β n (η 5) (by omega) hb (by omega) (by omega) (by omega) (by omega) hI (by omega) (by first | rfl | assumption | exact Sk_Sk _ _ _ | (congr 1 <;> omega))) (cwV 0 hts gX5_readFile_X5_readFolderName rfl rfl rfl vdX5_readFolderName ⟨Nat.le_of_ble_eq_true rfl, Nat.le_of_ble_eq_true rfl⟩) (oB.recv hK hR.ob rfl) hR hK hS (fun _ h => h) rfl hl.1 rfl dX5_readFile_20 hcs (Nat.le_of_ble_eq_true rfl) (fun H locs hnew hsz hoth hS => ?_)
    obtain ⟨η20, hR, e1_20, e2_20, b1_20, e4_20, e5_20, e6_20, b5_20, b6_20⟩ := hnew
    rw [if_neg hw] at e1_20
    rw [if_neg (fun z => hw z.1)] at e2_20
    have hk020 := Sk_b β (n := n) (c := (η 5)) (by omega)
    have hk120 := Rl_b β (n := n) (c := (η 5)) (by omega)
    have hk320 := RFol_b β δ n (η 5)
    have hfz20 := fnS_r hI (rW β n (η 5))
    have hw20 : ¬ η20 1 = 0 := by omega
    refine lv_istore_n (pc := 23) (lv' := [(1, .int (iI (fnS δ (rW β n (η 5)) 0))), (0, .ref (o 0))]) E.1 E.2 dX5_readFile_23 rfl hl (by decide) rfl (fun ls hl => ?_)
    refine lv_aload_n (pc := 24) E.1 E.2 dX5_readFile_24 rfl (lv_at hl 1 rfl) ?_
    refine z_iconst (pc := 25) E dX5_readFile_25 ?_
    refine z_sipush (pc := 26) E (by decide) dX5_readFile_26 ?_
    refine z_wVi (pc := 29) (P1 := fun H9 : Heap => ∃ (η29 : Int → Int), RD G o η29 δ (fun j => sg8 (β j)) H9 ∧ (η29 1 = if η20 1 = 0 then RNum β n (η20 5) 0 9999 else η20 1) ∧ (η29 2 = if η20 1 = 0 ∧ ¬ RNum β n (η20 5) 0 9999 = 0 then Sk β n (η20 5) else η20 2) ∧ (-4 ≤ η29 1 ∧ η29 1 ≤ 0) ∧ (η29 4 = η20 4) ∧ (η29 5 = Rd β n (η20 5)) ∧ (η29 6 = Sk β n (η20 5)) ∧ (0 ≤ η29 5 ∧ η29 5 ≤ n) ∧ (0 ≤ η29 6 ∧ η29 6 ≤ n)) (As := [.int (iI 0), .int (iI 9999)]) (rest := []) E hml hown hts (mX5_readNumber lL G o η20 δ β 0 9999 n (η20 5) (by omega) hb (by omega) (by omega) (by omega) (by omega) (by omega) (by first | rfl | assumption | exact Sk_Sk _ _ _ | (congr 1 <;> omega)) (by omega) (by omega)) (cwV 2 hts gX5_readFile_X5_readNumber rfl rfl rfl vdX5_readNumber ⟨Nat.le_of_ble_eq_true rfl, Nat.le_of_ble_eq_true rfl⟩) (oB.recv hK hR.ob rfl) hR hK hS (fun _ h => h) rfl hl.1 rfl dX5_readFile_29 hcs (Nat.le_of_ble_eq_true rfl) (fun H locs hnew hsz hoth hS => ?_)
    obtain ⟨η29, hR, e1_29, e2_29, b1_29, e4_29, e5_29, e6_29, b5_29, b6_29⟩ := hnew
    rw [if_neg hw20] at e1_29
    rw [if_neg (fun z => hw20 z.1)] at e2_29
    have hk029 := Sk_b β (n := n) (c := (η20 5)) (by omega)
    have hk129 := Rd_b β (n := n) (c := (η20 5)) (by omega)
    have hk329 := RNum_b β n (η20 5) 0 9999
    have hk429 := rN_b (b := β) (n := n) (c := (η20 5)) (by omega)
    have hw29 : ¬ η29 1 = 0 := by omega
    refine lv_istore_n (pc := 32) (lv' := [(2, .int (iI (rN β n (η20 5)))), (1, .int (iI (fnS δ (rW β n (η 5)) 0))), (0, .ref (o 0))]) E.1 E.2 dX5_readFile_32 rfl hl (by decide) rfl (fun ls hl => ?_)
    refine lv_aload_n (pc := 33) E.1 E.2 dX5_readFile_33 rfl (lv_at hl 2 rfl) ?_
    refine g5_1 (pc := 34) E hts hin5 hown hK hR.ob (hts _ (List.mem_of_getElem? (i := 3) rfl)) dX5_readFile_34 ?_
    refine z_if_ne (pc := 37) (tgt := 52) E ⟨by omega, by omega⟩ dX5_readFile_37 (by decide) (fun h37 => ?_) (fun h37 => ?_)
    · exact z_retWv (P1 := fun H9 : Heap => ∃ (η1 : Int → Int), RD G o η1 δ (fun j => sg8 (β j)) H9 ∧ (η1 1 = η 1) ∧ (η1 2 = η 2) ∧ (η1 4 = η 4) ∧ (0 ≤ η1 5 ∧ η1 5 ≤ n) ∧ (0 ≤ η1 6 ∧ η1 6 ≤ n)) E hr ⟨η29, hR, (by first | rfl | (simp only [zu, Int.reduceEq, reduceIte]; done) | (simp only [zu, Int.reduceEq, reduceIte]; omega) | omega), (by first | rfl | (simp only [zu, Int.reduceEq, reduceIte]; done) | (simp only [zu, Int.reduceEq, reduceIte]; omega) | omega), (by first | rfl | (simp only [zu, Int.reduceEq, reduceIte]; done) | (simp only [zu, Int.reduceEq, reduceIte]; omega) | omega), (by first | rfl | (simp only [zu, Int.reduceEq, reduceIte]; done) | (simp only [zu, Int.reduceEq, reduceIte]; omega) | omega), (by first | rfl | (simp only [zu, Int.reduceEq, reduceIte]; done) | (simp only [zu, Int.reduceEq, reduceIte]; omega) | omega)⟩ hS hlocks dX5_readFile_52
    · exact absurd h37 (by first | exact hw29 | exact fun q => hw29 q | omega)
  · refine lv_aload_n (pc := 13) E.1 E.2 dX5_readFile_13 rfl (lv_at hl 0 rfl) ?_
    refine z_bipush (pc := 14) E (by decide) dX5_readFile_14 ?_
    refine z_wVv (pc := 16) (P1 := fun H9 : Heap => ∃ (η16 : Int → Int), RD G o η16 δ (fun j => sg8 (β j)) H9 ∧ (η16 1 = if η 1 = 0 then (-4) else η 1) ∧ (η16 2 = if η 1 = 0 then η 6 else η 2) ∧ (η16 4 = η 4) ∧ (η16 5 = η 5) ∧ (η16 6 = η 6)) (As := [.int (iI (-4))]) (rest := []) E hml hown hts (mX5_fail lL G o η δ β (-4) (by omega) (by omega)) (cwV 1 hts gX5_readFile_X5_fail rfl rfl rfl vdX5_fail ⟨Nat.le_of_ble_eq_true rfl, Nat.le_of_ble_eq_true rfl⟩) (oB.recv hK hR.ob rfl) hR hK hS (fun _ h => h) rfl hl.1 rfl dX5_readFile_16 hcs (Nat.le_of_ble_eq_true rfl) (fun H locs hnew hsz hoth hS => ?_)
    obtain ⟨η16, hR, e1_16, e2_16, e4_16, e5_16, e6_16⟩ := hnew
    rw [if_neg hw] at e1_16
    rw [if_neg hw] at e2_16
    have hw16 : ¬ η16 1 = 0 := by omega
    refine lv_aload_n (pc := 19) E.1 E.2 dX5_readFile_19 rfl (lv_at hl 0 rfl) ?_
    refine z_wVi (pc := 20) (P1 := fun H9 : Heap => ∃ (η20 : Int → Int), RD G o η20 δ (fun j => sg8 (β j)) H9 ∧ (η20 1 = if η16 1 = 0 then RFol β n δ (η16 5) else η16 1) ∧ (η20 2 = if η16 1 = 0 ∧ ¬ RFol β n δ (η16 5) = 0 then Sk β n (η16 5) else η16 2) ∧ (-4 ≤ η20 1 ∧ η20 1 ≤ 0) ∧ (η20 4 = η16 4) ∧ (η20 5 = Rl β n (η16 5)) ∧ (η20 6 = Sk β n (η16 5)) ∧ (0 ≤ η20 5 ∧ η20 5 ≤ n) ∧ (0 ≤ η20 6 ∧ η20 6 ≤ n)) (As := []) (rest := []) E hml hown hts (mX5_readFolderName lL G o η16 δ β n (η16 5) (by omega) hb (by omega) (by omega) (by omega) (by omega) hI (by omega) (by first | rfl | assumption | exact Sk_Sk _ _ _ | (congr 1 <;> omega))) (cwV 0 hts gX5_readFile_X5_readFolderName rfl rfl rfl vdX5_readFolderName ⟨Nat.le_of_ble_eq_true rfl, Nat.le_of_ble_eq_true rfl⟩) (oB.recv hK hR.ob rfl) hR hK hS (fun _ h => h) rfl hl.1 rfl dX5_readFile_20 hcs (Nat.le_of_ble_eq_true rfl) (fun H locs hnew hsz hoth hS => ?_)
    obtain ⟨η20, hR, e1_20, e2_20, b1_20, e4_20, e5_20, e6_20, b5_20, b6_20⟩ := hnew
    rw [if_neg hw16] at e1_20
    rw [if_neg (fun z => hw16 z.1)] at e2_20
    have hk020 := Sk_b β (n := n) (c := (η16 5)) (by omega)
    have hk120 := Rl_b β (n := n) (c := (η16 5)) (by omega)
    have hk320 := RFol_b β δ n (η16 5)
    have hfz20 := fnS_r hI (rW β n (η16 5))
    have hw20 : ¬ η20 1 = 0 := by omega
    refine lv_istore_n (pc := 23) (lv' := [(1, .int (iI (fnS δ (rW β n (η16 5)) 0))), (0, .ref (o 0))]) E.1 E.2 dX5_readFile_23 rfl hl (by decide) rfl (fun ls hl => ?_)
    refine lv_aload_n (pc := 24) E.1 E.2 dX5_readFile_24 rfl (lv_at hl 1 rfl) ?_
    refine z_iconst (pc := 25) E dX5_readFile_25 ?_
    refine z_sipush (pc := 26) E (by decide) dX5_readFile_26 ?_
    refine z_wVi (pc := 29) (P1 := fun H9 : Heap => ∃ (η29 : Int → Int), RD G o η29 δ (fun j => sg8 (β j)) H9 ∧ (η29 1 = if η20 1 = 0 then RNum β n (η20 5) 0 9999 else η20 1) ∧ (η29 2 = if η20 1 = 0 ∧ ¬ RNum β n (η20 5) 0 9999 = 0 then Sk β n (η20 5) else η20 2) ∧ (-4 ≤ η29 1 ∧ η29 1 ≤ 0) ∧ (η29 4 = η20 4) ∧ (η29 5 = Rd β n (η20 5)) ∧ (η29 6 = Sk β n (η20 5)) ∧ (0 ≤ η29 5 ∧ η29 5 ≤ n) ∧ (0 ≤ η29 6 ∧ η29 6 ≤ n)) (As := [.int (iI 0), .int (iI 9999)]) (rest := []) E hml hown hts (mX5_readNumber lL G o η20 δ β 0 9999 n (η20 5) (by omega) hb (by omega) (by omega) (by omega) (by omega) (by omega) (by first | rfl | assumption | exact Sk_Sk _ _ _ | (congr 1 <;> omega)) (by omega) (by omega)) (cwV 2 hts gX5_readFile_X5_readNumber rfl rfl rfl vdX5_readNumber ⟨Nat.le_of_ble_eq_true rfl, Nat.le_of_ble_eq_true rfl⟩) (oB.recv hK hR.ob rfl) hR hK hS (fun _ h => h) rfl hl.1 rfl dX5_readFile_29 hcs (Nat.le_of_ble_eq_true rfl) (fun H locs hnew hsz hoth hS => ?_)
    obtain ⟨η29, hR, e1_29, e2_29, b1_29, e4_29, e5_29, e6_29, b5_29, b6_29⟩ := hnew
    rw [if_neg hw20] at e1_29
    rw [if_neg (fun z => hw20 z.1)] at e2_29
    have hk029 := Sk_b β (n := n) (c := (η20 5)) (by omega)
    have hk129 := Rd_b β (n := n) (c := (η20 5)) (by omega)
    have hk329 := RNum_b β n (η20 5) 0 9999
    have hk429 := rN_b (b := β) (n := n) (c := (η20 5)) (by omega)
    have hw29 : ¬ η29 1 = 0 := by omega
    refine lv_istore_n (pc := 32) (lv' := [(2, .int (iI (rN β n (η20 5)))), (1, .int (iI (fnS δ (rW β n (η16 5)) 0))), (0, .ref (o 0))]) E.1 E.2 dX5_readFile_32 rfl hl (by decide) rfl (fun ls hl => ?_)
    refine lv_aload_n (pc := 33) E.1 E.2 dX5_readFile_33 rfl (lv_at hl 2 rfl) ?_
    refine g5_1 (pc := 34) E hts hin5 hown hK hR.ob (hts _ (List.mem_of_getElem? (i := 3) rfl)) dX5_readFile_34 ?_
    refine z_if_ne (pc := 37) (tgt := 52) E ⟨by omega, by omega⟩ dX5_readFile_37 (by decide) (fun h37 => ?_) (fun h37 => ?_)
    · exact z_retWv (P1 := fun H9 : Heap => ∃ (η1 : Int → Int), RD G o η1 δ (fun j => sg8 (β j)) H9 ∧ (η1 1 = η 1) ∧ (η1 2 = η 2) ∧ (η1 4 = η 4) ∧ (0 ≤ η1 5 ∧ η1 5 ≤ n) ∧ (0 ≤ η1 6 ∧ η1 6 ≤ n)) E hr ⟨η29, hR, (by first | rfl | (simp only [zu, Int.reduceEq, reduceIte]; done) | (simp only [zu, Int.reduceEq, reduceIte]; omega) | omega), (by first | rfl | (simp only [zu, Int.reduceEq, reduceIte]; done) | (simp only [zu, Int.reduceEq, reduceIte]; omega) | omega), (by first | rfl | (simp only [zu, Int.reduceEq, reduceIte]; done) | (simp only [zu, Int.reduceEq, reduceIte]; omega) | omega), (by first | rfl | (simp only [zu, Int.reduceEq, reduceIte]; done) | (simp only [zu, Int.reduceEq, reduceIte]; omega) | omega), (by first | rfl | (simp only [zu, Int.reduceEq, reduceIte]; done) | (simp only [zu, Int.reduceEq, reduceIte]; omega) | omega)⟩ hS hlocks dX5_readFile_52
    · exact absurd h37 (by first | exact hw29 | exact fun q => hw29 q | omega)
