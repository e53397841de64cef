set_option maxHeartbeats 4000000 in
set_option maxRecDepth 100000 in
theorem mX5_readLimitsZ (lL : Launch) (G : GG) (o : Nat → Nat) (η δ β : Int → Int) (n : Int) (c : Int) (h1 : -4 ≤ η 1 ∧ η 1 ≤ 0) (hb : TX β) (hn : 0 ≤ n ∧ n ≤ 900) (h4 : η 4 = n) (h5 : 0 ≤ η 5 ∧ η 5 ≤ n) (h6 : 0 ≤ η 6 ∧ η 6 ≤ n) (hI : In δ) (hw : η 1 = 0) (hc : 0 ≤ c ∧ c ≤ n) (ht6 : η 6 = Sk β n c) (hsk : Sk β n (η 5) = Sk β n (Te β n c)) : Met lL yX5_readLimits wsX5_readLimits ({ frames := 2, cells := 0, slots := 0, locals := 63 } : Room) (va_Pc [.ref (o 0)] (fun U => RD G o η δ (fun j => sg8 (β j)) U.heap ∧ KK G U)) (va_Qv (fun _ : Unit => True) (fun _ tZ => ∃ (η1 δ1 : Int → Int), RD G o η1 δ1 (fun j => sg8 (β j)) tZ.heap ∧ (xLim β n c = 0 → η1 1 = 0 ∧ η1 5 = cLim β n c ∧ η1 2 = η 2 ∧ δ1 = fLim β n δ c) ∧ (¬ xLim β n c = 0 → η1 1 = xLim β n c ∧ η1 2 = pLim β n c) ∧ (-4 ≤ η1 1 ∧ η1 1 ≤ 0) ∧ (η1 4 = η 4) ∧ (In δ1) ∧ (0 ≤ η1 5 ∧ η1 5 ≤ n) ∧ (0 ≤ η1 6 ∧ η1 6 ≤ n)) (Ax o 20)) 0 0 (Ax o 20) := by
  refine z_met (P := (fun H : Heap => RD G o η δ (fun j => sg8 (β j)) H)) (by decide) rfl (Nat.le_of_ble_eq_true rfl) (fun pp ee ss mm below meth cC E hr hml hown hts hlocks hR hK ls hl => ?_)
  have hl : lv_has ls 5 [(0, .ref (o 0))] := hl
  have hcs : 0 ≤ (({ frames := 2, cells := 0, slots := 0, locals := 63 } : Room)).cells ∧ 0 ≤ (({ frames := 2, cells := 0, slots := 0, locals := 63 } : Room)).slots := ⟨Nat.zero_le _, Nat.zero_le _⟩
  have hS : va_S (Ax o 20) ss.heap ss.heap [] := va_S.rf
  have hin5 : ∀ w ∈ wsX50, w ∈ wsX5_readLimits := fun w h => List.mem_cons_of_mem _ (List.mem_append_left _ (List.mem_append_left _ (List.mem_append_right _ (h))))
  have hin6 : ∀ w ∈ wsX60, w ∈ wsX5_readLimits := fun w h => List.mem_cons_of_mem _ (List.mem_append_left _ (List.mem_append_right _ (h)))
  have hF := hI.F
  have hMm := hI.M
  have hGn := hI.Gn
  have htc := Te_b β (n := n) (c := c) (by omega)
  have hskc := Sk_b β (n := n) (c := c) (by omega)
  refine lv_aload_n (pc := 0) E.1 E.2 dX5_readLimits_0 rfl (lv_at hl 0 rfl) ?_
  refine z_iconst (pc := 1) E dX5_readLimits_1 ?_
  refine z_bipush (pc := 2) E (by decide) dX5_readLimits_2 ?_
  refine z_wVi (pc := 4) (P1 := fun H9 : Heap => ∃ (η4 : Int → Int), RD G o η4 δ (fun j => sg8 (β j)) H9 ∧ (η4 1 = if η 1 = 0 then RNum β n (Te β n c) 0 7 else η 1) ∧ (η4 2 = if η 1 = 0 ∧ ¬ RNum β n (Te β n c) 0 7 = 0 then Sk β n (Te β n c) else η 2) ∧ (-4 ≤ η4 1 ∧ η4 1 ≤ 0) ∧ (η4 4 = η 4) ∧ (η4 5 = Rd β n (Te β n c)) ∧ (η4 6 = Sk β n (Te β n c)) ∧ (0 ≤ η4 5 ∧ η4 5 ≤ n) ∧ (0 ≤ η4 6 ∧ η4 6 ≤ n)) (As := [.int (iI 0), .int (iI 7)]) (rest := []) E hml hown hts (mX5_readNumber lL G o η δ β 0 7 n (Te β n c) (by omega) hb (by omega) (by omega) (by omega) (by omega) (by omega) (by first | rfl | assumption | exact Sk_Sk _ _ _ | (congr 1 <;> omega)) (by omega) (by omega)) (cwV 2 hts gX5_readLimits_X5_readNumber rfl rfl rfl vdX5_readNumber ⟨Nat.le_of_ble_eq_true rfl, Nat.le_of_ble_eq_true rfl⟩) (oB.recv hK hR.ob rfl) hR hK hS (fun _ h => h) rfl hl.1 rfl dX5_readLimits_4 hcs (Nat.le_of_ble_eq_true rfl) (fun H locs hnew hsz hoth hS => ?_)
  obtain ⟨η4, hR, e1_4, e2_4, b1_4, e4_4, e5_4, e6_4, b5_4, b6_4⟩ := hnew
  rw [if_pos hw] at e1_4
  have hk04 := Sk_b β (n := n) (c := (Te β n c)) (by omega)
  have hk14 := Rd_b β (n := n) (c := (Te β n c)) (by omega)
  have hk34 := RNum_b β n (Te β n c) 0 7
  have hk44 := rN_b (b := β) (n := n) (c := (Te β n c)) (by omega)
  by_cases hs4 : RNum β n (Te β n c) 0 7 = 0
  · rw [if_neg (fun z => z.2 hs4)] at e2_4
    have hw4 : η4 1 = 0 := by omega
    have ht4 := RNum_t (b := β) (n := n) (c := (Te β n c)) (by omega) (by omega) hs4
    have hu4 := RNum_0 hs4
    have htb4 := Te_b β (n := n) (c := (Te β n c)) (by omega)
    have h54 : η4 5 = Te β n (Te β n c) := by omega
    rw [ht4.2]
    refine lv_istore_n (pc := 7) (lv' := [(1, .int (iI (Nm β n (Te β n c)))), (0, .ref (o 0))]) E.1 E.2 dX5_readLimits_7 rfl hl (by decide) rfl (fun ls hl => ?_)
    refine z_iconst (pc := 8) E dX5_readLimits_8 ?_
    refine lv_istore_n (pc := 9) (lv' := [(2, .int (iI 0)), (1, .int (iI (Nm β n (Te β n c)))), (0, .ref (o 0))]) E.1 E.2 dX5_readLimits_9 rfl hl (by decide) rfl (fun ls hl => ?_)
    suffices L10 : ∀ (nf : Nat), ∀ (q k : Int) (ηL : Int → Int) (δL : Int → Int), (0 ≤ k ∧ k ≤ 2) → (0 ≤ q ∧ q ≤ 7) → (-4 ≤ ηL 1 ∧ ηL 1 ≤ 0) → (ηL 4 = n) → (0 ≤ ηL 5 ∧ ηL 5 ≤ n) → (0 ≤ ηL 6 ∧ ηL 6 ≤ n) → (In δL) → ((ηL 1 = 0 ∧ ηL 5 = lc β n c k.toNat ∧ ηL 2 = η 2 ∧ δL = lf β n δ c k.toNat ∧ lx β n c k.toNat = 0 ∧ q = Nm β n (Te β n c)) ∨ (¬ ηL 1 = 0 ∧ ηL 1 = lx β n c k.toNat ∧ ηL 2 = lp β n c k.toNat)) → ((2 - k).toNat) < nf → ∀  (H : Heap) (locs : List Loc), RD G o ηL δL (fun j => sg8 (β j)) H → va_S (Ax o 20) ss.heap H locs → ∀ ls : Array Slot, lv_has ls 5 [(2, .int (iI k)), (1, .int (iI q)), (0, .ref (o 0))] → W pp lL ee ({ frames := 2, cells := 0, slots := 0, locals := 63 } : Room) ss mm [.ref (o 0)].toArray below meth cC H locs 0 0 (MQ below (va_Qv (fun _ : Unit => True) (fun _ tZ => ∃ (η1 δ1 : Int → Int), RD G o η1 δ1 (fun j => sg8 (β j)) tZ.heap ∧ (xLim β n c = 0 → η1 1 = 0 ∧ η1 5 = cLim β n c ∧ η1 2 = η 2 ∧ δ1 = fLim β n δ c) ∧ (¬ xLim β n c = 0 → η1 1 = xLim β n c ∧ η1 2 = pLim β n c) ∧ (-4 ≤ η1 1 ∧ η1 1 ≤ 0) ∧ (η1 4 = η 4) ∧ (In δ1) ∧ (0 ≤ η1 5 ∧ η1 5 ≤ n) ∧ (0 ≤ η1 6 ∧ η1 6 ≤ n)) (Ax o 20)) [.ref (o 0)].toArray ss 0 0 (Ax o 20)) (F0 mm 10 ls []) from L10 _ (Nm β n (Te β n c)) 0 η4 δ (by omega) (by omega) (by omega) (by omega) (by omega) (by omega) hI (Or.inl ⟨hw4, h54, (by omega), rfl, hs4, rfl⟩) (Nat.lt_succ_self _)  _ _ hR hS ls (lv_sub hl [0, 1, 2] rfl)
    intro nfL10
    induction nfL10 with
    | zero => intro q k ηL δL hk hq hb1 h4L h5B h6B hJL hz hmzL10; exact absurd hmzL10 (Nat.not_lt_zero _)
    | succ nfL10 ihL10 =>
      intro q k ηL δL hk hq hb1 h4L h5B h6B hJL hz hmzL10  H locs hR hS ls hl
      obtain ⟨gc, hgc⟩ : ∃ z : Int, HidE z (lc β n c k.toNat) := ⟨_, rfl⟩
      obtain ⟨gx, hgx⟩ : ∃ z : Int, HidE z (lx β n c k.toNat) := ⟨_, rfl⟩
      obtain ⟨gp, hgp⟩ : ∃ z : Int, HidE z (lp β n c k.toNat) := ⟨_, rfl⟩
      rw [hgc.e, hgx.e, hgp.e] at hz
      have hgb : 0 ≤ gc ∧ gc ≤ n := by rw [← hgc.e]; exact lc_b β hc _
      have hgy : gx = 0 ∨ gx = -2 ∨ gx = -3 := by rw [← hgx.e]; exact lx_b β n c _
      refine lv_iload_n (pc := 10) E.1 E.2 dX5_readLimits_10 rfl (lv_at hl 0 rfl) ?_
      refine z_iconst (pc := 11) E dX5_readLimits_11 ?_
      refine z_icmp_ge (pc := 12) (tgt := 80) E ⟨by omega, by omega⟩ (by decide) dX5_readLimits_12 (by decide) (fun h12 => ?_) (fun h12 => ?_)
      · have ek : k = 2 := by omega
        rw [← hgc.e, ← hgx.e, ← hgp.e] at hz
        clear hgc hgx hgp hgb hgy
        subst ek
        exact z_retWv (P1 := fun H9 : Heap => ∃ (η1 δ1 : Int → Int), RD G o η1 δ1 (fun j => sg8 (β j)) H9 ∧ (xLim β n c = 0 → η1 1 = 0 ∧ η1 5 = cLim β n c ∧ η1 2 = η 2 ∧ δ1 = fLim β n δ c) ∧ (¬ xLim β n c = 0 → η1 1 = xLim β n c ∧ η1 2 = pLim β n c) ∧ (-4 ≤ η1 1 ∧ η1 1 ≤ 0) ∧ (η1 4 = η 4) ∧ (In δ1) ∧ (0 ≤ η1 5 ∧ η1 5 ≤ n) ∧ (0 ≤ η1 6 ∧ η1 6 ≤ n)) E hr ⟨ηL, δL, hR, (fun z => by rcases hz with h | h; exact And.intro h.1 (And.intro h.2.1 (And.intro h.2.2.1 h.2.2.2.1)); exact absurd (h.2.1.trans z) h.1), (fun z => by rcases hz with h | h; exact absurd h.2.2.2.2.1 z; exact h.2), (by first | rfl | (simp only [zu, Int.reduceEq, reduceIte]; done) | (simp only [zu, Int.reduceEq, reduceIte]; omega) | omega), (by first | rfl | (simp only [zu, Int.reduceEq, reduceIte]; done) | (simp only [zu, Int.reduceEq, reduceIte]; omega) | omega), hJL, (by first | rfl | (simp only [zu, Int.reduceEq, reduceIte]; done) | (simp only [zu, Int.reduceEq, reduceIte]; omega) | omega), (by first | rfl | (simp only [zu, Int.reduceEq, reduceIte]; done) | (simp only [zu, Int.reduceEq, reduceIte]; omega) | omega)⟩ hS hlocks dX5_readLimits_80
      · refine lv_aload_n (pc := 15) E.1 E.2 dX5_readLimits_15 rfl (lv_at hl 2 rfl) ?_
        by_cases hzz : ηL 1 = 0
        · have hzL := hz.resolve_right (fun z => z.1 hzz)
          have h2L := hzL.2.2.1
          have hfL := hzL.2.2.2.1
          have h5L := hzL.2.1
          have hzx := hzL.2.2.2.2.1
          have hzq := hzL.2.2.2.2.2
          clear hz hzL
          refine z_iconst (pc := 16) E dX5_readLimits_16 ?_
          refine lv_ldc (pc := 17) (v := iI (99999)) E.1 E.2 hown (show (Jvm.Cond.constant RX5 98 (iI (99999))).before _ ss = true from (hts _ (List.mem_of_getElem? (i := 1) rfl))) dX5_readLimits_17 ?_
          refine z_wVi (pc := 19) (P1 := fun H9 : Heap => ∃ (η19 : Int → Int), RD G o η19 δL (fun j => sg8 (β j)) H9 ∧ (η19 1 = if ηL 1 = 0 then RNum β n gc 0 99999 else ηL 1) ∧ (η19 2 = if ηL 1 = 0 ∧ ¬ RNum β n gc 0 99999 = 0 then Sk β n gc else ηL 2) ∧ (-4 ≤ η19 1 ∧ η19 1 ≤ 0) ∧ (η19 4 = ηL 4) ∧ (η19 5 = Rd β n gc) ∧ (η19 6 = Sk β n gc) ∧ (0 ≤ η19 5 ∧ η19 5 ≤ n) ∧ (0 ≤ η19 6 ∧ η19 6 ≤ n)) (As := [.int (iI 0), .int (iI 99999)]) (rest := []) E hml hown hts (mX5_readNumber lL G o ηL δL β 0 99999 n gc (by omega) hb (by omega) (by omega) (by omega) (by omega) (by omega) (by first | rfl | assumption | exact Sk_Sk _ _ _ | (congr 1 <;> omega)) (by omega) (by omega)) (cwV 2 hts gX5_readLimits_X5_readNumber rfl rfl rfl vdX5_readNumber ⟨Nat.le_of_ble_eq_true rfl, Nat.le_of_ble_eq_true rfl⟩) (oB.recv hK hR.ob rfl) hR hK hS (fun _ h => h) rfl hl.1 rfl dX5_readLimits_19 hcs (Nat.le_of_ble_eq_true rfl) (fun H locs hnew hsz hoth hS => ?_)
          obtain ⟨η19, hR, e1_19, e2_19, b1_19, e4_19, e5_19, e6_19, b5_19, b6_19⟩ := hnew
          rw [if_pos hzz] at e1_19
          have hk019 := Sk_b β (n := n) (c := gc) (by omega)
          have hk119 := Rd_b β (n := n) (c := gc) (by omega)
          have hk319 := RNum_b β n gc 0 99999
          have hk419 := rN_b (b := β) (n := n) (c := gc) (by omega)
          by_cases hs19 : RNum β n gc 0 99999 = 0
          · rw [if_neg (fun z => z.2 hs19)] at e2_19
            have hw19 : η19 1 = 0 := by omega
            have ht19 := RNum_t (b := β) (n := n) (c := gc) (by omega) (by omega) hs19
            have hu19 := RNum_0 hs19
            have htb19 := Te_b β (n := n) (c := gc) (by omega)
            have h519 : η19 5 = Te β n gc := by omega
            rw [ht19.2]
            refine lv_istore_n (pc := 22) (lv' := [(3, .int (iI (Nm β n gc))), (2, .int (iI k)), (1, .int (iI q)), (0, .ref (o 0))]) E.1 E.2 dX5_readLimits_22 rfl hl (by decide) rfl (fun ls hl => ?_)
            refine lv_aload_n (pc := 23) E.1 E.2 dX5_readLimits_23 rfl (lv_at hl 3 rfl) ?_
            refine z_iconst (pc := 24) E dX5_readLimits_24 ?_
            refine lv_ldc (pc := 25) (v := iI (99999)) E.1 E.2 hown (show (Jvm.Cond.constant RX5 98 (iI (99999))).before _ ss = true from (hts _ (List.mem_of_getElem? (i := 1) rfl))) dX5_readLimits_25 ?_
            refine z_wVi (pc := 27) (P1 := fun H9 : Heap => ∃ (η27 : Int → Int), RD G o η27 δL (fun j => sg8 (β j)) H9 ∧ (η27 1 = if η19 1 = 0 then RNum β n (Te β n gc) 0 99999 else η19 1) ∧ (η27 2 = if η19 1 = 0 ∧ ¬ RNum β n (Te β n gc) 0 99999 = 0 then Sk β n (Te β n gc) else η19 2) ∧ (-4 ≤ η27 1 ∧ η27 1 ≤ 0) ∧ (η27 4 = η19 4) ∧ (η27 5 = Rd β n (Te β n gc)) ∧ (η27 6 = Sk β n (Te β n gc)) ∧ (0 ≤ η27 5 ∧ η27 5 ≤ n) ∧ (0 ≤ η27 6 ∧ η27 6 ≤ n)) (As := [.int (iI 0), .int (iI 99999)]) (rest := []) E hml hown hts (mX5_readNumber lL G o η19 δL β 0 99999 n (Te β n gc) (by omega) hb (by omega) (by omega) (by omega) (by omega) (by omega) (by first | rfl | assumption | exact Sk_Sk _ _ _ | (congr 1 <;> omega)) (by omega) (by omega)) (cwV 2 hts gX5_readLimits_X5_readNumber rfl rfl rfl vdX5_readNumber ⟨Nat.le_of_ble_eq_true rfl, Nat.le_of_ble_eq_true rfl⟩) (oB.recv hK hR.ob rfl) hR hK hS (fun _ h => h) rfl hl.1 rfl dX5_readLimits_27 hcs (Nat.le_of_ble_eq_true rfl) (fun H locs hnew hsz hoth hS => ?_)
            obtain ⟨η27, hR, e1_27, e2_27, b1_27, e4_27, e5_27, e6_27, b5_27, b6_27⟩ := hnew
            rw [if_pos hw19] at e1_27
            have hk027 := Sk_b β (n := n) (c := (Te β n gc)) (by omega)
            have hk127 := Rd_b β (n := n) (c := (Te β n gc)) (by omega)
            have hk327 := RNum_b β n (Te β n gc) 0 99999
            have hk427 := rN_b (b := β) (n := n) (c := (Te β n gc)) (by omega)
            have hrv27 := RNum_v β n (Te β n gc) 0 99999
            by_cases hs27 : RNum β n (Te β n gc) 0 99999 = 0
            · rw [if_neg (fun z => z.2 hs27)] at e2_27
              have hw27 : η27 1 = 0 := by omega
              have ht27 := RNum_t (b := β) (n := n) (c := (Te β n gc)) (by omega) (by omega) hs27
              have hu27 := RNum_0 hs27
              have htb27 := Te_b β (n := n) (c := (Te β n gc)) (by omega)
              have h527 : η27 5 = Te β n (Te β n gc) := by omega
              rw [ht27.2]
              refine lv_istore (pc := 30) (lv' := [(4, .int (iI (Nm β n (Te β n gc)))), (3, .int (iI (Nm β n gc))), (2, .int (iI k)), (1, .int (iI q)), (0, .ref (o 0))]) E.1 E.2 dX5_readLimits_30 hl (by decide) rfl (fun ls hl => ?_)
              refine lv_iload (pc := 32) E.1 E.2 dX5_readLimits_32 (lv_at hl 0 rfl) ?_
              refine z_if_le (pc := 34) (tgt := 49) E ⟨by omega, by omega⟩ dX5_readLimits_34 (by decide) (fun h34 => ?_) (fun h34 => ?_)
              · refine lv_aload_n (pc := 49) E.1 E.2 dX5_readLimits_49 rfl (lv_at hl 4 rfl) ?_
                refine g5_1 (pc := 50) E hts hin5 hown hK hR.ob (hts _ (List.mem_of_getElem? (i := 2) rfl)) dX5_readLimits_50 ?_
                refine z_if_ne (pc := 53) (tgt := 74) E ⟨by omega, by omega⟩ dX5_readLimits_53 (by decide) (fun h53 => ?_) (fun h53 => ?_)
                · exact absurd h53 (by first | exact hw27 | exact fun q => hw27 q | omega)
                · refine lv_aload_n (pc := 56) E.1 E.2 dX5_readLimits_56 rfl (lv_at hl 4 rfl) ?_
                  refine g5_0 (pc := 57) E hts hin5 hown hK hR.ob (hts _ (List.mem_of_getElem? (i := 3) rfl)) dX5_readLimits_57 ?_
                  refine g6_2 (pc := 60) E hts hin6 hown hK hR.dob (hts _ (List.mem_of_getElem? (i := 4) rfl)) dX5_readLimits_60 ?_
                  refine lv_iload_n (pc := 63) E.1 E.2 dX5_readLimits_63 rfl (lv_at hl 3 rfl) ?_
                  refine lv_iload_n (pc := 64) E.1 E.2 dX5_readLimits_64 rfl (lv_at hl 2 rfl) ?_
                  refine z_rSNi (pc := 65) (P := fun _ => True) (As := [.int (iI q), .int (iI k)]) (rest := [.ref (o 10)]) E hml hown hts (mX7_accountOf lL G q k) ⟨va_cnB 2 hts gX5_readLimits_X7_accountOf_n103 rfl rfl rfl hK.2.2.2.2.1 (hts _ (List.mem_of_getElem? (i := 29) rfl)) vdX7_accountOf.2 ⟨Nat.le_of_ble_eq_true rfl, Nat.le_of_ble_eq_true rfl⟩, (hts _ (List.mem_of_getElem? (i := 28) rfl)), trivial⟩ trivial hK rfl hl.1 rfl dX5_readLimits_65 hcs (Nat.le_of_ble_eq_true rfl) ?_
                  refine lv_iload_n (pc := 68) E.1 E.2 dX5_readLimits_68 rfl (lv_at hl 1 rfl) ?_
                  refine lv_iload (pc := 69) E.1 E.2 dX5_readLimits_69 (lv_at hl 0 rfl) ?_
                  refine z_wVv (pc := 71) (As := [.int (iI (2 * q + k)), .int (iI (Nm β n gc)), .int (iI (Nm β n (Te β n gc)))]) (rest := []) E hml hown hts (mX0_setLimits lL G (fun k => o (2 + (8 + k))) δL (2 * q + k) (Nm β n gc) (Nm β n (Te β n gc))  (by omega) (by omega) (by omega)) (cwV 3 hts gX5_readLimits_X0_setLimits rfl rfl rfl vdX0_setLimits ⟨Nat.le_of_ble_eq_true rfl, Nat.le_of_ble_eq_true rfl⟩) (oB.recv hK hR.aco rfl) hR.dra.ac hK hS (fun q ⟨k, hk, e⟩ => ⟨2 + (8 + k), by omega, e⟩) rfl hl.1 rfl dX5_readLimits_71 hcs (Nat.le_of_ble_eq_true rfl) (fun H locs hnew hsz hoth hS => ?_)
                  have hR := RD.upD hR (ST.upAC hR.dra hnew (fun q h1 h2 => hoth q h1 h2) (fun j hj => by rw [zu_n _ _ (by omega), zu_n _ _ (by omega)])) (fun q h1 h2 => hoth q h1 (fun ⟨k, hk, e⟩ => h2 ⟨8 + k, by omega, e⟩))
                  refine lv_iinc (pc := 74) (v := iI (k + 1)) (lv' := [(2, .int (iI (k + 1))), (4, .int (iI (Nm β n (Te β n gc)))), (3, .int (iI (Nm β n gc))), (1, .int (iI q)), (0, .ref (o 0))]) E.1 E.2 dX5_readLimits_74 hl (k := 2) rfl (iI_add _ _) (by decide) rfl (fun ls hl => ?_)
                  refine lv_goto (pc := 77) (tgt := 10) E.1 E.2 dX5_readLimits_77 (by decide) ?_
                  exact ihL10 q (k + 1) η27 (zu (zu δL (5 + (2 * q + k)) (Nm β n gc)) (21 + (2 * q + k)) (Nm β n (Te β n gc))) (by omega) (by omega) (by omega) (by omega) (by omega) (by omega) (limS2 hJL (by omega) (by omega) (by omega) (by omega)) (Or.inl (And.intro (by omega) (And.intro (by rw [lc_s β n c hk.1, hgc.e]; omega) (And.intro (by omega) (And.intro (by rw [lf_s β n δ c hk.1, ← hfL, ← hzq, hgc.e, Int.add_assoc 5, Int.add_assoc 21]) (And.intro (by rw [lx_s β n c hk.1, hgx.e, hgc.e]; unfold xL1; omega) hzq)))))) (by omega)  _ _ hR hS ls (lv_sub hl [0, 3, 4] rfl)
              · refine lv_iload (pc := 37) E.1 E.2 dX5_readLimits_37 (lv_at hl 0 rfl) ?_
                refine lv_iload_n (pc := 39) E.1 E.2 dX5_readLimits_39 rfl (lv_at hl 1 rfl) ?_
                refine z_icmp_ge (pc := 40) (tgt := 49) E ⟨by omega, by omega⟩ ⟨by omega, by omega⟩ dX5_readLimits_40 (by decide) (fun h40 => ?_) (fun h40 => ?_)
                · refine lv_aload_n (pc := 49) E.1 E.2 dX5_readLimits_49 rfl (lv_at hl 4 rfl) ?_
                  refine g5_1 (pc := 50) E hts hin5 hown hK hR.ob (hts _ (List.mem_of_getElem? (i := 2) rfl)) dX5_readLimits_50 ?_
                  refine z_if_ne (pc := 53) (tgt := 74) E ⟨by omega, by omega⟩ dX5_readLimits_53 (by decide) (fun h53 => ?_) (fun h53 => ?_)
                  · exact absurd h53 (by first | exact hw27 | exact fun q => hw27 q | omega)
                  · refine lv_aload_n (pc := 56) E.1 E.2 dX5_readLimits_56 rfl (lv_at hl 4 rfl) ?_
                    refine g5_0 (pc := 57) E hts hin5 hown hK hR.ob (hts _ (List.mem_of_getElem? (i := 3) rfl)) dX5_readLimits_57 ?_
                    refine g6_2 (pc := 60) E hts hin6 hown hK hR.dob (hts _ (List.mem_of_getElem? (i := 4) rfl)) dX5_readLimits_60 ?_
                    refine lv_iload_n (pc := 63) E.1 E.2 dX5_readLimits_63 rfl (lv_at hl 3 rfl) ?_
                    refine lv_iload_n (pc := 64) E.1 E.2 dX5_readLimits_64 rfl (lv_at hl 2 rfl) ?_
                    refine z_rSNi (pc := 65) (P := fun _ => True) (As := [.int (iI q), .int (iI k)]) (rest := [.ref (o 10)]) E hml hown hts (mX7_accountOf lL G q k) ⟨va_cnB 2 hts gX5_readLimits_X7_accountOf_n103 rfl rfl rfl hK.2.2.2.2.1 (hts _ (List.mem_of_getElem? (i := 29) rfl)) vdX7_accountOf.2 ⟨Nat.le_of_ble_eq_true rfl, Nat.le_of_ble_eq_true rfl⟩, (hts _ (List.mem_of_getElem? (i := 28) rfl)), trivial⟩ trivial hK rfl hl.1 rfl dX5_readLimits_65 hcs (Nat.le_of_ble_eq_true rfl) ?_
                    refine lv_iload_n (pc := 68) E.1 E.2 dX5_readLimits_68 rfl (lv_at hl 1 rfl) ?_
                    refine lv_iload (pc := 69) E.1 E.2 dX5_readLimits_69 (lv_at hl 0 rfl) ?_
                    refine z_wVv (pc := 71) (As := [.int (iI (2 * q + k)), .int (iI (Nm β n gc)), .int (iI (Nm β n (Te β n gc)))]) (rest := []) E hml hown hts (mX0_setLimits lL G (fun k => o (2 + (8 + k))) δL (2 * q + k) (Nm β n gc) (Nm β n (Te β n gc))  (by omega) (by omega) (by omega)) (cwV 3 hts gX5_readLimits_X0_setLimits rfl rfl rfl vdX0_setLimits ⟨Nat.le_of_ble_eq_true rfl, Nat.le_of_ble_eq_true rfl⟩) (oB.recv hK hR.aco rfl) hR.dra.ac hK hS (fun q ⟨k, hk, e⟩ => ⟨2 + (8 + k), by omega, e⟩) rfl hl.1 rfl dX5_readLimits_71 hcs (Nat.le_of_ble_eq_true rfl) (fun H locs hnew hsz hoth hS => ?_)
                    have hR := RD.upD hR (ST.upAC hR.dra hnew (fun q h1 h2 => hoth q h1 h2) (fun j hj => by rw [zu_n _ _ (by omega), zu_n _ _ (by omega)])) (fun q h1 h2 => hoth q h1 (fun ⟨k, hk, e⟩ => h2 ⟨8 + k, by omega, e⟩))
                    refine lv_iinc (pc := 74) (v := iI (k + 1)) (lv' := [(2, .int (iI (k + 1))), (4, .int (iI (Nm β n (Te β n gc)))), (3, .int (iI (Nm β n gc))), (1, .int (iI q)), (0, .ref (o 0))]) E.1 E.2 dX5_readLimits_74 hl (k := 2) rfl (iI_add _ _) (by decide) rfl (fun ls hl => ?_)
                    refine lv_goto (pc := 77) (tgt := 10) E.1 E.2 dX5_readLimits_77 (by decide) ?_
                    exact ihL10 q (k + 1) η27 (zu (zu δL (5 + (2 * q + k)) (Nm β n gc)) (21 + (2 * q + k)) (Nm β n (Te β n gc))) (by omega) (by omega) (by omega) (by omega) (by omega) (by omega) (limS2 hJL (by omega) (by omega) (by omega) (by omega)) (Or.inl (And.intro (by omega) (And.intro (by rw [lc_s β n c hk.1, hgc.e]; omega) (And.intro (by omega) (And.intro (by rw [lf_s β n δ c hk.1, ← hfL, ← hzq, hgc.e, Int.add_assoc 5, Int.add_assoc 21]) (And.intro (by rw [lx_s β n c hk.1, hgx.e, hgc.e]; unfold xL1; omega) hzq)))))) (by omega)  _ _ hR hS ls (lv_sub hl [0, 3, 4] rfl)
                · refine lv_aload_n (pc := 43) E.1 E.2 dX5_readLimits_43 rfl (lv_at hl 4 rfl) ?_
                  refine z_bipush (pc := 44) E (by decide) dX5_readLimits_44 ?_
                  refine z_wVv (pc := 46) (P1 := fun H9 : Heap => ∃ (η46 : Int → Int), RD G o η46 δL (fun j => sg8 (β j)) H9 ∧ (η46 1 = if η27 1 = 0 then (-3) else η27 1) ∧ (η46 2 = if η27 1 = 0 then η27 6 else η27 2) ∧ (η46 4 = η27 4) ∧ (η46 5 = η27 5) ∧ (η46 6 = η27 6)) (As := [.int (iI (-3))]) (rest := []) E hml hown hts (mX5_fail lL G o η27 δL β (-3) (by omega) (by omega)) (cwV 1 hts gX5_readLimits_X5_fail rfl rfl rfl vdX5_fail ⟨Nat.le_of_ble_eq_true rfl, Nat.le_of_ble_eq_true rfl⟩) (oB.recv hK hR.ob rfl) hR hK hS (fun _ h => h) rfl hl.1 rfl dX5_readLimits_46 hcs (Nat.le_of_ble_eq_true rfl) (fun H locs hnew hsz hoth hS => ?_)
                  obtain ⟨η46, hR, e1_46, e2_46, e4_46, e5_46, e6_46⟩ := hnew
                  rw [if_pos hw27] at e1_46
                  rw [if_pos hw27] at e2_46
                  have hw46 : ¬ η46 1 = 0 := by omega
                  refine lv_aload_n (pc := 49) E.1 E.2 dX5_readLimits_49 rfl (lv_at hl 4 rfl) ?_
                  refine g5_1 (pc := 50) E hts hin5 hown hK hR.ob (hts _ (List.mem_of_getElem? (i := 2) rfl)) dX5_readLimits_50 ?_
                  refine z_if_ne (pc := 53) (tgt := 74) E ⟨by omega, by omega⟩ dX5_readLimits_53 (by decide) (fun h53 => ?_) (fun h53 => ?_)
                  · refine lv_iinc (pc := 74) (v := iI (k + 1)) (lv' := [(2, .int (iI (k + 1))), (4, .int (iI (Nm β n (Te β n gc)))), (3, .int (iI (Nm β n gc))), (1, .int (iI q)), (0, .ref (o 0))]) E.1 E.2 dX5_readLimits_74 hl (k := 2) rfl (iI_add _ _) (by decide) rfl (fun ls hl => ?_)
                    refine lv_goto (pc := 77) (tgt := 10) E.1 E.2 dX5_readLimits_77 (by decide) ?_
                    exact ihL10 q (k + 1) η46 δL (by omega) (by omega) (by omega) (by omega) (by omega) (by omega) (hJL) (Or.inr (And.intro (by omega) (And.intro (by rw [lx_s β n c hk.1, hgx.e, hgc.e]; (try unfold xL1); omega) (by rw [lp_s β n c hk.1, hgp.e, hgx.e, hgc.e]; (try unfold pL1); omega)))) (by omega)  _ _ hR hS ls (lv_sub hl [0, 3, 4] rfl)
                  · exact absurd h53 (by first | exact hw46 | exact fun q => hw46 q | omega)
            rw [if_pos ⟨hw19, hs27⟩] at e2_27
            have hw27 : ¬ η27 1 = 0 := by omega
            refine lv_istore (pc := 30) (lv' := [(4, .int (iI (rN β n (Te β n gc)))), (3, .int (iI (Nm β n gc))), (2, .int (iI k)), (1, .int (iI q)), (0, .ref (o 0))]) E.1 E.2 dX5_readLimits_30 hl (by decide) rfl (fun ls hl => ?_)
            refine lv_iload (pc := 32) E.1 E.2 dX5_readLimits_32 (lv_at hl 0 rfl) ?_
            refine z_if_le (pc := 34) (tgt := 49) E ⟨by omega, by omega⟩ dX5_readLimits_34 (by decide) (fun h34 => ?_) (fun h34 => ?_)
            · refine lv_aload_n (pc := 49) E.1 E.2 dX5_readLimits_49 rfl (lv_at hl 4 rfl) ?_
              refine g5_1 (pc := 50) E hts hin5 hown hK hR.ob (hts _ (List.mem_of_getElem? (i := 2) rfl)) dX5_readLimits_50 ?_
              refine z_if_ne (pc := 53) (tgt := 74) E ⟨by omega, by omega⟩ dX5_readLimits_53 (by decide) (fun h53 => ?_) (fun h53 => ?_)
              · refine lv_iinc (pc := 74) (v := iI (k + 1)) (lv' := [(2, .int (iI (k + 1))), (4, .int (iI (rN β n (Te β n gc)))), (3, .int (iI (Nm β n gc))), (1, .int (iI q)), (0, .ref (o 0))]) E.1 E.2 dX5_readLimits_74 hl (k := 2) rfl (iI_add _ _) (by decide) rfl (fun ls hl => ?_)
                refine lv_goto (pc := 77) (tgt := 10) E.1 E.2 dX5_readLimits_77 (by decide) ?_
                exact ihL10 q (k + 1) η27 δL (by omega) (by omega) (by omega) (by omega) (by omega) (by omega) (hJL) (Or.inr (And.intro (by omega) (And.intro (by rw [lx_s β n c hk.1, hgx.e, hgc.e]; (try unfold xL1); omega) (by rw [lp_s β n c hk.1, hgp.e, hgx.e, hgc.e]; (try unfold pL1); omega)))) (by omega)  _ _ hR hS ls (lv_sub hl [0, 3, 4] rfl)
              · exact absurd h53 (by first | exact hw27 | exact fun q => hw27 q | omega)
            · refine lv_iload (pc := 37) E.1 E.2 dX5_readLimits_37 (lv_at hl 0 rfl) ?_
              refine lv_iload_n (pc := 39) E.1 E.2 dX5_readLimits_39 rfl (lv_at hl 1 rfl) ?_
              refine z_icmp_ge (pc := 40) (tgt := 49) E ⟨by omega, by omega⟩ ⟨by omega, by omega⟩ dX5_readLimits_40 (by decide) (fun h40 => ?_) (fun h40 => ?_)
              · refine lv_aload_n (pc := 49) E.1 E.2 dX5_readLimits_49 rfl (lv_at hl 4 rfl) ?_
                refine g5_1 (pc := 50) E hts hin5 hown hK hR.ob (hts _ (List.mem_of_getElem? (i := 2) rfl)) dX5_readLimits_50 ?_
                refine z_if_ne (pc := 53) (tgt := 74) E ⟨by omega, by omega⟩ dX5_readLimits_53 (by decide) (fun h53 => ?_) (fun h53 => ?_)
                · refine lv_iinc (pc := 74) (v := iI (k + 1)) (lv' := [(2, .int (iI (k + 1))), (4, .int (iI (rN β n (Te β n gc)))), (3, .int (iI (Nm β n gc))), (1, .int (iI q)), (0, .ref (o 0))]) E.1 E.2 dX5_readLimits_74 hl (k := 2) rfl (iI_add _ _) (by decide) rfl (fun ls hl => ?_)
                  refine lv_goto (pc := 77) (tgt := 10) E.1 E.2 dX5_readLimits_77 (by decide) ?_
                  exact ihL10 q (k + 1) η27 δL (by omega) (by omega) (by omega) (by omega) (by omega) (by omega) (hJL) (Or.inr (And.intro (by omega) (And.intro (by rw [lx_s β n c hk.1, hgx.e, hgc.e]; (try unfold xL1); omega) (by rw [lp_s β n c hk.1, hgp.e, hgx.e, hgc.e]; (try unfold pL1); omega)))) (by omega)  _ _ hR hS ls (lv_sub hl [0, 3, 4] rfl)
                · exact absurd h53 (by first | exact hw27 | exact fun q => hw27 q | omega)
              · refine lv_aload_n (pc := 43) E.1 E.2 dX5_readLimits_43 rfl (lv_at hl 4 rfl) ?_
                refine z_bipush (pc := 44) E (by decide) dX5_readLimits_44 ?_
                refine z_wVv (pc := 46) (P1 := fun H9 : Heap => ∃ (η46 : Int → Int), RD G o η46 δL (fun j => sg8 (β j)) H9 ∧ (η46 1 = if η27 1 = 0 then (-3) else η27 1) ∧ (η46 2 = if η27 1 = 0 then η27 6 else η27 2) ∧ (η46 4 = η27 4) ∧ (η46 5 = η27 5) ∧ (η46 6 = η27 6)) (As := [.int (iI (-3))]) (rest := []) E hml hown hts (mX5_fail lL G o η27 δL β (-3) (by omega) (by omega)) (cwV 1 hts gX5_readLimits_X5_fail rfl rfl rfl vdX5_fail ⟨Nat.le_of_ble_eq_true rfl, Nat.le_of_ble_eq_true rfl⟩) (oB.recv hK hR.ob rfl) hR hK hS (fun _ h => h) rfl hl.1 rfl dX5_readLimits_46 hcs (Nat.le_of_ble_eq_true rfl) (fun H locs hnew hsz hoth hS => ?_)
                obtain ⟨η46, hR, e1_46, e2_46, e4_46, e5_46, e6_46⟩ := hnew
                rw [if_neg hw27] at e1_46
                rw [if_neg hw27] at e2_46
                have hw46 : ¬ η46 1 = 0 := by omega
                refine lv_aload_n (pc := 49) E.1 E.2 dX5_readLimits_49 rfl (lv_at hl 4 rfl) ?_
                refine g5_1 (pc := 50) E hts hin5 hown hK hR.ob (hts _ (List.mem_of_getElem? (i := 2) rfl)) dX5_readLimits_50 ?_
                refine z_if_ne (pc := 53) (tgt := 74) E ⟨by omega, by omega⟩ dX5_readLimits_53 (by decide) (fun h53 => ?_) (fun h53 => ?_)
                · refine lv_iinc (pc := 74) (v := iI (k + 1)) (lv' := [(2, .int (iI (k + 1))), (4, .int (iI (rN β n (Te β n gc)))), (3, .int (iI (Nm β n gc))), (1, .int (iI q)), (0, .ref (o 0))]) E.1 E.2 dX5_readLimits_74 hl (k := 2) rfl (iI_add _ _) (by decide) rfl (fun ls hl => ?_)
                  refine lv_goto (pc := 77) (tgt := 10) E.1 E.2 dX5_readLimits_77 (by decide) ?_
                  exact ihL10 q (k + 1) η46 δL (by omega) (by omega) (by omega) (by omega) (by omega) (by omega) (hJL) (Or.inr (And.intro (by omega) (And.intro (by rw [lx_s β n c hk.1, hgx.e, hgc.e]; (try unfold xL1); omega) (by rw [lp_s β n c hk.1, hgp.e, hgx.e, hgc.e]; (try unfold pL1); omega)))) (by omega)  _ _ hR hS ls (lv_sub hl [0, 3, 4] rfl)
                · exact absurd h53 (by first | exact hw46 | exact fun q => hw46 q | omega)
          rw [if_pos ⟨hzz, hs19⟩] at e2_19
          have hw19 : ¬ η19 1 = 0 := by omega
          refine lv_istore_n (pc := 22) (lv' := [(3, .int (iI (rN β n gc))), (2, .int (iI k)), (1, .int (iI q)), (0, .ref (o 0))]) E.1 E.2 dX5_readLimits_22 rfl hl (by decide) rfl (fun ls hl => ?_)
          refine lv_aload_n (pc := 23) E.1 E.2 dX5_readLimits_23 rfl (lv_at hl 3 rfl) ?_
          refine z_iconst (pc := 24) E dX5_readLimits_24 ?_
          refine lv_ldc (pc := 25) (v := iI (99999)) E.1 E.2 hown (show (Jvm.Cond.constant RX5 98 (iI (99999))).before _ ss = true from (hts _ (List.mem_of_getElem? (i := 1) rfl))) dX5_readLimits_25 ?_
          refine z_wVi (pc := 27) (P1 := fun H9 : Heap => ∃ (η27 : Int → Int), RD G o η27 δL (fun j => sg8 (β j)) H9 ∧ (η27 1 = if η19 1 = 0 then RNum β n (η19 5) 0 99999 else η19 1) ∧ (η27 2 = if η19 1 = 0 ∧ ¬ RNum β n (η19 5) 0 99999 = 0 then Sk β n (η19 5) else η19 2) ∧ (-4 ≤ η27 1 ∧ η27 1 ≤ 0) ∧ (η27 4 = η19 4) ∧ (η27 5 = Rd β n (η19 5)) ∧ (η27 6 = Sk β n (η19 5)) ∧ (0 ≤ η27 5 ∧ η27 5 ≤ n) ∧ (0 ≤ η27 6 ∧ η27 6 ≤ n)) (As := [.int (iI 0), .int (iI 99999)]) (rest := []) E hml hown hts (mX5_readNumber lL G o η19 δL β 0 99999 n (η19 5) (by omega) hb (by omega) (by omega) (by omega) (by omega) (by omega) (by first | rfl | assumption | exact Sk_Sk _ _ _ | (congr 1 <;> omega)) (by omega) (by omega)) (cwV 2 hts gX5_readLimits_X5_readNumber rfl rfl rfl vdX5_readNumber ⟨Nat.le_of_ble_eq_true rfl, Nat.le_of_ble_eq_true rfl⟩) (oB.recv hK hR.ob rfl) hR hK hS (fun _ h => h) rfl hl.1 rfl dX5_readLimits_27 hcs (Nat.le_of_ble_eq_true rfl) (fun H locs hnew hsz hoth hS => ?_)
          obtain ⟨η27, hR, e1_27, e2_27, b1_27, e4_27, e5_27, e6_27, b5_27, b6_27⟩ := hnew
          rw [if_neg hw19] at e1_27
          rw [if_neg (fun z => hw19 z.1)] at e2_27
          have hk027 := Sk_b β (n := n) (c := (η19 5)) (by omega)
          have hk127 := Rd_b β (n := n) (c := (η19 5)) (by omega)
          have hk327 := RNum_b β n (η19 5) 0 99999
          have hk427 := rN_b (b := β) (n := n) (c := (η19 5)) (by omega)
          have hw27 : ¬ η27 1 = 0 := by omega
          have hrv27 := RNum_v β n (Te β n gc) 0 99999
          refine lv_istore (pc := 30) (lv' := [(4, .int (iI (rN β n (η19 5)))), (3, .int (iI (rN β n gc))), (2, .int (iI k)), (1, .int (iI q)), (0, .ref (o 0))]) E.1 E.2 dX5_readLimits_30 hl (by decide) rfl (fun ls hl => ?_)
          refine lv_iload (pc := 32) E.1 E.2 dX5_readLimits_32 (lv_at hl 0 rfl) ?_
          refine z_if_le (pc := 34) (tgt := 49) E ⟨by omega, by omega⟩ dX5_readLimits_34 (by decide) (fun h34 => ?_) (fun h34 => ?_)
          · refine lv_aload_n (pc := 49) E.1 E.2 dX5_readLimits_49 rfl (lv_at hl 4 rfl) ?_
            refine g5_1 (pc := 50) E hts hin5 hown hK hR.ob (hts _ (List.mem_of_getElem? (i := 2) rfl)) dX5_readLimits_50 ?_
            refine z_if_ne (pc := 53) (tgt := 74) E ⟨by omega, by omega⟩ dX5_readLimits_53 (by decide) (fun h53 => ?_) (fun h53 => ?_)
            · refine lv_iinc (pc := 74) (v := iI (k + 1)) (lv' := [(2, .int (iI (k + 1))), (4, .int (iI (rN β n (η19 5)))), (3, .int (iI (rN β n gc))), (1, .int (iI q)), (0, .ref (o 0))]) E.1 E.2 dX5_readLimits_74 hl (k := 2) rfl (iI_add _ _) (by decide) rfl (fun ls hl => ?_)
              refine lv_goto (pc := 77) (tgt := 10) E.1 E.2 dX5_readLimits_77 (by decide) ?_
              exact ihL10 q (k + 1) η27 δL (by omega) (by omega) (by omega) (by omega) (by omega) (by omega) (hJL) (Or.inr (And.intro (by omega) (And.intro (by rw [lx_s β n c hk.1, hgx.e, hgc.e]; (try unfold xL1); omega) (by rw [lp_s β n c hk.1, hgp.e, hgx.e, hgc.e]; (try unfold pL1); omega)))) (by omega)  _ _ hR hS ls (lv_sub hl [0, 3, 4] rfl)
            · exact absurd h53 (by first | exact hw27 | exact fun q => hw27 q | omega)
          · refine lv_iload (pc := 37) E.1 E.2 dX5_readLimits_37 (lv_at hl 0 rfl) ?_
            refine lv_iload_n (pc := 39) E.1 E.2 dX5_readLimits_39 rfl (lv_at hl 1 rfl) ?_
            refine z_icmp_ge (pc := 40) (tgt := 49) E ⟨by omega, by omega⟩ ⟨by omega, by omega⟩ dX5_readLimits_40 (by decide) (fun h40 => ?_) (fun h40 => ?_)
            · refine lv_aload_n (pc := 49) E.1 E.2 dX5_readLimits_49 rfl (lv_at hl 4 rfl) ?_
              refine g5_1 (pc := 50) E hts hin5 hown hK hR.ob (hts _ (List.mem_of_getElem? (i := 2) rfl)) dX5_readLimits_50 ?_
              refine z_if_ne (pc := 53) (tgt := 74) E ⟨by omega, by omega⟩ dX5_readLimits_53 (by decide) (fun h53 => ?_) (fun h53 => ?_)
              · refine lv_iinc (pc := 74) (v := iI (k + 1)) (lv' := [(2, .int (iI (k + 1))), (4, .int (iI (rN β n (η19 5)))), (3, .int (iI (rN β n gc))), (1, .int (iI q)), (0, .ref (o 0))]) E.1 E.2 dX5_readLimits_74 hl (k := 2) rfl (iI_add _ _) (by decide) rfl (fun ls hl => ?_)
                refine lv_goto (pc := 77) (tgt := 10) E.1 E.2 dX5_readLimits_77 (by decide) ?_
                exact ihL10 q (k + 1) η27 δL (by omega) (by omega) (by omega) (by omega) (by omega) (by omega) (hJL) (Or.inr (And.intro (by omega) (And.intro (by rw [lx_s β n c hk.1, hgx.e, hgc.e]; (try unfold xL1); omega) (by rw [lp_s β n c hk.1, hgp.e, hgx.e, hgc.e]; (try unfold pL1); omega)))) (by omega)  _ _ hR hS ls (lv_sub hl [0, 3, 4] rfl)
              · exact absurd h53 (by first | exact hw27 | exact fun q => hw27 q | omega)
            · refine lv_aload_n (pc := 43) E.1 E.2 dX5_readLimits_43 rfl (lv_at hl 4 rfl) ?_
              refine z_bipush (pc := 44) E (by decide) dX5_readLimits_44 ?_
              refine z_wVv (pc := 46) (P1 := fun H9 : Heap => ∃ (η46 : Int → Int), RD G o η46 δL (fun j => sg8 (β j)) H9 ∧ (η46 1 = if η27 1 = 0 then (-3) else η27 1) ∧ (η46 2 = if η27 1 = 0 then η27 6 else η27 2) ∧ (η46 4 = η27 4) ∧ (η46 5 = η27 5) ∧ (η46 6 = η27 6)) (As := [.int (iI (-3))]) (rest := []) E hml hown hts (mX5_fail lL G o η27 δL β (-3) (by omega) (by omega)) (cwV 1 hts gX5_readLimits_X5_fail rfl rfl rfl vdX5_fail ⟨Nat.le_of_ble_eq_true rfl, Nat.le_of_ble_eq_true rfl⟩) (oB.recv hK hR.ob rfl) hR hK hS (fun _ h => h) rfl hl.1 rfl dX5_readLimits_46 hcs (Nat.le_of_ble_eq_true rfl) (fun H locs hnew hsz hoth hS => ?_)
              obtain ⟨η46, hR, e1_46, e2_46, e4_46, e5_46, e6_46⟩ := hnew
              rw [if_neg hw27] at e1_46
              rw [if_neg hw27] at e2_46
              have hw46 : ¬ η46 1 = 0 := by omega
              refine lv_aload_n (pc := 49) E.1 E.2 dX5_readLimits_49 rfl (lv_at hl 4 rfl) ?_
              refine g5_1 (pc := 50) E hts hin5 hown hK hR.ob (hts _ (List.mem_of_getElem? (i := 2) rfl)) dX5_readLimits_50 ?_
              refine z_if_ne (pc := 53) (tgt := 74) E ⟨by omega, by omega⟩ dX5_readLimits_53 (by decide) (fun h53 => ?_) (fun h53 => ?_)
              · refine lv_iinc (pc := 74) (v := iI (k + 1)) (lv' := [(2, .int (iI (k + 1))), (4, .int (iI (rN β n (η19 5)))), (3, .int (iI (rN β n gc))), (1, .int (iI q)), (0, .ref (o 0))]) E.1 E.2 dX5_readLimits_74 hl (k := 2) rfl (iI_add _ _) (by decide) rfl (fun ls hl => ?_)
                refine lv_goto (pc := 77) (tgt := 10) E.1 E.2 dX5_readLimits_77 (by decide) ?_
                exact ihL10 q (k + 1) η46 δL (by omega) (by omega) (by omega) (by omega) (by omega) (by omega) (hJL) (Or.inr (And.intro (by omega) (And.intro (by rw [lx_s β n c hk.1, hgx.e, hgc.e]; (try unfold xL1); omega) (by rw [lp_s β n c hk.1, hgp.e, hgx.e, hgc.e]; (try unfold pL1); omega)))) (by omega)  _ _ hR hS ls (lv_sub hl [0, 3, 4] rfl)
              · exact absurd h53 (by first | exact hw46 | exact fun q => hw46 q | omega)
        have hzL := hz.resolve_left (fun z => hzz z.1)
        have hz1 := hzL.2.1
        have hz2 := hzL.2.2
        clear hz hzL
        refine z_iconst (pc := 16) E dX5_readLimits_16 ?_
        refine lv_ldc (pc := 17) (v := iI (99999)) E.1 E.2 hown (show (Jvm.Cond.constant RX5 98 (iI (99999))).before _ ss = true from (hts _ (List.mem_of_getElem? (i := 1) rfl))) dX5_readLimits_17 ?_
        refine z_wVi (pc := 19) (P1 := fun H9 : Heap => ∃ (η19 : Int → Int), RD G o η19 δL (fun j => sg8 (β j)) H9 ∧ (η19 1 = if ηL 1 = 0 then RNum β n (ηL 5) 0 99999 else ηL 1) ∧ (η19 2 = if ηL 1 = 0 ∧ ¬ RNum β n (ηL 5) 0 99999 = 0 then Sk β n (ηL 5) else ηL 2) ∧ (-4 ≤ η19 1 ∧ η19 1 ≤ 0) ∧ (η19 4 = ηL 4) ∧ (η19 5 = Rd β n (ηL 5)) ∧ (η19 6 = Sk β n (ηL 5)) ∧ (0 ≤ η19 5 ∧ η19 5 ≤ n) ∧ (0 ≤ η19 6 ∧ η19 6 ≤ n)) (As := [.int (iI 0), .int (iI 99999)]) (rest := []) E hml hown hts (mX5_readNumber lL G o ηL δL β 0 99999 n (ηL 5) (by omega) hb (by omega) (by omega) (by omega) (by omega) (by omega) (by first | rfl | assumption | exact Sk_Sk _ _ _ | (congr 1 <;> omega)) (by omega) (by omega)) (cwV 2 hts gX5_readLimits_X5_readNumber rfl rfl rfl vdX5_readNumber ⟨Nat.le_of_ble_eq_true rfl, Nat.le_of_ble_eq_true rfl⟩) (oB.recv hK hR.ob rfl) hR hK hS (fun _ h => h) rfl hl.1 rfl dX5_readLimits_19 hcs (Nat.le_of_ble_eq_true rfl) (fun H locs hnew hsz hoth hS => ?_)
        obtain ⟨η19, hR, e1_19, e2_19, b1_19, e4_19, e5_19, e6_19, b5_19, b6_19⟩ := hnew
        rw [if_neg hzz] at e1_19
        rw [if_neg (fun z => hzz z.1)] at e2_19
        have hk019 := Sk_b β (n := n) (c := (ηL 5)) (by omega)
        have hk119 := Rd_b β (n := n) (c := (ηL 5)) (by omega)
        have hk319 := RNum_b β n (ηL 5) 0 99999
        have hk419 := rN_b (b := β) (n := n) (c := (ηL 5)) (by omega)
        have hw19 : ¬ η19 1 = 0 := by omega
        refine lv_istore_n (pc := 22) (lv' := [(3, .int (iI (rN β n (ηL 5)))), (2, .int (iI k)), (1, .int (iI q)), (0, .ref (o 0))]) E.1 E.2 dX5_readLimits_22 rfl hl (by decide) rfl (fun ls hl => ?_)
        refine lv_aload_n (pc := 23) E.1 E.2 dX5_readLimits_23 rfl (lv_at hl 3 rfl) ?_
        refine z_iconst (pc := 24) E dX5_readLimits_24 ?_
        refine lv_ldc (pc := 25) (v := iI (99999)) E.1 E.2 hown (show (Jvm.Cond.constant RX5 98 (iI (99999))).before _ ss = true from (hts _ (List.mem_of_getElem? (i := 1) rfl))) dX5_readLimits_25 ?_
        refine z_wVi (pc := 27) (P1 := fun H9 : Heap => ∃ (η27 : Int → Int), RD G o η27 δL (fun j => sg8 (β j)) H9 ∧ (η27 1 = if η19 1 = 0 then RNum β n (η19 5) 0 99999 else η19 1) ∧ (η27 2 = if η19 1 = 0 ∧ ¬ RNum β n (η19 5) 0 99999 = 0 then Sk β n (η19 5) else η19 2) ∧ (-4 ≤ η27 1 ∧ η27 1 ≤ 0) ∧ (η27 4 = η19 4) ∧ (η27 5 = Rd β n (η19 5)) ∧ (η27 6 = Sk β n (η19 5)) ∧ (0 ≤ η27 5 ∧ η27 5 ≤ n) ∧ (0 ≤ η27 6 ∧ η27 6 ≤ n)) (As := [.int (iI 0), .int (iI 99999)]) (rest := []) E hml hown hts (mX5_readNumber lL G o η19 δL β 0 99999 n (η19 5) (by omega) hb (by omega) (by omega) (by omega) (by omega) (by omega) (by first | rfl | assumption | exact Sk_Sk _ _ _ | (congr 1 <;> omega)) (by omega) (by omega)) (cwV 2 hts gX5_readLimits_X5_readNumber rfl rfl rfl vdX5_readNumber ⟨Nat.le_of_ble_eq_true rfl, Nat.le_of_ble_eq_true rfl⟩) (oB.recv hK hR.ob rfl) hR hK hS (fun _ h => h) rfl hl.1 rfl dX5_readLimits_27 hcs (Nat.le_of_ble_eq_true rfl) (fun H locs hnew hsz hoth hS => ?_)
        obtain ⟨η27, hR, e1_27, e2_27, b1_27, e4_27, e5_27, e6_27, b5_27, b6_27⟩ := hnew
        rw [if_neg hw19] at e1_27
        rw [if_neg (fun z => hw19 z.1)] at e2_27
        have hk027 := Sk_b β (n := n) (c := (η19 5)) (by omega)
        have hk127 := Rd_b β (n := n) (c := (η19 5)) (by omega)
        have hk327 := RNum_b β n (η19 5) 0 99999
        have hk427 := rN_b (b := β) (n := n) (c := (η19 5)) (by omega)
        have hw27 : ¬ η27 1 = 0 := by omega
        have hrv27 := RNum_v β n (Te β n gc) 0 99999
        refine lv_istore (pc := 30) (lv' := [(4, .int (iI (rN β n (η19 5)))), (3, .int (iI (rN β n (ηL 5)))), (2, .int (iI k)), (1, .int (iI q)), (0, .ref (o 0))]) E.1 E.2 dX5_readLimits_30 hl (by decide) rfl (fun ls hl => ?_)
        refine lv_iload (pc := 32) E.1 E.2 dX5_readLimits_32 (lv_at hl 0 rfl) ?_
        refine z_if_le (pc := 34) (tgt := 49) E ⟨by omega, by omega⟩ dX5_readLimits_34 (by decide) (fun h34 => ?_) (fun h34 => ?_)
        · refine lv_aload_n (pc := 49) E.1 E.2 dX5_readLimits_49 rfl (lv_at hl 4 rfl) ?_
          refine g5_1 (pc := 50) E hts hin5 hown hK hR.ob (hts _ (List.mem_of_getElem? (i := 2) rfl)) dX5_readLimits_50 ?_
          refine z_if_ne (pc := 53) (tgt := 74) E ⟨by omega, by omega⟩ dX5_readLimits_53 (by decide) (fun h53 => ?_) (fun h53 => ?_)
          · refine lv_iinc (pc := 74) (v := iI (k + 1)) (lv' := [(2, .int (iI (k + 1))), (4, .int (iI (rN β n (η19 5)))), (3, .int (iI (rN β n (ηL 5)))), (1, .int (iI q)), (0, .ref (o 0))]) E.1 E.2 dX5_readLimits_74 hl (k := 2) rfl (iI_add _ _) (by decide) rfl (fun ls hl => ?_)
            refine lv_goto (pc := 77) (tgt := 10) E.1 E.2 dX5_readLimits_77 (by decide) ?_
            exact ihL10 q (k + 1) η27 δL (by omega) (by omega) (by omega) (by omega) (by omega) (by omega) (hJL) (Or.inr (And.intro (by omega) (And.intro (by rw [lx_s β n c hk.1, hgx.e, hgc.e]; (try unfold xL1); omega) (by rw [lp_s β n c hk.1, hgp.e, hgx.e, hgc.e]; (try unfold pL1); omega)))) (by omega)  _ _ hR hS ls (lv_sub hl [0, 3, 4] rfl)
          · exact absurd h53 (by first | exact hw27 | exact fun q => hw27 q | omega)
        · refine lv_iload (pc := 37) E.1 E.2 dX5_readLimits_37 (lv_at hl 0 rfl) ?_
          refine lv_iload_n (pc := 39) E.1 E.2 dX5_readLimits_39 rfl (lv_at hl 1 rfl) ?_
          refine z_icmp_ge (pc := 40) (tgt := 49) E ⟨by omega, by omega⟩ ⟨by omega, by omega⟩ dX5_readLimits_40 (by decide) (fun h40 => ?_) (fun h40 => ?_)
          · refine lv_aload_n (pc := 49) E.1 E.2 dX5_readLimits_49 rfl (lv_at hl 4 rfl) ?_
            refine g5_1 (pc := 50) E hts hin5 hown hK hR.ob (hts _ (List.mem_of_getElem? (i := 2) rfl)) dX5_readLimits_50 ?_
            refine z_if_ne (pc := 53) (tgt := 74) E ⟨by omega, by omega⟩ dX5_readLimits_53 (by decide) (fun h53 => ?_) (fun h53 => ?_)
            · refine lv_iinc (pc := 74) (v := iI (k + 1)) (lv' := [(2, .int (iI (k + 1))), (4, .int (iI (rN β n (η19 5)))), (3, .int (iI (rN β n (ηL 5)))), (1, .int (iI q)), (0, .ref (o 0))]) E.1 E.2 dX5_readLimits_74 hl (k := 2) rfl (iI_add _ _) (by decide) rfl (fun ls hl => ?_)
              refine lv_goto (pc := 77) (tgt := 10) E.1 E.2 dX5_readLimits_77 (by decide) ?_
              exact ihL10 q (k + 1) η27 δL (by omega) (by omega) (by omega) (by omega) (by omega) (by omega) (hJL) (Or.inr (And.intro (by omega) (And.intro (by rw [lx_s β n c hk.1, hgx.e, hgc.e]; (try unfold xL1); omega) (by rw [lp_s β n c hk.1, hgp.e, hgx.e, hgc.e]; (try unfold pL1); omega)))) (by omega)  _ _ hR hS ls (lv_sub hl [0, 3, 4] rfl)
            · exact absurd h53 (by first | exact hw27 | exact fun q => hw27 q | omega)
          · refine lv_aload_n (pc := 43) E.1 E.2 dX5_readLimits_43 rfl (lv_at hl 4 rfl) ?_
            refine z_bipush (pc := 44) E (by decide) dX5_readLimits_44 ?_
            refine z_wVv (pc := 46) (P1 := fun H9 : Heap => ∃ (η46 : Int → Int), RD G o η46 δL (fun j => sg8 (β j)) H9 ∧ (η46 1 = if η27 1 = 0 then (-3) else η27 1) ∧ (η46 2 = if η27 1 = 0 then η27 6 else η27 2) ∧ (η46 4 = η27 4) ∧ (η46 5 = η27 5) ∧ (η46 6 = η27 6)) (As := [.int (iI (-3))]) (rest := []) E hml hown hts (mX5_fail lL G o η27 δL β (-3) (by omega) (by omega)) (cwV 1 hts gX5_readLimits_X5_fail rfl rfl rfl vdX5_fail ⟨Nat.le_of_ble_eq_true rfl, Nat.le_of_ble_eq_true rfl⟩) (oB.recv hK hR.ob rfl) hR hK hS (fun _ h => h) rfl hl.1 rfl dX5_readLimits_46 hcs (Nat.le_of_ble_eq_true rfl) (fun H locs hnew hsz hoth hS => ?_)
            obtain ⟨η46, hR, e1_46, e2_46, e4_46, e5_46, e6_46⟩ := hnew
            rw [if_neg hw27] at e1_46
            rw [if_neg hw27] at e2_46
            have hw46 : ¬ η46 1 = 0 := by omega
            refine lv_aload_n (pc := 49) E.1 E.2 dX5_readLimits_49 rfl (lv_at hl 4 rfl) ?_
            refine g5_1 (pc := 50) E hts hin5 hown hK hR.ob (hts _ (List.mem_of_getElem? (i := 2) rfl)) dX5_readLimits_50 ?_
            refine z_if_ne (pc := 53) (tgt := 74) E ⟨by omega, by omega⟩ dX5_readLimits_53 (by decide) (fun h53 => ?_) (fun h53 => ?_)
            · refine lv_iinc (pc := 74) (v := iI (k + 1)) (lv' := [(2, .int (iI (k + 1))), (4, .int (iI (rN β n (η19 5)))), (3, .int (iI (rN β n (ηL 5)))), (1, .int (iI q)), (0, .ref (o 0))]) E.1 E.2 dX5_readLimits_74 hl (k := 2) rfl (iI_add _ _) (by decide) rfl (fun ls hl => ?_)
              refine lv_goto (pc := 77) (tgt := 10) E.1 E.2 dX5_readLimits_77 (by decide) ?_
              exact ihL10 q (k + 1) η46 δL (by omega) (by omega) (by omega) (by omega) (by omega) (by omega) (hJL) (Or.inr (And.intro (by omega) (And.intro (by rw [lx_s β n c hk.1, hgx.e, hgc.e]; (try unfold xL1); omega) (by rw [lp_s β n c hk.1, hgp.e, hgx.e, hgc.e]; (try unfold pL1); omega)))) (by omega)  _ _ hR hS ls (lv_sub hl [0, 3, 4] rfl)
            · exact absurd h53 (by first | exact hw46 | exact fun q => hw46 q | omega)
  rw [if_pos ⟨hw, hs4⟩] at e2_4
  have hw4 : ¬ η4 1 = 0 := by omega
  refine lv_istore_n (pc := 7) (lv' := [(1, .int (iI (rN β n (Te β n c)))), (0, .ref (o 0))]) E.1 E.2 dX5_readLimits_7 rfl hl (by decide) rfl (fun ls hl => ?_)
  refine z_iconst (pc := 8) E dX5_readLimits_8 ?_
  refine lv_istore_n (pc := 9) (lv' := [(2, .int (iI 0)), (1, .int (iI (rN β n (Te β n c)))), (0, .ref (o 0))]) E.1 E.2 dX5_readLimits_9 rfl hl (by decide) rfl (fun ls hl => ?_)
  suffices L10 : ∀ (nf : Nat), ∀ (q k : Int) (ηL : Int → Int), (0 ≤ k ∧ k ≤ 2) → (0 ≤ q ∧ q ≤ 999999) → (¬ ηL 1 = 0) → (ηL 1 = lx β n c 0) → (ηL 2 = lp β n c 0) → (-4 ≤ ηL 1 ∧ ηL 1 ≤ 0) → (ηL 4 = n) → (0 ≤ ηL 5 ∧ ηL 5 ≤ n) → (0 ≤ ηL 6 ∧ ηL 6 ≤ n) → ((2 - k).toNat) < nf → ∀  (H : Heap) (locs : List Loc), RD G o ηL δ (fun j => sg8 (β j)) H → va_S (Ax o 20) ss.heap H locs → ∀ ls : Array Slot, lv_has ls 5 [(2, .int (iI k)), (1, .int (iI q)), (0, .ref (o 0))] → W pp lL ee ({ frames := 2, cells := 0, slots := 0, locals := 63 } : Room) ss mm [.ref (o 0)].toArray below meth cC H locs 0 0 (MQ below (va_Qv (fun _ : Unit => True) (fun _ tZ => ∃ (η1 δ1 : Int → Int), RD G o η1 δ1 (fun j => sg8 (β j)) tZ.heap ∧ (xLim β n c = 0 → η1 1 = 0 ∧ η1 5 = cLim β n c ∧ η1 2 = η 2 ∧ δ1 = fLim β n δ c) ∧ (¬ xLim β n c = 0 → η1 1 = xLim β n c ∧ η1 2 = pLim β n c) ∧ (-4 ≤ η1 1 ∧ η1 1 ≤ 0) ∧ (η1 4 = η 4) ∧ (In δ1) ∧ (0 ≤ η1 5 ∧ η1 5 ≤ n) ∧ (0 ≤ η1 6 ∧ η1 6 ≤ n)) (Ax o 20)) [.ref (o 0)].toArray ss 0 0 (Ax o 20)) (F0 mm 10 ls []) from L10 _ (rN β n (Te β n c)) 0 η4 (by omega) (by omega) (by omega) (by show _ = RNum β n (Te β n c) 0 7; omega) (by show _ = Sk β n (Te β n c); omega) (by omega) (by omega) (by omega) (by omega) (Nat.lt_succ_self _)  _ _ hR hS ls (lv_sub hl [0, 1, 2] rfl)
  intro nfL10
  induction nfL10 with
  | zero => intro q k ηL hk hq hzn hzv hzp hb1 h4L h5B h6B hmzL10; exact absurd hmzL10 (Nat.not_lt_zero _)
  | succ nfL10 ihL10 =>
    intro q k ηL hk hq hzn hzv hzp hb1 h4L h5B h6B hmzL10  H locs hR hS ls hl
    refine lv_iload_n (pc := 10) E.1 E.2 dX5_readLimits_10 rfl (lv_at hl 0 rfl) ?_
    refine z_iconst (pc := 11) E dX5_readLimits_11 ?_
    refine z_icmp_ge (pc := 12) (tgt := 80) E ⟨by omega, by omega⟩ (by decide) dX5_readLimits_12 (by decide) (fun h12 => ?_) (fun h12 => ?_)
    · exact z_retWv (P1 := fun H9 : Heap => ∃ (η1 δ1 : Int → Int), RD G o η1 δ1 (fun j => sg8 (β j)) H9 ∧ (xLim β n c = 0 → η1 1 = 0 ∧ η1 5 = cLim β n c ∧ η1 2 = η 2 ∧ δ1 = fLim β n δ c) ∧ (¬ xLim β n c = 0 → η1 1 = xLim β n c ∧ η1 2 = pLim β n c) ∧ (-4 ≤ η1 1 ∧ η1 1 ≤ 0) ∧ (η1 4 = η 4) ∧ (In δ1) ∧ (0 ≤ η1 5 ∧ η1 5 ≤ n) ∧ (0 ≤ η1 6 ∧ η1 6 ≤ n)) E hr ⟨ηL, δ, hR, (fun z => absurd (((lx_n (show ¬ lx β n c 0 = 0 by omega)).1.symm.trans z)) (by omega)), (fun z => And.intro (by rw [(lx_n (show ¬ lx β n c 0 = 0 by omega)).1]; omega) (by rw [(lx_n (show ¬ lx β n c 0 = 0 by omega)).2]; omega)), (by first | rfl | (simp only [zu, Int.reduceEq, reduceIte]; done) | (simp only [zu, Int.reduceEq, reduceIte]; omega) | omega), (by first | rfl | (simp only [zu, Int.reduceEq, reduceIte]; done) | (simp only [zu, Int.reduceEq, reduceIte]; omega) | omega), hI, (by first | rfl | (simp only [zu, Int.reduceEq, reduceIte]; done) | (simp only [zu, Int.reduceEq, reduceIte]; omega) | omega), (by first | rfl | (simp only [zu, Int.reduceEq, reduceIte]; done) | (simp only [zu, Int.reduceEq, reduceIte]; omega) | omega)⟩ hS hlocks dX5_readLimits_80
    · refine lv_aload_n (pc := 15) E.1 E.2 dX5_readLimits_15 rfl (lv_at hl 2 rfl) ?_
      refine z_iconst (pc := 16) E dX5_readLimits_16 ?_
      refine lv_ldc (pc := 17) (v := iI (99999)) E.1 E.2 hown (show (Jvm.Cond.constant RX5 98 (iI (99999))).before _ ss = true from (hts _ (List.mem_of_getElem? (i := 1) rfl))) dX5_readLimits_17 ?_
      refine z_wVi (pc := 19) (P1 := fun H9 : Heap => ∃ (η19 : Int → Int), RD G o η19 δ (fun j => sg8 (β j)) H9 ∧ (η19 1 = if ηL 1 = 0 then RNum β n (ηL 5) 0 99999 else ηL 1) ∧ (η19 2 = if ηL 1 = 0 ∧ ¬ RNum β n (ηL 5) 0 99999 = 0 then Sk β n (ηL 5) else ηL 2) ∧ (-4 ≤ η19 1 ∧ η19 1 ≤ 0) ∧ (η19 4 = ηL 4) ∧ (η19 5 = Rd β n (ηL 5)) ∧ (η19 6 = Sk β n (ηL 5)) ∧ (0 ≤ η19 5 ∧ η19 5 ≤ n) ∧ (0 ≤ η19 6 ∧ η19 6 ≤ n)) (As := [.int (iI 0), .int (iI 99999)]) (rest := []) E hml hown hts (mX5_readNumber lL G o ηL δ β 0 99999 n (ηL 5) (by omega) hb (by omega) (by omega) (by omega) (by omega) (by omega) (by first | rfl | assumption | exact Sk_Sk _ _ _ | (congr 1 <;> omega)) (by omega) (by omega)) (cwV 2 hts gX5_readLimits_X5_readNumber rfl rfl rfl vdX5_readNumber ⟨Nat.le_of_ble_eq_true rfl, Nat.le_of_ble_eq_true rfl⟩) (oB.recv hK hR.ob rfl) hR hK hS (fun _ h => h) rfl hl.1 rfl dX5_readLimits_19 hcs (Nat.le_of_ble_eq_true rfl) (fun H locs hnew hsz hoth hS => ?_)
      obtain ⟨η19, hR, e1_19, e2_19, b1_19, e4_19, e5_19, e6_19, b5_19, b6_19⟩ := hnew
      rw [if_neg hzn] at e1_19
      rw [if_neg (fun z => hzn z.1)] at e2_19
      have hk019 := Sk_b β (n := n) (c := (ηL 5)) (by omega)
      have hk119 := Rd_b β (n := n) (c := (ηL 5)) (by omega)
      have hk319 := RNum_b β n (ηL 5) 0 99999
      have hk419 := rN_b (b := β) (n := n) (c := (ηL 5)) (by omega)
      have hw19 : ¬ η19 1 = 0 := by omega
      refine lv_istore_n (pc := 22) (lv' := [(3, .int (iI (rN β n (ηL 5)))), (2, .int (iI k)), (1, .int (iI q)), (0, .ref (o 0))]) E.1 E.2 dX5_readLimits_22 rfl hl (by decide) rfl (fun ls hl => ?_)
      refine lv_aload_n (pc := 23) E.1 E.2 dX5_readLimits_23 rfl (lv_at hl 3 rfl) ?_
      refine z_iconst (pc := 24) E dX5_readLimits_24 ?_
      refine lv_ldc (pc := 25) (v := iI (99999)) E.1 E.2 hown (show (Jvm.Cond.constant RX5 98 (iI (99999))).before _ ss = true from (hts _ (List.mem_of_getElem? (i := 1) rfl))) dX5_readLimits_25 ?_
      refine z_wVi (pc := 27) (P1 := fun H9 : Heap => ∃ (η27 : Int → Int), RD G o η27 δ (fun j => sg8 (β j)) H9 ∧ (η27 1 = if η19 1 = 0 then RNum β n (η19 5) 0 99999 else η19 1) ∧ (η27 2 = if η19 1 = 0 ∧ ¬ RNum β n (η19 5) 0 99999 = 0 then Sk β n (η19 5) else η19 2) ∧ (-4 ≤ η27 1 ∧ η27 1 ≤ 0) ∧ (η27 4 = η19 4) ∧ (η27 5 = Rd β n (η19 5)) ∧ (η27 6 = Sk β n (η19 5)) ∧ (0 ≤ η27 5 ∧ η27 5 ≤ n) ∧ (0 ≤ η27 6 ∧ η27 6 ≤ n)) (As := [.int (iI 0), .int (iI 99999)]) (rest := []) E hml hown hts (mX5_readNumber lL G o η19 δ β 0 99999 n (η19 5) (by omega) hb (by omega) (by omega) (by omega) (by omega) (by omega) (by first | rfl | assumption | exact Sk_Sk _ _ _ | (congr 1 <;> omega)) (by omega) (by omega)) (cwV 2 hts gX5_readLimits_X5_readNumber rfl rfl rfl vdX5_readNumber ⟨Nat.le_of_ble_eq_true rfl, Nat.le_of_ble_eq_true rfl⟩) (oB.recv hK hR.ob rfl) hR hK hS (fun _ h => h) rfl hl.1 rfl dX5_readLimits_27 hcs (Nat.le_of_ble_eq_true rfl) (fun H locs hnew hsz hoth hS => ?_)
      obtain ⟨η27, hR, e1_27, e2_27, b1_27, e4_27, e5_27, e6_27, b5_27, b6_27⟩ := hnew
      rw [if_neg hw19] at e1_27
      rw [if_neg (fun z => hw19 z.1)] at e2_27
      have hk027 := Sk_b β (n := n) (c := (η19 5)) (by omega)
      have hk127 := Rd_b β (n := n) (c := (η19 5)) (by omega)
      have hk327 := RNum_b β n (η19 5) 0 99999
      have hk427 := rN_b (b := β) (n := n) (c := (η19 5)) (by omega)
      have hw27 : ¬ η27 1 = 0 := by omega
      refine lv_istore (pc := 30) (lv' := [(4, .int (iI (rN β n (η19 5)))), (3, .int (iI (rN β n (ηL 5)))), (2, .int (iI k)), (1, .int (iI q)), (0, .ref (o 0))]) E.1 E.2 dX5_readLimits_30 hl (by decide) rfl (fun ls hl => ?_)
      refine lv_iload (pc := 32) E.1 E.2 dX5_readLimits_32 (lv_at hl 0 rfl) ?_
      refine z_if_le (pc := 34) (tgt := 49) E ⟨by omega, by omega⟩ dX5_readLimits_34 (by decide) (fun h34 => ?_) (fun h34 => ?_)
      · refine lv_aload_n (pc := 49) E.1 E.2 dX5_readLimits_49 rfl (lv_at hl 4 rfl) ?_
        refine g5_1 (pc := 50) E hts hin5 hown hK hR.ob (hts _ (List.mem_of_getElem? (i := 2) rfl)) dX5_readLimits_50 ?_
        refine z_if_ne (pc := 53) (tgt := 74) E ⟨by omega, by omega⟩ dX5_readLimits_53 (by decide) (fun h53 => ?_) (fun h53 => ?_)
        · refine lv_iinc (pc := 74) (v := iI (k + 1)) (lv' := [(2, .int (iI (k + 1))), (4, .int (iI (rN β n (η19 5)))), (3, .int (iI (rN β n (ηL 5)))), (1, .int (iI q)), (0, .ref (o 0))]) E.1 E.2 dX5_readLimits_74 hl (k := 2) rfl (iI_add _ _) (by decide) rfl (fun ls hl => ?_)
          refine lv_goto (pc := 77) (tgt := 10) E.1 E.2 dX5_readLimits_77 (by decide) ?_
          exact ihL10 q (k + 1) η27 (by omega) (by omega) (by omega) (by omega) (by omega) (by omega) (by omega) (by omega) (by omega) (by omega)  _ _ hR hS ls (lv_sub hl [0, 3, 4] rfl)
        · exact absurd h53 (by first | exact hw27 | exact fun q => hw27 q | omega)
      · refine lv_iload (pc := 37) E.1 E.2 dX5_readLimits_37 (lv_at hl 0 rfl) ?_
        refine lv_iload_n (pc := 39) E.1 E.2 dX5_readLimits_39 rfl (lv_at hl 1 rfl) ?_
        refine z_icmp_ge (pc := 40) (tgt := 49) E ⟨by omega, by omega⟩ ⟨by omega, by omega⟩ dX5_readLimits_40 (by decide) (fun h40 => ?_) (fun h40 => ?_)
        · refine lv_aload_n (pc := 49) E.1 E.2 dX5_readLimits_49 rfl (lv_at hl 4 rfl) ?_
          refine g5_1 (pc := 50) E hts hin5 hown hK hR.ob (hts _ (List.mem_of_getElem? (i := 2) rfl)) dX5_readLimits_50 ?_
          refine z_if_ne (pc := 53) (tgt := 74) E ⟨by omega, by omega⟩ dX5_readLimits_53 (by decide) (fun h53 => ?_) (fun h53 => ?_)
          · refine lv_iinc (pc := 74) (v := iI (k + 1)) (lv' := [(2, .int (iI (k + 1))), (4, .int (iI (rN β n (η19 5)))), (3, .int (iI (rN β n (ηL 5)))), (1, .int (iI q)), (0, .ref (o 0))]) E.1 E.2 dX5_readLimits_74 hl (k := 2) rfl (iI_add _ _) (by decide) rfl (fun ls hl => ?_)
            refine lv_goto (pc := 77) (tgt := 10) E.1 E.2 dX5_readLimits_77 (by decide) ?_
            exact ihL10 q (k + 1) η27 (by omega) (by omega) (by omega) (by omega) (by omega) (by omega) (by omega) (by omega) (by omega) (by omega)  _ _ hR hS ls (lv_sub hl [0, 3, 4] rfl)
          · exact absurd h53 (by first | exact hw27 | exact fun q => hw27 q | omega)
        · refine lv_aload_n (pc := 43) E.1 E.2 dX5_readLimits_43 rfl (lv_at hl 4 rfl) ?_
          refine z_bipush (pc := 44) E (by decide) dX5_readLimits_44 ?_
          refine z_wVv (pc := 46) (P1 := fun H9 : Heap => ∃ (η46 : Int → Int), RD G o η46 δ (fun j => sg8 (β j)) H9 ∧ (η46 1 = if η27 1 = 0 then (-3) else η27 1) ∧ (η46 2 = if η27 1 = 0 then η27 6 else η27 2) ∧ (η46 4 = η27 4) ∧ (η46 5 = η27 5) ∧ (η46 6 = η27 6)) (As := [.int (iI (-3))]) (rest := []) E hml hown hts (mX5_fail lL G o η27 δ β (-3) (by omega) (by omega)) (cwV 1 hts gX5_readLimits_X5_fail rfl rfl rfl vdX5_fail ⟨Nat.le_of_ble_eq_true rfl, Nat.le_of_ble_eq_true rfl⟩) (oB.recv hK hR.ob rfl) hR hK hS (fun _ h => h) rfl hl.1 rfl dX5_readLimits_46 hcs (Nat.le_of_ble_eq_true rfl) (fun H locs hnew hsz hoth hS => ?_)
          obtain ⟨η46, hR, e1_46, e2_46, e4_46, e5_46, e6_46⟩ := hnew
          rw [if_neg hw27] at e1_46
          rw [if_neg hw27] at e2_46
          have hw46 : ¬ η46 1 = 0 := by omega
          refine lv_aload_n (pc := 49) E.1 E.2 dX5_readLimits_49 rfl (lv_at hl 4 rfl) ?_
          refine g5_1 (pc := 50) E hts hin5 hown hK hR.ob (hts _ (List.mem_of_getElem? (i := 2) rfl)) dX5_readLimits_50 ?_
          refine z_if_ne (pc := 53) (tgt := 74) E ⟨by omega, by omega⟩ dX5_readLimits_53 (by decide) (fun h53 => ?_) (fun h53 => ?_)
          · refine lv_iinc (pc := 74) (v := iI (k + 1)) (lv' := [(2, .int (iI (k + 1))), (4, .int (iI (rN β n (η19 5)))), (3, .int (iI (rN β n (ηL 5)))), (1, .int (iI q)), (0, .ref (o 0))]) E.1 E.2 dX5_readLimits_74 hl (k := 2) rfl (iI_add _ _) (by decide) rfl (fun ls hl => ?_)
            refine lv_goto (pc := 77) (tgt := 10) E.1 E.2 dX5_readLimits_77 (by decide) ?_
            exact ihL10 q (k + 1) η46 (by omega) (by omega) (by omega) (by omega) (by omega) (by omega) (by omega) (by omega) (by omega) (by omega)  _ _ hR hS ls (lv_sub hl [0, 3, 4] rfl)
          · exact absurd h53 (by first | exact hw46 | exact fun q => hw46 q | omega)
set_option maxHeartbeats 4000000 in
set_option maxRecDepth 100000 in
theorem mX5_readLimitsN (lL : Launch) (G : GG) (o : Nat → Nat) (η δ β : Int → Int) (n : Int) (h1 : -4 ≤ η 1 ∧ η 1 ≤ 0) (hb : TX β) (hn : 0 ≤ n ∧ n ≤ 900) (h4 : η 4 = n) (h5 : 0 ≤ η 5 ∧ η 5 ≤ n) (h6 : 0 ≤ η 6 ∧ η 6 ≤ n) (hI : In δ) (hw : ¬ η 1 = 0) : Met lL yX5_readLimits wsX5_readLimits ({ frames := 2, cells := 0, slots := 0, locals := 63 } : Room) (va_Pc [.ref (o 0)] (fun U => RD G o η δ (fun j => sg8 (β j)) U.heap ∧ KK G U)) (va_Qv (fun _ : Unit => True) (fun _ tZ => ∃ (η1 : Int → Int), RD G o η1 δ (fun j => sg8 (β j)) tZ.heap ∧ (η1 1 = η 1) ∧ (η1 2 = η 2) ∧ (η1 4 = η 4) ∧ (0 ≤ η1 5 ∧ η1 5 ≤ n) ∧ (0 ≤ η1 6 ∧ η1 6 ≤ n)) (Ax o 20)) 0 0 (Ax o 20) := by
  refine z_met (P := (fun H : Heap => RD G o η δ (fun j => sg8 (β j)) H)) (by decide) rfl (Nat.le_of_ble_eq_true rfl) (fun pp ee ss mm below meth cC E hr hml hown hts hlocks hR hK ls hl => ?_)
  have hl : lv_has ls 5 [(0, .ref (o 0))] := hl
  have hcs : 0 ≤ (({ frames := 2, cells := 0, slots := 0, locals := 63 } : Room)).cells ∧ 0 ≤ (({ frames := 2, cells := 0, slots := 0, locals := 63 } : Room)).slots := ⟨Nat.zero_le _, Nat.zero_le _⟩
  have hS : va_S (Ax o 20) ss.heap ss.heap [] := va_S.rf
  have hin5 : ∀ w ∈ wsX50, w ∈ wsX5_readLimits := fun w h => List.mem_cons_of_mem _ (List.mem_append_left _ (List.mem_append_left _ (List.mem_append_right _ (h))))
  have hF := hI.F
  have hMm := hI.M
  have hGn := hI.Gn
  refine lv_aload_n (pc := 0) E.1 E.2 dX5_readLimits_0 rfl (lv_at hl 0 rfl) ?_
  refine z_iconst (pc := 1) E dX5_readLimits_1 ?_
  refine z_bipush (pc := 2) E (by decide) dX5_readLimits_2 ?_
  refine z_wVi (pc := 4) (P1 := fun H9 : Heap => ∃ (η4 : Int → Int), RD G o η4 δ (fun j => sg8 (β j)) H9 ∧ (η4 1 = if η 1 = 0 then RNum β n (η 5) 0 7 else η 1) ∧ (η4 2 = if η 1 = 0 ∧ ¬ RNum β n (η 5) 0 7 = 0 then Sk β n (η 5) else η 2) ∧ (-4 ≤ η4 1 ∧ η4 1 ≤ 0) ∧ (η4 4 = η 4) ∧ (η4 5 = Rd β n (η 5)) ∧ (η4 6 = Sk β n (η 5)) ∧ (0 ≤ η4 5 ∧ η4 5 ≤ n) ∧ (0 ≤ η4 6 ∧ η4 6 ≤ n)) (As := [.int (iI 0), .int (iI 7)]) (rest := []) E hml hown hts (mX5_readNumber lL G o η δ β 0 7 n (η 5) (by omega) hb (by omega) (by omega) (by omega) (by omega) (by omega) (by first | rfl | assumption | exact Sk_Sk _ _ _ | (congr 1 <;> omega)) (by omega) (by omega)) (cwV 2 hts gX5_readLimits_X5_readNumber rfl rfl rfl vdX5_readNumber ⟨Nat.le_of_ble_eq_true rfl, Nat.le_of_ble_eq_true rfl⟩) (oB.recv hK hR.ob rfl) hR hK hS (fun _ h => h) rfl hl.1 rfl dX5_readLimits_4 hcs (Nat.le_of_ble_eq_true rfl) (fun H locs hnew hsz hoth hS => ?_)
  obtain ⟨η4, hR, e1_4, e2_4, b1_4, e4_4, e5_4, e6_4, b5_4, b6_4⟩ := hnew
  rw [if_neg hw] at e1_4
  rw [if_neg (fun z => hw z.1)] at e2_4
  have hk04 := Sk_b β (n := n) (c := (η 5)) (by omega)
  have hk14 := Rd_b β (n := n) (c := (η 5)) (by omega)
  have hk34 := RNum_b β n (η 5) 0 7
  have hk44 := rN_b (b := β) (n := n) (c := (η 5)) (by omega)
  have hw4 : ¬ η4 1 = 0 := by omega
  refine lv_istore_n (pc := 7) (lv' := [(1, .int (iI (rN β n (η 5)))), (0, .ref (o 0))]) E.1 E.2 dX5_readLimits_7 rfl hl (by decide) rfl (fun ls hl => ?_)
  refine z_iconst (pc := 8) E dX5_readLimits_8 ?_
  refine lv_istore_n (pc := 9) (lv' := [(2, .int (iI 0)), (1, .int (iI (rN β n (η 5)))), (0, .ref (o 0))]) E.1 E.2 dX5_readLimits_9 rfl hl (by decide) rfl (fun ls hl => ?_)
  suffices L10 : ∀ (nf : Nat), ∀ (q k : Int) (ηL : Int → Int), (0 ≤ k ∧ k ≤ 2) → (0 ≤ q ∧ q ≤ 999999) → (¬ ηL 1 = 0) → (ηL 1 = η 1) → (ηL 2 = η 2) → (-4 ≤ ηL 1 ∧ ηL 1 ≤ 0) → (ηL 4 = n) → (0 ≤ ηL 5 ∧ ηL 5 ≤ n) → (0 ≤ ηL 6 ∧ ηL 6 ≤ n) → ((2 - k).toNat) < nf → ∀  (H : Heap) (locs : List Loc), RD G o ηL δ (fun j => sg8 (β j)) H → va_S (Ax o 20) ss.heap H locs → ∀ ls : Array Slot, lv_has ls 5 [(2, .int (iI k)), (1, .int (iI q)), (0, .ref (o 0))] → W pp lL ee ({ frames := 2, cells := 0, slots := 0, locals := 63 } : Room) ss mm [.ref (o 0)].toArray below meth cC H locs 0 0 (MQ below (va_Qv (fun _ : Unit => True) (fun _ tZ => ∃ (η1 : Int → Int), RD G o η1 δ (fun j => sg8 (β j)) tZ.heap ∧ (η1 1 = η 1) ∧ (η1 2 = η 2) ∧ (η1 4 = η 4) ∧ (0 ≤ η1 5 ∧ η1 5 ≤ n) ∧ (0 ≤ η1 6 ∧ η1 6 ≤ n)) (Ax o 20)) [.ref (o 0)].toArray ss 0 0 (Ax o 20)) (F0 mm 10 ls []) from L10 _ (rN β n (η 5)) 0 η4 (by omega) (by omega) (by omega) (by omega) (by omega) (by omega) (by omega) (by omega) (by omega) (Nat.lt_succ_self _)  _ _ hR hS ls (lv_sub hl [0, 1, 2] rfl)
  intro nfL10
  induction nfL10 with
  | zero => intro q k ηL hk hq hzn hzv hzp hb1 h4L h5B h6B hmzL10; exact absurd hmzL10 (Nat.not_lt_zero _)
  | succ nfL10 ihL10 =>
    intro q k ηL hk hq hzn hzv hzp hb1 h4L h5B h6B hmzL10  H locs hR hS ls hl
    refine lv_iload_n (pc := 10) E.1 E.2 dX5_readLimits_10 rfl (lv_at hl 0 rfl) ?_
    refine z_iconst (pc := 11) E dX5_readLimits_11 ?_
    refine z_icmp_ge (pc := 12) (tgt := 80) E ⟨by omega, by omega⟩ (by decide) dX5_readLimits_12 (by decide) (fun h12 => ?_) (fun h12 => ?_)
    · exact z_retWv (P1 := fun H9 : Heap => ∃ (η1 : Int → Int), RD G o η1 δ (fun j => sg8 (β j)) H9 ∧ (η1 1 = η 1) ∧ (η1 2 = η 2) ∧ (η1 4 = η 4) ∧ (0 ≤ η1 5 ∧ η1 5 ≤ n) ∧ (0 ≤ η1 6 ∧ η1 6 ≤ n)) E hr ⟨ηL, hR, (by first | rfl | (simp only [zu, Int.reduceEq, reduceIte]; done) | (simp only [zu, Int.reduceEq, reduceIte]; omega) | omega), (by first | rfl | (simp only [zu, Int.reduceEq, reduceIte]; done) | (simp only [zu, Int.reduceEq, reduceIte]; omega) | omega), (by first | rfl | (simp only [zu, Int.reduceEq, reduceIte]; done) | (simp only [zu, Int.reduceEq, reduceIte]; omega) | omega), (by first | rfl | (simp only [zu, Int.reduceEq, reduceIte]; done) | (simp only [zu, Int.reduceEq, reduceIte]; omega) | omega), (by first | rfl | (simp only [zu, Int.reduceEq, reduceIte]; done) | (simp only [zu, Int.reduceEq, reduceIte]; omega) | omega)⟩ hS hlocks dX5_readLimits_80
    · refine lv_aload_n (pc := 15) E.1 E.2 dX5_readLimits_15 rfl (lv_at hl 2 rfl) ?_
      refine z_iconst (pc := 16) E dX5_readLimits_16 ?_
      refine lv_ldc (pc := 17) (v := iI (99999)) E.1 E.2 hown (show (Jvm.Cond.constant RX5 98 (iI (99999))).before _ ss = true from (hts _ (List.mem_of_getElem? (i := 1) rfl))) dX5_readLimits_17 ?_
      refine z_wVi (pc := 19) (P1 := fun H9 : Heap => ∃ (η19 : Int → Int), RD G o η19 δ (fun j => sg8 (β j)) H9 ∧ (η19 1 = if ηL 1 = 0 then RNum β n (ηL 5) 0 99999 else ηL 1) ∧ (η19 2 = if ηL 1 = 0 ∧ ¬ RNum β n (ηL 5) 0 99999 = 0 then Sk β n (ηL 5) else ηL 2) ∧ (-4 ≤ η19 1 ∧ η19 1 ≤ 0) ∧ (η19 4 = ηL 4) ∧ (η19 5 = Rd β n (ηL 5)) ∧ (η19 6 = Sk β n (ηL 5)) ∧ (0 ≤ η19 5 ∧ η19 5 ≤ n) ∧ (0 ≤ η19 6 ∧ η19 6 ≤ n)) (As := [.int (iI 0), .int (iI 99999)]) (rest := []) E hml hown hts (mX5_readNumber lL G o ηL δ β 0 99999 n (ηL 5) (by omega) hb (by omega) (by omega) (by omega) (by omega) (by omega) (by first | rfl | assumption | exact Sk_Sk _ _ _ | (congr 1 <;> omega)) (by omega) (by omega)) (cwV 2 hts gX5_readLimits_X5_readNumber rfl rfl rfl vdX5_readNumber ⟨Nat.le_of_ble_eq_true rfl, Nat.le_of_ble_eq_true rfl⟩) (oB.recv hK hR.ob rfl) hR hK hS (fun _ h => h) rfl hl.1 rfl dX5_readLimits_19 hcs (Nat.le_of_ble_eq_true rfl) (fun H locs hnew hsz hoth hS => ?_)
      obtain ⟨η19, hR, e1_19, e2_19, b1_19, e4_19, e5_19, e6_19, b5_19, b6_19⟩ := hnew
      rw [if_neg hzn] at e1_19
      rw [if_neg (fun z => hzn z.1)] at e2_19
      have hk019 := Sk_b β (n := n) (c := (ηL 5)) (by omega)
      have hk119 := Rd_b β (n := n) (c := (ηL 5)) (by omega)
      have hk319 := RNum_b β n (ηL 5) 0 99999
      have hk419 := rN_b (b := β) (n := n) (c := (ηL 5)) (by omega)
      have hw19 : ¬ η19 1 = 0 := by omega
      refine lv_istore_n (pc := 22) (lv' := [(3, .int (iI (rN β n (ηL 5)))), (2, .int (iI k)), (1, .int (iI q)), (0, .ref (o 0))]) E.1 E.2 dX5_readLimits_22 rfl hl (by decide) rfl (fun ls hl => ?_)
      refine lv_aload_n (pc := 23) E.1 E.2 dX5_readLimits_23 rfl (lv_at hl 3 rfl) ?_
      refine z_iconst (pc := 24) E dX5_readLimits_24 ?_
      refine lv_ldc (pc := 25) (v := iI (99999)) E.1 E.2 hown (show (Jvm.Cond.constant RX5 98 (iI (99999))).before _ ss = true from (hts _ (List.mem_of_getElem? (i := 1) rfl))) dX5_readLimits_25 ?_
      refine z_wVi (pc := 27) (P1 := fun H9 : Heap => ∃ (η27 : Int → Int), RD G o η27 δ (fun j => sg8 (β j)) H9 ∧ (η27 1 = if η19 1 = 0 then RNum β n (η19 5) 0 99999 else η19 1) ∧ (η27 2 = if η19 1 = 0 ∧ ¬ RNum β n (η19 5) 0 99999 = 0 then Sk β n (η19 5) else η19 2) ∧ (-4 ≤ η27 1 ∧ η27 1 ≤ 0) ∧ (η27 4 = η19 4) ∧ (η27 5 = Rd β n (η19 5)) ∧ (η27 6 = Sk β n (η19 5)) ∧ (0 ≤ η27 5 ∧ η27 5 ≤ n) ∧ (0 ≤ η27 6 ∧ η27 6 ≤ n)) (As := [.int (iI 0), .int (iI 99999)]) (rest := []) E hml hown hts (mX5_readNumber lL G o η19 δ β 0 99999 n (η19 5) (by omega) hb (by omega) (by omega) (by omega) (by omega) (by omega) (by first | rfl | assumption | exact Sk_Sk _ _ _ | (congr 1 <;> omega)) (by omega) (by omega)) (cwV 2 hts gX5_readLimits_X5_readNumber rfl rfl rfl vdX5_readNumber ⟨Nat.le_of_ble_eq_true rfl, Nat.le_of_ble_eq_true rfl⟩) (oB.recv hK hR.ob rfl) hR hK hS (fun _ h => h) rfl hl.1 rfl dX5_readLimits_27 hcs (Nat.le_of_ble_eq_true rfl) (fun H locs hnew hsz hoth hS => ?_)
      obtain ⟨η27, hR, e1_27, e2_27, b1_27, e4_27, e5_27, e6_27, b5_27, b6_27⟩ := hnew
      rw [if_neg hw19] at e1_27
      rw [if_neg (fun z => hw19 z.1)] at e2_27
      have hk027 := Sk_b β (n := n) (c := (η19 5)) (by omega)
      have hk127 := Rd_b β (n := n) (c := (η19 5)) (by omega)
      have hk327 := RNum_b β n (η19 5) 0 99999
      have hk427 := rN_b (b := β) (n := n) (c := (η19 5)) (by omega)
      have hw27 : ¬ η27 1 = 0 := by omega
      refine lv_istore (pc := 30) (lv' := [(4, .int (iI (rN β n (η19 5)))), (3, .int (iI (rN β n (ηL 5)))), (2, .int (iI k)), (1, .int (iI q)), (0, .ref (o 0))]) E.1 E.2 dX5_readLimits_30 hl (by decide) rfl (fun ls hl => ?_)
      refine lv_iload (pc := 32) E.1 E.2 dX5_readLimits_32 (lv_at hl 0 rfl) ?_
      refine z_if_le (pc := 34) (tgt := 49) E ⟨by omega, by omega⟩ dX5_readLimits_34 (by decide) (fun h34 => ?_) (fun h34 => ?_)
      · refine lv_aload_n (pc := 49) E.1 E.2 dX5_readLimits_49 rfl (lv_at hl 4 rfl) ?_
        refine g5_1 (pc := 50) E hts hin5 hown hK hR.ob (hts _ (List.mem_of_getElem? (i := 2) rfl)) dX5_readLimits_50 ?_
        refine z_if_ne (pc := 53) (tgt := 74) E ⟨by omega, by omega⟩ dX5_readLimits_53 (by decide) (fun h53 => ?_) (fun h53 => ?_)
        · refine lv_iinc (pc := 74) (v := iI (k + 1)) (lv' := [(2, .int (iI (k + 1))), (4, .int (iI (rN β n (η19 5)))), (3, .int (iI (rN β n (ηL 5)))), (1, .int (iI q)), (0, .ref (o 0))]) E.1 E.2 dX5_readLimits_74 hl (k := 2) rfl (iI_add _ _) (by decide) rfl (fun ls hl => ?_)
          refine lv_goto (pc := 77) (tgt := 10) E.1 E.2 dX5_readLimits_77 (by decide) ?_
          exact ihL10 q (k + 1) η27 (by omega) (by omega) (by omega) (by omega) (by omega) (by omega) (by omega) (by omega) (by omega) (by omega)  _ _ hR hS ls (lv_sub hl [0, 3, 4] rfl)
        · exact absurd h53 (by first | exact hw27 | exact fun q => hw27 q | omega)
      · refine lv_iload (pc := 37) E.1 E.2 dX5_readLimits_37 (lv_at hl 0 rfl) ?_
        refine lv_iload_n (pc := 39) E.1 E.2 dX5_readLimits_39 rfl (lv_at hl 1 rfl) ?_
        refine z_icmp_ge (pc := 40) (tgt := 49) E ⟨by omega, by omega⟩ ⟨by omega, by omega⟩ dX5_readLimits_40 (by decide) (fun h40 => ?_) (fun h40 => ?_)
        · refine lv_aload_n (pc := 49) E.1 E.2 dX5_readLimits_49 rfl (lv_at hl 4 rfl) ?_
          refine g5_1 (pc := 50) E hts hin5 hown hK hR.ob (hts _ (List.mem_of_getElem? (i := 2) rfl)) dX5_readLimits_50 ?_
          refine z_if_ne (pc := 53) (tgt := 74) E ⟨by omega, by omega⟩ dX5_readLimits_53 (by decide) (fun h53 => ?_) (fun h53 => ?_)
          · refine lv_iinc (pc := 74) (v := iI (k + 1)) (lv' := [(2, .int (iI (k + 1))), (4, .int (iI (rN β n (η19 5)))), (3, .int (iI (rN β n (ηL 5)))), (1, .int (iI q)), (0, .ref (o 0))]) E.1 E.2 dX5_readLimits_74 hl (k := 2) rfl (iI_add _ _) (by decide) rfl (fun ls hl => ?_)
            refine lv_goto (pc := 77) (tgt := 10) E.1 E.2 dX5_readLimits_77 (by decide) ?_
            exact ihL10 q (k + 1) η27 (by omega) (by omega) (by omega) (by omega) (by omega) (by omega) (by omega) (by omega) (by omega) (by omega)  _ _ hR hS ls (lv_sub hl [0, 3, 4] rfl)
          · exact absurd h53 (by first | exact hw27 | exact fun q => hw27 q | omega)
        · refine lv_aload_n (pc := 43) E.1 E.2 dX5_readLimits_43 rfl (lv_at hl 4 rfl) ?_
          refine z_bipush (pc := 44) E (by decide) dX5_readLimits_44 ?_
          refine z_wVv (pc := 46) (P1 := fun H9 : Heap => ∃ (η46 : Int → Int), RD G o η46 δ (fun j => sg8 (β j)) H9 ∧ (η46 1 = if η27 1 = 0 then (-3) else η27 1) ∧ (η46 2 = if η27 1 = 0 then η27 6 else η27 2) ∧ (η46 4 = η27 4) ∧ (η46 5 = η27 5) ∧ (η46 6 = η27 6)) (As := [.int (iI (-3))]) (rest := []) E hml hown hts (mX5_fail lL G o η27 δ β (-3) (by omega) (by omega)) (cwV 1 hts gX5_readLimits_X5_fail rfl rfl rfl vdX5_fail ⟨Nat.le_of_ble_eq_true rfl, Nat.le_of_ble_eq_true rfl⟩) (oB.recv hK hR.ob rfl) hR hK hS (fun _ h => h) rfl hl.1 rfl dX5_readLimits_46 hcs (Nat.le_of_ble_eq_true rfl) (fun H locs hnew hsz hoth hS => ?_)
          obtain ⟨η46, hR, e1_46, e2_46, e4_46, e5_46, e6_46⟩ := hnew
          rw [if_neg hw27] at e1_46
          rw [if_neg hw27] at e2_46
          have hw46 : ¬ η46 1 = 0 := by omega
          refine lv_aload_n (pc := 49) E.1 E.2 dX5_readLimits_49 rfl (lv_at hl 4 rfl) ?_
          refine g5_1 (pc := 50) E hts hin5 hown hK hR.ob (hts _ (List.mem_of_getElem? (i := 2) rfl)) dX5_readLimits_50 ?_
          refine z_if_ne (pc := 53) (tgt := 74) E ⟨by omega, by omega⟩ dX5_readLimits_53 (by decide) (fun h53 => ?_) (fun h53 => ?_)
          · refine lv_iinc (pc := 74) (v := iI (k + 1)) (lv' := [(2, .int (iI (k + 1))), (4, .int (iI (rN β n (η19 5)))), (3, .int (iI (rN β n (ηL 5)))), (1, .int (iI q)), (0, .ref (o 0))]) E.1 E.2 dX5_readLimits_74 hl (k := 2) rfl (iI_add _ _) (by decide) rfl (fun ls hl => ?_)
            refine lv_goto (pc := 77) (tgt := 10) E.1 E.2 dX5_readLimits_77 (by decide) ?_
            exact ihL10 q (k + 1) η46 (by omega) (by omega) (by omega) (by omega) (by omega) (by omega) (by omega) (by omega) (by omega) (by omega)  _ _ hR hS ls (lv_sub hl [0, 3, 4] rfl)
          · exact absurd h53 (by first | exact hw46 | exact fun q => hw46 q | omega)
