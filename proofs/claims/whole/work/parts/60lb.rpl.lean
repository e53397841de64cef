theorem vdX8_readsLimits : yX8_readsLimits.cls = RX8 ∧ yX8_readsLimits.cls ≠ "java/lang/invoke/MethodHandle" ∧ yX8_readsLimits.cls ≠ "java/lang/invoke/VarHandle" ∧ (parseMethodDescriptor yX8_readsLimits.desc).map (fun d => d.parameters.length) = some 0 := by decide +kernel
set_option maxHeartbeats 4000000 in
set_option maxRecDepth 100000 in
theorem mX8_readsLimits (lL : Launch) (G : GG) (o : Nat → Nat) (μ σ φ κ β ω : Int → Int) (n : Int) (c : Int) (hb : TX β) (hw : μ 12 = 0) (htk : TKw β n μ c) (hrw : -9223372036854775808 ≤ μ 15 ∧ μ 15 < 9223372036854775808) (hJ : In φ) : Met lL yX8_readsLimits wsX8_readsLimits ({ frames := 4, cells := 0, slots := 0, locals := 88 } : Room) (va_Pc [.ref (o 0)] (fun U => W8 G o (mV o μ) σ φ κ β ω U.heap ∧ KK G U)) (va_Qv (fun _ : Unit => True) (fun _ tZ => ∃ (μ1 φ1 : Int → Int), W8 G o (mV o μ1) σ φ1 κ β ω tZ.heap ∧ (KQ μ1 μ) ∧ (xLim β n c = 0 → μ1 12 = 0 ∧ TKw β n μ1 (cLim β n c) ∧ φ1 = fLim β n φ c) ∧ (¬ xLim β n c = 0 → μ1 12 = xLim β n c ∧ μ1 13 = pLim β n c ∧ (0 ≤ μ1 8 ∧ μ1 8 ≤ 900) ∧ (0 ≤ μ1 10 ∧ μ1 10 ≤ 3)) ∧ (-9223372036854775808 ≤ μ1 15 ∧ μ1 15 < 9223372036854775808)) (Ax o 6)) 0 0 (Ax o 6) := by
  refine z_met (P := (fun H : Heap => W8 G o (mV o μ) σ φ κ β ω H)) (by decide) rfl (Nat.le_of_ble_eq_true rfl) (fun pp ee ss mm below meth cC E hr hml hown hts hlocks hM hK ls hl => ?_)
  have hl : lv_has ls 5 [(0, .ref (o 0))] := hl
  have hcs : 0 ≤ (({ frames := 4, cells := 0, slots := 0, locals := 88 } : Room)).cells ∧ 0 ≤ (({ frames := 4, cells := 0, slots := 0, locals := 88 } : Room)).slots := ⟨Nat.zero_le _, Nat.zero_le _⟩
  have hS : va_S (Ax o 6) ss.heap ss.heap [] := va_S.rf
  have hin8 : ∀ w ∈ wsX80, w ∈ wsX8_readsLimits := fun w h => List.mem_cons_of_mem _ (List.mem_append_right _ (h))
  have h7 := htk.n7
  have h9 := htk.be9
  have h8 := htk.at8
  have h10 := htk.ki10
  have hcn := htk.c0
  have hsn := htk.skb
  have htn := htk.teb
  have hkd := Kd_b β n c
  have hJF := hJ.F
  refine lv_aload_n (pc := 0) E.1 E.2 dX8_readsLimits_0 rfl (lv_at hl 0 rfl) ?_
  refine z_iconst (pc := 1) E dX8_readsLimits_1 ?_
  refine z_wVv (pc := 2) (P1 := fun H9 : Heap => ∃ (μ2 : Int → Int), W8 G o (mV o μ2) σ φ κ β ω H9 ∧ (KQ μ2 μ) ∧ (μ2 12 = 0) ∧ (TKw β n μ2 (Te β n c)) ∧ (-9223372036854775808 ≤ μ2 15 ∧ μ2 15 < 9223372036854775808)) (As := [.int (iI 1)]) (rest := []) E hml hown hts (mX8_mustTw lL G o μ σ φ κ β ω 1 n c hb (by omega) (by omega) (by assumption)) (cwV 1 hts gX8_readsLimits_X8_must rfl rfl rfl vdX8_must ⟨Nat.le_of_ble_eq_true rfl, Nat.le_of_ble_eq_true rfl⟩) (oB.recv hK hM.1 rfl) hM hK hS (fun _ h => h) rfl hl.1 rfl dX8_readsLimits_2 hcs (Nat.le_of_ble_eq_true rfl) (fun H locs hnew hsz hoth hS => ?_)
  obtain ⟨μ2, hM, kq_2, e2_2, tk_2, rw_2⟩ := hnew
  have h7t2 := tk_2.n7
  have h9t2 := tk_2.be9
  have h8t2 := tk_2.at8
  have h10t2 := tk_2.ki10
  have hct2 := tk_2.c0
  have hst2 := tk_2.skb
  have htt2 := tk_2.teb
  have hkt2 := Kd_b β n (Te β n c)
  have hnt2 := fun z : Kd β n (Te β n c) = 1 => tk_2.nu z
  have hnb2 : Kd β n (Te β n c) = 1 → (0 ≤ Nm β n (Te β n c) ∧ Nm β n (Te β n c) ≤ 9999999) := fun z => NmT_r (by omega) z
  refine lv_aload_n (pc := 5) E.1 E.2 dX8_readsLimits_5 rfl (lv_at hl 0 rfl) ?_
  refine z_iconst (pc := 6) E dX8_readsLimits_6 ?_
  refine z_bipush (pc := 7) E (by decide) dX8_readsLimits_7 ?_
  refine z_wVi (pc := 9) (P1 := fun H9 : Heap => ∃ (μ9 : Int → Int), W8 G o (mV o μ9) σ φ κ β ω H9 ∧ (KQ μ9 μ2) ∧ (RNum β n (Te β n c) 0 7 = 0 → μ9 12 = 0 ∧ TKw β n μ9 (Te β n (Te β n c))) ∧ (¬ RNum β n (Te β n c) 0 7 = 0 → μ9 12 = RNum β n (Te β n c) 0 7 ∧ μ9 13 = Sk β n (Te β n c) ∧ (0 ≤ μ9 8 ∧ μ9 8 ≤ 900) ∧ (0 ≤ μ9 10 ∧ μ9 10 ≤ 3)) ∧ (-9223372036854775808 ≤ μ9 15 ∧ μ9 15 < 9223372036854775808)) (As := [.int (iI 0), .int (iI 7)]) (rest := []) E hml hown hts (mX8_takesZw lL G o μ2 σ φ κ β ω 0 7 n (Te β n c) hb (by omega) (by omega) (by omega) (by assumption) (by omega)) (cwV 2 hts gX8_readsLimits_X8_takes rfl rfl rfl vdX8_takes ⟨Nat.le_of_ble_eq_true rfl, Nat.le_of_ble_eq_true rfl⟩) (oB.recv hK hM.1 rfl) hM hK hS (fun _ h => h) rfl hl.1 rfl dX8_readsLimits_9 hcs (Nat.le_of_ble_eq_true rfl) (fun H locs hnew hsz hoth hS => ?_)
  obtain ⟨μ9, hM, kq_9, x_9, y_9, rw_9⟩ := hnew
  by_cases hs9 : RNum β n (Te β n c) 0 7 = 0
  · have hw9 := (x_9 hs9).1
    have ht9 := (x_9 hs9).2
    have hq9 := RNum_0 hs9
    rw [if_pos hs9]
    have h7t9 := ht9.n7
    have h9t9 := ht9.be9
    have h8t9 := ht9.at8
    have h10t9 := ht9.ki10
    have hct9 := ht9.c0
    have hst9 := ht9.skb
    have htt9 := ht9.teb
    have hkt9 := Kd_b β n (Te β n (Te β n c))
    have hnt9 := fun z : Kd β n (Te β n (Te β n c)) = 1 => ht9.nu z
    have hnb9 : Kd β n (Te β n (Te β n c)) = 1 → (0 ≤ Nm β n (Te β n (Te β n c)) ∧ Nm β n (Te β n (Te β n c)) ≤ 9999999) := fun z => NmT_r (by omega) z
    refine lv_istore_n (pc := 12) (lv' := [(1, .int (iI (Nm β n (Te β n c)))), (0, .ref (o 0))]) E.1 E.2 dX8_readsLimits_12 rfl hl (by decide) rfl (fun ls hl => ?_)
    refine z_iconst (pc := 13) E dX8_readsLimits_13 ?_
    refine lv_istore_n (pc := 14) (lv' := [(2, .int (iI 0)), (1, .int (iI (Nm β n (Te β n c)))), (0, .ref (o 0))]) E.1 E.2 dX8_readsLimits_14 rfl hl (by decide) rfl (fun ls hl => ?_)
    suffices L15 : ∀ (nf : Nat), ∀ (q k : Int) (μL : Int → Int) (φL : Int → Int), (0 ≤ k ∧ k ≤ 2) → (0 ≤ q ∧ q ≤ 7) → (KQ μL μ) → (-9223372036854775808 ≤ μL 15 ∧ μL 15 < 9223372036854775808) → ((μL 12 = 0 ∧ TKw β n μL (lc β n c k.toNat) ∧ φL = lf β n φ c k.toNat ∧ lx β n c k.toNat = 0 ∧ q = Nm β n (Te β n c)) ∨ (¬ μL 12 = 0 ∧ μL 12 = lx β n c k.toNat ∧ μL 13 = lp β n c k.toNat ∧ (0 ≤ μL 8 ∧ μL 8 ≤ 900) ∧ (0 ≤ μL 10 ∧ μL 10 ≤ 3))) → ((2 - k).toNat) < nf → ∀  (H : Heap) (locs : List Loc), W8 G o (mV o μL) σ φL κ β ω H → va_S (Ax o 6) ss.heap H locs → ∀ ls : Array Slot, lv_has ls 5 [(2, .int (iI k)), (1, .int (iI q)), (0, .ref (o 0))] → W pp lL ee ({ frames := 4, cells := 0, slots := 0, locals := 88 } : Room) ss mm [.ref (o 0)].toArray below meth cC H locs 0 0 (MQ below (va_Qv (fun _ : Unit => True) (fun _ tZ => ∃ (μ1 φ1 : Int → Int), W8 G o (mV o μ1) σ φ1 κ β ω tZ.heap ∧ (KQ μ1 μ) ∧ (xLim β n c = 0 → μ1 12 = 0 ∧ TKw β n μ1 (cLim β n c) ∧ φ1 = fLim β n φ c) ∧ (¬ xLim β n c = 0 → μ1 12 = xLim β n c ∧ μ1 13 = pLim β n c ∧ (0 ≤ μ1 8 ∧ μ1 8 ≤ 900) ∧ (0 ≤ μ1 10 ∧ μ1 10 ≤ 3)) ∧ (-9223372036854775808 ≤ μ1 15 ∧ μ1 15 < 9223372036854775808)) (Ax o 6)) [.ref (o 0)].toArray ss 0 0 (Ax o 6)) (F0 mm 15 ls []) from L15 _ (Nm β n (Te β n c)) 0 μ9 φ (by omega) (by omega) (kq_9.t (kq_2.t (KQ.rf μ))) (by omega) (Or.inl ⟨hw9, ht9, rfl, hs9, rfl⟩) (Nat.lt_succ_self _)  _ _ hM hS ls (lv_sub hl [0, 1, 2] rfl)
    intro nfL15
    induction nfL15 with
    | zero => intro q k μL φL hk hq hkL hrL hz hmzL15; exact absurd hmzL15 (Nat.not_lt_zero _)
    | succ nfL15 ihL15 =>
      intro q k μL φL hk hq hkL hrL hz hmzL15  H locs hM hS ls hl
      refine lv_iload_n (pc := 15) E.1 E.2 dX8_readsLimits_15 rfl (lv_at hl 0 rfl) ?_
      refine z_iconst (pc := 16) E dX8_readsLimits_16 ?_
      refine z_icmp_ge (pc := 17) (tgt := 109) E ⟨by omega, by omega⟩ (by decide) dX8_readsLimits_17 (by decide) (fun h17 => ?_) (fun h17 => ?_)
      · have ek : k = 2 := by omega
        subst ek
        exact z_retWv (P1 := fun H9 : Heap => ∃ (μ1 φ1 : Int → Int), W8 G o (mV o μ1) σ φ1 κ β ω H9 ∧ (KQ μ1 μ) ∧ (xLim β n c = 0 → μ1 12 = 0 ∧ TKw β n μ1 (cLim β n c) ∧ φ1 = fLim β n φ c) ∧ (¬ xLim β n c = 0 → μ1 12 = xLim β n c ∧ μ1 13 = pLim β n c ∧ (0 ≤ μ1 8 ∧ μ1 8 ≤ 900) ∧ (0 ≤ μ1 10 ∧ μ1 10 ≤ 3)) ∧ (-9223372036854775808 ≤ μ1 15 ∧ μ1 15 < 9223372036854775808)) E hr ⟨μL, φL, hM, hkL, (fun z => by rcases hz with h | h; exact And.intro h.1 (And.intro h.2.1 h.2.2.1); exact absurd (h.2.1.trans z) h.1), (fun z => by rcases hz with h | h; exact absurd h.2.2.2.1 z; exact And.intro h.2.1 h.2.2), hrL⟩ hS hlocks dX8_readsLimits_109
      · refine lv_aload_n (pc := 20) E.1 E.2 dX8_readsLimits_20 rfl (lv_at hl 2 rfl) ?_
        by_cases hzz : μL 12 = 0
        · have hzL := hz.resolve_right (fun z => z.1 hzz)
          have htL := hzL.2.1
          have hfL := hzL.2.2.1
          have h7tL := htL.n7
          have h9tL := htL.be9
          have h8tL := htL.at8
          have h10tL := htL.ki10
          have hctL := htL.c0
          have hstL := htL.skb
          have httL := htL.teb
          have hktL := Kd_b β n (lc β n c k.toNat)
          have hntL := fun z : Kd β n (lc β n c k.toNat) = 1 => htL.nu z
          have hnbL : Kd β n (lc β n c k.toNat) = 1 → (0 ≤ Nm β n (lc β n c k.toNat) ∧ Nm β n (lc β n c k.toNat) ≤ 9999999) := fun z => NmT_r (by omega) z
          refine z_iconst (pc := 21) E dX8_readsLimits_21 ?_
          refine lv_ldc (pc := 22) (v := iI (99999)) E.1 E.2 hown (show (Jvm.Cond.constant RX8 134 (iI (99999))).before _ ss = true from (hts _ (List.mem_of_getElem? (i := 1) rfl))) dX8_readsLimits_22 ?_
          refine z_wVi (pc := 24) (P1 := fun H9 : Heap => ∃ (μ24 : Int → Int), W8 G o (mV o μ24) σ φL κ β ω H9 ∧ (KQ μ24 μL) ∧ (RNum β n (lc β n c k.toNat) 0 99999 = 0 → μ24 12 = 0 ∧ TKw β n μ24 (Te β n (lc β n c k.toNat))) ∧ (¬ RNum β n (lc β n c k.toNat) 0 99999 = 0 → μ24 12 = RNum β n (lc β n c k.toNat) 0 99999 ∧ μ24 13 = Sk β n (lc β n c k.toNat) ∧ (0 ≤ μ24 8 ∧ μ24 8 ≤ 900) ∧ (0 ≤ μ24 10 ∧ μ24 10 ≤ 3)) ∧ (-9223372036854775808 ≤ μ24 15 ∧ μ24 15 < 9223372036854775808)) (As := [.int (iI 0), .int (iI 99999)]) (rest := []) E hml hown hts (mX8_takesZw lL G o μL σ φL κ β ω 0 99999 n (lc β n c k.toNat) hb (by omega) (by omega) (by omega) (by assumption) (by omega)) (cwV 2 hts gX8_readsLimits_X8_takes rfl rfl rfl vdX8_takes ⟨Nat.le_of_ble_eq_true rfl, Nat.le_of_ble_eq_true rfl⟩) (oB.recv hK hM.1 rfl) hM hK hS (fun _ h => h) rfl hl.1 rfl dX8_readsLimits_24 hcs (Nat.le_of_ble_eq_true rfl) (fun H locs hnew hsz hoth hS => ?_)
          obtain ⟨μ24, hM, kq_24, x_24, y_24, rw_24⟩ := hnew
          by_cases hs24 : RNum β n (lc β n c k.toNat) 0 99999 = 0
          · have hw24 := (x_24 hs24).1
            have ht24 := (x_24 hs24).2
            have hq24 := RNum_0 hs24
            rw [if_pos hs24]
            have h7t24 := ht24.n7
            have h9t24 := ht24.be9
            have h8t24 := ht24.at8
            have h10t24 := ht24.ki10
            have hct24 := ht24.c0
            have hst24 := ht24.skb
            have htt24 := ht24.teb
            have hkt24 := Kd_b β n (Te β n (lc β n c k.toNat))
            have hnt24 := fun z : Kd β n (Te β n (lc β n c k.toNat)) = 1 => ht24.nu z
            have hnb24 : Kd β n (Te β n (lc β n c k.toNat)) = 1 → (0 ≤ Nm β n (Te β n (lc β n c k.toNat)) ∧ Nm β n (Te β n (lc β n c k.toNat)) ≤ 9999999) := fun z => NmT_r (by omega) z
            refine lv_istore_n (pc := 27) (lv' := [(3, .int (iI (Nm β n (lc β n c k.toNat)))), (2, .int (iI k)), (1, .int (iI q)), (0, .ref (o 0))]) E.1 E.2 dX8_readsLimits_27 rfl hl (by decide) rfl (fun ls hl => ?_)
            refine lv_aload_n (pc := 28) E.1 E.2 dX8_readsLimits_28 rfl (lv_at hl 3 rfl) ?_
            refine g8_12 (pc := 29) E hts hin8 hown hK hM.1 (hts _ (List.mem_of_getElem? (i := 2) rfl)) dX8_readsLimits_29 ?_
            refine z_if_ne (pc := 32) (tgt := 64) E ⟨by omega, by omega⟩ dX8_readsLimits_32 (by decide) (fun h32 => ?_) (fun h32 => ?_)
            · exact absurd h32 (by first | exact hw24 | exact fun q => hw24 q | omega)
            · refine lv_aload_n (pc := 35) E.1 E.2 dX8_readsLimits_35 rfl (lv_at hl 3 rfl) ?_
              refine g8_10 (pc := 36) E hts hin8 hown hK hM.1 (hts _ (List.mem_of_getElem? (i := 3) rfl)) dX8_readsLimits_36 ?_
              refine z_iconst (pc := 39) E dX8_readsLimits_39 ?_
              refine z_icmp_ne (pc := 40) (tgt := 64) E ⟨by omega, by omega⟩ (by decide) dX8_readsLimits_40 (by decide) (fun h40 => ?_) (fun h40 => ?_)
              · refine lv_aload_n (pc := 64) E.1 E.2 dX8_readsLimits_64 rfl (lv_at hl 3 rfl) ?_
                refine z_iconst (pc := 65) E dX8_readsLimits_65 ?_
                refine lv_ldc (pc := 66) (v := iI (99999)) E.1 E.2 hown (show (Jvm.Cond.constant RX8 134 (iI (99999))).before _ ss = true from (hts _ (List.mem_of_getElem? (i := 1) rfl))) dX8_readsLimits_66 ?_
                refine z_wVi (pc := 68) (P1 := fun H9 : Heap => ∃ (μ68 : Int → Int), W8 G o (mV o μ68) σ φL κ β ω H9 ∧ (KQ μ68 μ24) ∧ (RNum β n (Te β n (lc β n c k.toNat)) 0 99999 = 0 → μ68 12 = 0 ∧ TKw β n μ68 (Te β n (Te β n (lc β n c k.toNat)))) ∧ (¬ RNum β n (Te β n (lc β n c k.toNat)) 0 99999 = 0 → μ68 12 = RNum β n (Te β n (lc β n c k.toNat)) 0 99999 ∧ μ68 13 = Sk β n (Te β n (lc β n c k.toNat)) ∧ (0 ≤ μ68 8 ∧ μ68 8 ≤ 900) ∧ (0 ≤ μ68 10 ∧ μ68 10 ≤ 3)) ∧ (-9223372036854775808 ≤ μ68 15 ∧ μ68 15 < 9223372036854775808)) (As := [.int (iI 0), .int (iI 99999)]) (rest := []) E hml hown hts (mX8_takesZw lL G o μ24 σ φL κ β ω 0 99999 n (Te β n (lc β n c k.toNat)) hb (by omega) (by omega) (by omega) (by assumption) (by omega)) (cwV 2 hts gX8_readsLimits_X8_takes rfl rfl rfl vdX8_takes ⟨Nat.le_of_ble_eq_true rfl, Nat.le_of_ble_eq_true rfl⟩) (oB.recv hK hM.1 rfl) hM hK hS (fun _ h => h) rfl hl.1 rfl dX8_readsLimits_68 hcs (Nat.le_of_ble_eq_true rfl) (fun H locs hnew hsz hoth hS => ?_)
                obtain ⟨μ68, hM, kq_68, x_68, y_68, rw_68⟩ := hnew
                by_cases hs68 : RNum β n (Te β n (lc β n c k.toNat)) 0 99999 = 0
                · have hw68 := (x_68 hs68).1
                  have ht68 := (x_68 hs68).2
                  have hq68 := RNum_0 hs68
                  rw [if_pos hs68]
                  have h7t68 := ht68.n7
                  have h9t68 := ht68.be9
                  have h8t68 := ht68.at8
                  have h10t68 := ht68.ki10
                  have hct68 := ht68.c0
                  have hst68 := ht68.skb
                  have htt68 := ht68.teb
                  have hkt68 := Kd_b β n (Te β n (Te β n (lc β n c k.toNat)))
                  have hnt68 := fun z : Kd β n (Te β n (Te β n (lc β n c k.toNat))) = 1 => ht68.nu z
                  have hnb68 : Kd β n (Te β n (Te β n (lc β n c k.toNat))) = 1 → (0 ≤ Nm β n (Te β n (Te β n (lc β n c k.toNat))) ∧ Nm β n (Te β n (Te β n (lc β n c k.toNat))) ≤ 9999999) := fun z => NmT_r (by omega) z
                  refine lv_istore (pc := 71) (lv' := [(4, .int (iI (Nm β n (Te β n (lc β n c k.toNat))))), (3, .int (iI (Nm β n (lc β n c k.toNat)))), (2, .int (iI k)), (1, .int (iI q)), (0, .ref (o 0))]) E.1 E.2 dX8_readsLimits_71 hl (by decide) rfl (fun ls hl => ?_)
                  refine lv_aload_n (pc := 73) E.1 E.2 dX8_readsLimits_73 rfl (lv_at hl 4 rfl) ?_
                  refine g8_1 (pc := 74) E hts hin8 hown hK hM.1 (hts _ (List.mem_of_getElem? (i := 5) rfl)) dX8_readsLimits_74 ?_
                  refine z_iconst (pc := 77) E dX8_readsLimits_77 ?_
                  refine z_iconst (pc := 78) E dX8_readsLimits_78 ?_
                  refine lv_iload_n (pc := 79) E.1 E.2 dX8_readsLimits_79 rfl (lv_at hl 3 rfl) ?_
                  refine z_imul (pc := 80) E dX8_readsLimits_80 ?_
                  refine z_iadd (pc := 81) E dX8_readsLimits_81 ?_
                  refine lv_iload_n (pc := 82) E.1 E.2 dX8_readsLimits_82 rfl (lv_at hl 2 rfl) ?_
                  refine z_iadd (pc := 83) E dX8_readsLimits_83 ?_
                  refine lv_iload_n (pc := 84) E.1 E.2 dX8_readsLimits_84 rfl (lv_at hl 1 rfl) ?_
                  refine z_i2l (pc := 85) E ⟨by omega, by omega⟩ dX8_readsLimits_85 ?_
                  refine z_lastore (pc := 86) E hK hM.2.2.1 hS (Ax.at 2 (by decide)) ⟨by omega, by omega⟩ (by decide) dX8_readsLimits_86 (fun H locs hnew hoth hS => ?_)
                  have hM := W8.a2 hM hnew (fun a _ h => hoth a h)
                  refine lv_aload_n (pc := 87) E.1 E.2 dX8_readsLimits_87 rfl (lv_at hl 4 rfl) ?_
                  refine g8_1 (pc := 88) E hts hin8 hown hK hM.1 (hts _ (List.mem_of_getElem? (i := 5) rfl)) dX8_readsLimits_88 ?_
                  refine z_bipush (pc := 91) E (by decide) dX8_readsLimits_91 ?_
                  refine z_iconst (pc := 93) E dX8_readsLimits_93 ?_
                  refine lv_iload_n (pc := 94) E.1 E.2 dX8_readsLimits_94 rfl (lv_at hl 3 rfl) ?_
                  refine z_imul (pc := 95) E dX8_readsLimits_95 ?_
                  refine z_iadd (pc := 96) E dX8_readsLimits_96 ?_
                  refine lv_iload_n (pc := 97) E.1 E.2 dX8_readsLimits_97 rfl (lv_at hl 2 rfl) ?_
                  refine z_iadd (pc := 98) E dX8_readsLimits_98 ?_
                  refine lv_iload (pc := 99) E.1 E.2 dX8_readsLimits_99 (lv_at hl 0 rfl) ?_
                  refine z_i2l (pc := 101) E ⟨by omega, by omega⟩ dX8_readsLimits_101 ?_
                  refine z_lastore (pc := 102) E hK hM.2.2.1 hS (Ax.at 2 (by decide)) ⟨by omega, by omega⟩ (by decide) dX8_readsLimits_102 (fun H locs hnew hoth hS => ?_)
                  have hM := W8.a2 hM hnew (fun a _ h => hoth a h)
                  refine lv_iinc (pc := 103) (v := iI (k + 1)) (lv' := [(2, .int (iI (k + 1))), (4, .int (iI (Nm β n (Te β n (lc β n c k.toNat))))), (3, .int (iI (Nm β n (lc β n c k.toNat)))), (1, .int (iI q)), (0, .ref (o 0))]) E.1 E.2 dX8_readsLimits_103 hl (k := 2) rfl (iI_add _ _) (by decide) rfl (fun ls hl => ?_)
                  refine lv_goto (pc := 106) (tgt := 15) E.1 E.2 dX8_readsLimits_106 (by decide) ?_
                  exact ihL15 q (k + 1) μ68 (zu (zu φL ((5 + (2 * q)) + k) (Nm β n (lc β n c k.toNat))) ((21 + (2 * q)) + k) (Nm β n (Te β n (lc β n c k.toNat)))) (by omega) (by omega) (kq_68.t (kq_24.t hkL)) (by omega) (Or.inl (And.intro (by omega) (And.intro (by rw [lc_s β n c hk.1]; exact ht68) (And.intro (by rw [lf_s β n φ c hk.1, ← hfL, ← hzL.2.2.2.2]) (And.intro (by rw [lx_s β n c hk.1]; unfold xL1; omega) hzL.2.2.2.2))))) (by omega)  _ _ hM hS ls (lv_sub hl [0, 3, 4] rfl)
                have hy68 := y_68 hs68
                have hu68 := RNum_b β n (Te β n (lc β n c k.toNat)) 0 99999
                have hw68 : ¬ μ68 12 = 0 := by omega
                rw [if_neg hs68]
                refine lv_istore (pc := 71) (lv' := [(4, .int (iI 0)), (3, .int (iI (Nm β n (lc β n c k.toNat)))), (2, .int (iI k)), (1, .int (iI q)), (0, .ref (o 0))]) E.1 E.2 dX8_readsLimits_71 hl (by decide) rfl (fun ls hl => ?_)
                refine lv_aload_n (pc := 73) E.1 E.2 dX8_readsLimits_73 rfl (lv_at hl 4 rfl) ?_
                refine g8_1 (pc := 74) E hts hin8 hown hK hM.1 (hts _ (List.mem_of_getElem? (i := 5) rfl)) dX8_readsLimits_74 ?_
                refine z_iconst (pc := 77) E dX8_readsLimits_77 ?_
                refine z_iconst (pc := 78) E dX8_readsLimits_78 ?_
                refine lv_iload_n (pc := 79) E.1 E.2 dX8_readsLimits_79 rfl (lv_at hl 3 rfl) ?_
                refine z_imul (pc := 80) E dX8_readsLimits_80 ?_
                refine z_iadd (pc := 81) E dX8_readsLimits_81 ?_
                refine lv_iload_n (pc := 82) E.1 E.2 dX8_readsLimits_82 rfl (lv_at hl 2 rfl) ?_
                refine z_iadd (pc := 83) E dX8_readsLimits_83 ?_
                refine lv_iload_n (pc := 84) E.1 E.2 dX8_readsLimits_84 rfl (lv_at hl 1 rfl) ?_
                refine z_i2l (pc := 85) E ⟨by omega, by omega⟩ dX8_readsLimits_85 ?_
                refine z_lastore (pc := 86) E hK hM.2.2.1 hS (Ax.at 2 (by decide)) ⟨by omega, by omega⟩ (by decide) dX8_readsLimits_86 (fun H locs hnew hoth hS => ?_)
                have hM := W8.a2 hM hnew (fun a _ h => hoth a h)
                refine lv_aload_n (pc := 87) E.1 E.2 dX8_readsLimits_87 rfl (lv_at hl 4 rfl) ?_
                refine g8_1 (pc := 88) E hts hin8 hown hK hM.1 (hts _ (List.mem_of_getElem? (i := 5) rfl)) dX8_readsLimits_88 ?_
                refine z_bipush (pc := 91) E (by decide) dX8_readsLimits_91 ?_
                refine z_iconst (pc := 93) E dX8_readsLimits_93 ?_
                refine lv_iload_n (pc := 94) E.1 E.2 dX8_readsLimits_94 rfl (lv_at hl 3 rfl) ?_
                refine z_imul (pc := 95) E dX8_readsLimits_95 ?_
                refine z_iadd (pc := 96) E dX8_readsLimits_96 ?_
                refine lv_iload_n (pc := 97) E.1 E.2 dX8_readsLimits_97 rfl (lv_at hl 2 rfl) ?_
                refine z_iadd (pc := 98) E dX8_readsLimits_98 ?_
                refine lv_iload (pc := 99) E.1 E.2 dX8_readsLimits_99 (lv_at hl 0 rfl) ?_
                refine z_i2l (pc := 101) E (by decide) dX8_readsLimits_101 ?_
                refine z_lastore (pc := 102) E hK hM.2.2.1 hS (Ax.at 2 (by decide)) ⟨by omega, by omega⟩ (by decide) dX8_readsLimits_102 (fun H locs hnew hoth hS => ?_)
                have hM := W8.a2 hM hnew (fun a _ h => hoth a h)
                refine lv_iinc (pc := 103) (v := iI (k + 1)) (lv' := [(2, .int (iI (k + 1))), (4, .int (iI 0)), (3, .int (iI (Nm β n (lc β n c k.toNat)))), (1, .int (iI q)), (0, .ref (o 0))]) E.1 E.2 dX8_readsLimits_103 hl (k := 2) rfl (iI_add _ _) (by decide) rfl (fun ls hl => ?_)
                refine lv_goto (pc := 106) (tgt := 15) E.1 E.2 dX8_readsLimits_106 (by decide) ?_
                exact ihL15 q (k + 1) μ68 (zu (zu φL ((5 + (2 * q)) + k) (Nm β n (lc β n c k.toNat))) ((21 + (2 * q)) + k) 0) (by omega) (by omega) (kq_68.t (kq_24.t hkL)) (by omega) (Or.inr (And.intro (by omega) (And.intro (by rw [lx_s β n c hk.1]; (try unfold xL1); omega) (And.intro (by rw [lp_s β n c hk.1]; (try unfold pL1); omega) (by omega))))) (by omega)  _ _ hM hS ls (lv_sub hl [0, 3, 4] rfl)
              · refine lv_aload_n (pc := 43) E.1 E.2 dX8_readsLimits_43 rfl (lv_at hl 3 rfl) ?_
                refine g8_11 (pc := 44) E hts hin8 hown hK hM.1 (hts _ (List.mem_of_getElem? (i := 4) rfl)) dX8_readsLimits_44 ?_
                refine z_if_le (pc := 47) (tgt := 64) E ⟨by omega, by omega⟩ dX8_readsLimits_47 (by decide) (fun h47 => ?_) (fun h47 => ?_)
                · refine lv_aload_n (pc := 64) E.1 E.2 dX8_readsLimits_64 rfl (lv_at hl 3 rfl) ?_
                  refine z_iconst (pc := 65) E dX8_readsLimits_65 ?_
                  refine lv_ldc (pc := 66) (v := iI (99999)) E.1 E.2 hown (show (Jvm.Cond.constant RX8 134 (iI (99999))).before _ ss = true from (hts _ (List.mem_of_getElem? (i := 1) rfl))) dX8_readsLimits_66 ?_
                  refine z_wVi (pc := 68) (P1 := fun H9 : Heap => ∃ (μ68 : Int → Int), W8 G o (mV o μ68) σ φL κ β ω H9 ∧ (KQ μ68 μ24) ∧ (RNum β n (Te β n (lc β n c k.toNat)) 0 99999 = 0 → μ68 12 = 0 ∧ TKw β n μ68 (Te β n (Te β n (lc β n c k.toNat)))) ∧ (¬ RNum β n (Te β n (lc β n c k.toNat)) 0 99999 = 0 → μ68 12 = RNum β n (Te β n (lc β n c k.toNat)) 0 99999 ∧ μ68 13 = Sk β n (Te β n (lc β n c k.toNat)) ∧ (0 ≤ μ68 8 ∧ μ68 8 ≤ 900) ∧ (0 ≤ μ68 10 ∧ μ68 10 ≤ 3)) ∧ (-9223372036854775808 ≤ μ68 15 ∧ μ68 15 < 9223372036854775808)) (As := [.int (iI 0), .int (iI 99999)]) (rest := []) E hml hown hts (mX8_takesZw lL G o μ24 σ φL κ β ω 0 99999 n (Te β n (lc β n c k.toNat)) hb (by omega) (by omega) (by omega) (by assumption) (by omega)) (cwV 2 hts gX8_readsLimits_X8_takes rfl rfl rfl vdX8_takes ⟨Nat.le_of_ble_eq_true rfl, Nat.le_of_ble_eq_true rfl⟩) (oB.recv hK hM.1 rfl) hM hK hS (fun _ h => h) rfl hl.1 rfl dX8_readsLimits_68 hcs (Nat.le_of_ble_eq_true rfl) (fun H locs hnew hsz hoth hS => ?_)
                  obtain ⟨μ68, hM, kq_68, x_68, y_68, rw_68⟩ := hnew
                  by_cases hs68 : RNum β n (Te β n (lc β n c k.toNat)) 0 99999 = 0
                  · have hw68 := (x_68 hs68).1
                    have ht68 := (x_68 hs68).2
                    have hq68 := RNum_0 hs68
                    rw [if_pos hs68]
                    have h7t68 := ht68.n7
                    have h9t68 := ht68.be9
                    have h8t68 := ht68.at8
                    have h10t68 := ht68.ki10
                    have hct68 := ht68.c0
                    have hst68 := ht68.skb
                    have htt68 := ht68.teb
                    have hkt68 := Kd_b β n (Te β n (Te β n (lc β n c k.toNat)))
                    have hnt68 := fun z : Kd β n (Te β n (Te β n (lc β n c k.toNat))) = 1 => ht68.nu z
                    have hnb68 : Kd β n (Te β n (Te β n (lc β n c k.toNat))) = 1 → (0 ≤ Nm β n (Te β n (Te β n (lc β n c k.toNat))) ∧ Nm β n (Te β n (Te β n (lc β n c k.toNat))) ≤ 9999999) := fun z => NmT_r (by omega) z
                    refine lv_istore (pc := 71) (lv' := [(4, .int (iI (Nm β n (Te β n (lc β n c k.toNat))))), (3, .int (iI (Nm β n (lc β n c k.toNat)))), (2, .int (iI k)), (1, .int (iI q)), (0, .ref (o 0))]) E.1 E.2 dX8_readsLimits_71 hl (by decide) rfl (fun ls hl => ?_)
                    refine lv_aload_n (pc := 73) E.1 E.2 dX8_readsLimits_73 rfl (lv_at hl 4 rfl) ?_
                    refine g8_1 (pc := 74) E hts hin8 hown hK hM.1 (hts _ (List.mem_of_getElem? (i := 5) rfl)) dX8_readsLimits_74 ?_
                    refine z_iconst (pc := 77) E dX8_readsLimits_77 ?_
                    refine z_iconst (pc := 78) E dX8_readsLimits_78 ?_
                    refine lv_iload_n (pc := 79) E.1 E.2 dX8_readsLimits_79 rfl (lv_at hl 3 rfl) ?_
                    refine z_imul (pc := 80) E dX8_readsLimits_80 ?_
                    refine z_iadd (pc := 81) E dX8_readsLimits_81 ?_
                    refine lv_iload_n (pc := 82) E.1 E.2 dX8_readsLimits_82 rfl (lv_at hl 2 rfl) ?_
                    refine z_iadd (pc := 83) E dX8_readsLimits_83 ?_
                    refine lv_iload_n (pc := 84) E.1 E.2 dX8_readsLimits_84 rfl (lv_at hl 1 rfl) ?_
                    refine z_i2l (pc := 85) E ⟨by omega, by omega⟩ dX8_readsLimits_85 ?_
                    refine z_lastore (pc := 86) E hK hM.2.2.1 hS (Ax.at 2 (by decide)) ⟨by omega, by omega⟩ (by decide) dX8_readsLimits_86 (fun H locs hnew hoth hS => ?_)
                    have hM := W8.a2 hM hnew (fun a _ h => hoth a h)
                    refine lv_aload_n (pc := 87) E.1 E.2 dX8_readsLimits_87 rfl (lv_at hl 4 rfl) ?_
                    refine g8_1 (pc := 88) E hts hin8 hown hK hM.1 (hts _ (List.mem_of_getElem? (i := 5) rfl)) dX8_readsLimits_88 ?_
                    refine z_bipush (pc := 91) E (by decide) dX8_readsLimits_91 ?_
                    refine z_iconst (pc := 93) E dX8_readsLimits_93 ?_
                    refine lv_iload_n (pc := 94) E.1 E.2 dX8_readsLimits_94 rfl (lv_at hl 3 rfl) ?_
                    refine z_imul (pc := 95) E dX8_readsLimits_95 ?_
                    refine z_iadd (pc := 96) E dX8_readsLimits_96 ?_
                    refine lv_iload_n (pc := 97) E.1 E.2 dX8_readsLimits_97 rfl (lv_at hl 2 rfl) ?_
                    refine z_iadd (pc := 98) E dX8_readsLimits_98 ?_
                    refine lv_iload (pc := 99) E.1 E.2 dX8_readsLimits_99 (lv_at hl 0 rfl) ?_
                    refine z_i2l (pc := 101) E ⟨by omega, by omega⟩ dX8_readsLimits_101 ?_
                    refine z_lastore (pc := 102) E hK hM.2.2.1 hS (Ax.at 2 (by decide)) ⟨by omega, by omega⟩ (by decide) dX8_readsLimits_102 (fun H locs hnew hoth hS => ?_)
                    have hM := W8.a2 hM hnew (fun a _ h => hoth a h)
                    refine lv_iinc (pc := 103) (v := iI (k + 1)) (lv' := [(2, .int (iI (k + 1))), (4, .int (iI (Nm β n (Te β n (lc β n c k.toNat))))), (3, .int (iI (Nm β n (lc β n c k.toNat)))), (1, .int (iI q)), (0, .ref (o 0))]) E.1 E.2 dX8_readsLimits_103 hl (k := 2) rfl (iI_add _ _) (by decide) rfl (fun ls hl => ?_)
                    refine lv_goto (pc := 106) (tgt := 15) E.1 E.2 dX8_readsLimits_106 (by decide) ?_
                    exact ihL15 q (k + 1) μ68 (zu (zu φL ((5 + (2 * q)) + k) (Nm β n (lc β n c k.toNat))) ((21 + (2 * q)) + k) (Nm β n (Te β n (lc β n c k.toNat)))) (by omega) (by omega) (kq_68.t (kq_24.t hkL)) (by omega) (Or.inl (And.intro (by omega) (And.intro (by rw [lc_s β n c hk.1]; exact ht68) (And.intro (by rw [lf_s β n φ c hk.1, ← hfL, ← hzL.2.2.2.2]) (And.intro (by rw [lx_s β n c hk.1]; unfold xL1; omega) hzL.2.2.2.2))))) (by omega)  _ _ hM hS ls (lv_sub hl [0, 3, 4] rfl)
                  have hy68 := y_68 hs68
                  have hu68 := RNum_b β n (Te β n (lc β n c k.toNat)) 0 99999
                  have hw68 : ¬ μ68 12 = 0 := by omega
                  rw [if_neg hs68]
                  refine lv_istore (pc := 71) (lv' := [(4, .int (iI 0)), (3, .int (iI (Nm β n (lc β n c k.toNat)))), (2, .int (iI k)), (1, .int (iI q)), (0, .ref (o 0))]) E.1 E.2 dX8_readsLimits_71 hl (by decide) rfl (fun ls hl => ?_)
                  refine lv_aload_n (pc := 73) E.1 E.2 dX8_readsLimits_73 rfl (lv_at hl 4 rfl) ?_
                  refine g8_1 (pc := 74) E hts hin8 hown hK hM.1 (hts _ (List.mem_of_getElem? (i := 5) rfl)) dX8_readsLimits_74 ?_
                  refine z_iconst (pc := 77) E dX8_readsLimits_77 ?_
                  refine z_iconst (pc := 78) E dX8_readsLimits_78 ?_
                  refine lv_iload_n (pc := 79) E.1 E.2 dX8_readsLimits_79 rfl (lv_at hl 3 rfl) ?_
                  refine z_imul (pc := 80) E dX8_readsLimits_80 ?_
                  refine z_iadd (pc := 81) E dX8_readsLimits_81 ?_
                  refine lv_iload_n (pc := 82) E.1 E.2 dX8_readsLimits_82 rfl (lv_at hl 2 rfl) ?_
                  refine z_iadd (pc := 83) E dX8_readsLimits_83 ?_
                  refine lv_iload_n (pc := 84) E.1 E.2 dX8_readsLimits_84 rfl (lv_at hl 1 rfl) ?_
                  refine z_i2l (pc := 85) E ⟨by omega, by omega⟩ dX8_readsLimits_85 ?_
                  refine z_lastore (pc := 86) E hK hM.2.2.1 hS (Ax.at 2 (by decide)) ⟨by omega, by omega⟩ (by decide) dX8_readsLimits_86 (fun H locs hnew hoth hS => ?_)
                  have hM := W8.a2 hM hnew (fun a _ h => hoth a h)
                  refine lv_aload_n (pc := 87) E.1 E.2 dX8_readsLimits_87 rfl (lv_at hl 4 rfl) ?_
                  refine g8_1 (pc := 88) E hts hin8 hown hK hM.1 (hts _ (List.mem_of_getElem? (i := 5) rfl)) dX8_readsLimits_88 ?_
                  refine z_bipush (pc := 91) E (by decide) dX8_readsLimits_91 ?_
                  refine z_iconst (pc := 93) E dX8_readsLimits_93 ?_
                  refine lv_iload_n (pc := 94) E.1 E.2 dX8_readsLimits_94 rfl (lv_at hl 3 rfl) ?_
                  refine z_imul (pc := 95) E dX8_readsLimits_95 ?_
                  refine z_iadd (pc := 96) E dX8_readsLimits_96 ?_
                  refine lv_iload_n (pc := 97) E.1 E.2 dX8_readsLimits_97 rfl (lv_at hl 2 rfl) ?_
                  refine z_iadd (pc := 98) E dX8_readsLimits_98 ?_
                  refine lv_iload (pc := 99) E.1 E.2 dX8_readsLimits_99 (lv_at hl 0 rfl) ?_
                  refine z_i2l (pc := 101) E (by decide) dX8_readsLimits_101 ?_
                  refine z_lastore (pc := 102) E hK hM.2.2.1 hS (Ax.at 2 (by decide)) ⟨by omega, by omega⟩ (by decide) dX8_readsLimits_102 (fun H locs hnew hoth hS => ?_)
                  have hM := W8.a2 hM hnew (fun a _ h => hoth a h)
                  refine lv_iinc (pc := 103) (v := iI (k + 1)) (lv' := [(2, .int (iI (k + 1))), (4, .int (iI 0)), (3, .int (iI (Nm β n (lc β n c k.toNat)))), (1, .int (iI q)), (0, .ref (o 0))]) E.1 E.2 dX8_readsLimits_103 hl (k := 2) rfl (iI_add _ _) (by decide) rfl (fun ls hl => ?_)
                  refine lv_goto (pc := 106) (tgt := 15) E.1 E.2 dX8_readsLimits_106 (by decide) ?_
                  exact ihL15 q (k + 1) μ68 (zu (zu φL ((5 + (2 * q)) + k) (Nm β n (lc β n c k.toNat))) ((21 + (2 * q)) + k) 0) (by omega) (by omega) (kq_68.t (kq_24.t hkL)) (by omega) (Or.inr (And.intro (by omega) (And.intro (by rw [lx_s β n c hk.1]; (try unfold xL1); omega) (And.intro (by rw [lp_s β n c hk.1]; (try unfold pL1); omega) (by omega))))) (by omega)  _ _ hM hS ls (lv_sub hl [0, 3, 4] rfl)
                · refine lv_aload_n (pc := 50) E.1 E.2 dX8_readsLimits_50 rfl (lv_at hl 3 rfl) ?_
                  refine g8_11 (pc := 51) E hts hin8 hown hK hM.1 (hts _ (List.mem_of_getElem? (i := 4) rfl)) dX8_readsLimits_51 ?_
                  refine lv_iload_n (pc := 54) E.1 E.2 dX8_readsLimits_54 rfl (lv_at hl 0 rfl) ?_
                  refine z_icmp_ge (pc := 55) (tgt := 64) E ⟨by omega, by omega⟩ ⟨by omega, by omega⟩ dX8_readsLimits_55 (by decide) (fun h55 => ?_) (fun h55 => ?_)
                  · refine lv_aload_n (pc := 64) E.1 E.2 dX8_readsLimits_64 rfl (lv_at hl 3 rfl) ?_
                    refine z_iconst (pc := 65) E dX8_readsLimits_65 ?_
                    refine lv_ldc (pc := 66) (v := iI (99999)) E.1 E.2 hown (show (Jvm.Cond.constant RX8 134 (iI (99999))).before _ ss = true from (hts _ (List.mem_of_getElem? (i := 1) rfl))) dX8_readsLimits_66 ?_
                    refine z_wVi (pc := 68) (P1 := fun H9 : Heap => ∃ (μ68 : Int → Int), W8 G o (mV o μ68) σ φL κ β ω H9 ∧ (KQ μ68 μ24) ∧ (RNum β n (Te β n (lc β n c k.toNat)) 0 99999 = 0 → μ68 12 = 0 ∧ TKw β n μ68 (Te β n (Te β n (lc β n c k.toNat)))) ∧ (¬ RNum β n (Te β n (lc β n c k.toNat)) 0 99999 = 0 → μ68 12 = RNum β n (Te β n (lc β n c k.toNat)) 0 99999 ∧ μ68 13 = Sk β n (Te β n (lc β n c k.toNat)) ∧ (0 ≤ μ68 8 ∧ μ68 8 ≤ 900) ∧ (0 ≤ μ68 10 ∧ μ68 10 ≤ 3)) ∧ (-9223372036854775808 ≤ μ68 15 ∧ μ68 15 < 9223372036854775808)) (As := [.int (iI 0), .int (iI 99999)]) (rest := []) E hml hown hts (mX8_takesZw lL G o μ24 σ φL κ β ω 0 99999 n (Te β n (lc β n c k.toNat)) hb (by omega) (by omega) (by omega) (by assumption) (by omega)) (cwV 2 hts gX8_readsLimits_X8_takes rfl rfl rfl vdX8_takes ⟨Nat.le_of_ble_eq_true rfl, Nat.le_of_ble_eq_true rfl⟩) (oB.recv hK hM.1 rfl) hM hK hS (fun _ h => h) rfl hl.1 rfl dX8_readsLimits_68 hcs (Nat.le_of_ble_eq_true rfl) (fun H locs hnew hsz hoth hS => ?_)
                    obtain ⟨μ68, hM, kq_68, x_68, y_68, rw_68⟩ := hnew
                    by_cases hs68 : RNum β n (Te β n (lc β n c k.toNat)) 0 99999 = 0
                    · have hw68 := (x_68 hs68).1
                      have ht68 := (x_68 hs68).2
                      have hq68 := RNum_0 hs68
                      rw [if_pos hs68]
                      have h7t68 := ht68.n7
                      have h9t68 := ht68.be9
                      have h8t68 := ht68.at8
                      have h10t68 := ht68.ki10
                      have hct68 := ht68.c0
                      have hst68 := ht68.skb
                      have htt68 := ht68.teb
                      have hkt68 := Kd_b β n (Te β n (Te β n (lc β n c k.toNat)))
                      have hnt68 := fun z : Kd β n (Te β n (Te β n (lc β n c k.toNat))) = 1 => ht68.nu z
                      have hnb68 : Kd β n (Te β n (Te β n (lc β n c k.toNat))) = 1 → (0 ≤ Nm β n (Te β n (Te β n (lc β n c k.toNat))) ∧ Nm β n (Te β n (Te β n (lc β n c k.toNat))) ≤ 9999999) := fun z => NmT_r (by omega) z
                      refine lv_istore (pc := 71) (lv' := [(4, .int (iI (Nm β n (Te β n (lc β n c k.toNat))))), (3, .int (iI (Nm β n (lc β n c k.toNat)))), (2, .int (iI k)), (1, .int (iI q)), (0, .ref (o 0))]) E.1 E.2 dX8_readsLimits_71 hl (by decide) rfl (fun ls hl => ?_)
                      refine lv_aload_n (pc := 73) E.1 E.2 dX8_readsLimits_73 rfl (lv_at hl 4 rfl) ?_
                      refine g8_1 (pc := 74) E hts hin8 hown hK hM.1 (hts _ (List.mem_of_getElem? (i := 5) rfl)) dX8_readsLimits_74 ?_
                      refine z_iconst (pc := 77) E dX8_readsLimits_77 ?_
                      refine z_iconst (pc := 78) E dX8_readsLimits_78 ?_
                      refine lv_iload_n (pc := 79) E.1 E.2 dX8_readsLimits_79 rfl (lv_at hl 3 rfl) ?_
                      refine z_imul (pc := 80) E dX8_readsLimits_80 ?_
                      refine z_iadd (pc := 81) E dX8_readsLimits_81 ?_
                      refine lv_iload_n (pc := 82) E.1 E.2 dX8_readsLimits_82 rfl (lv_at hl 2 rfl) ?_
                      refine z_iadd (pc := 83) E dX8_readsLimits_83 ?_
                      refine lv_iload_n (pc := 84) E.1 E.2 dX8_readsLimits_84 rfl (lv_at hl 1 rfl) ?_
                      refine z_i2l (pc := 85) E ⟨by omega, by omega⟩ dX8_readsLimits_85 ?_
                      refine z_lastore (pc := 86) E hK hM.2.2.1 hS (Ax.at 2 (by decide)) ⟨by omega, by omega⟩ (by decide) dX8_readsLimits_86 (fun H locs hnew hoth hS => ?_)
                      have hM := W8.a2 hM hnew (fun a _ h => hoth a h)
                      refine lv_aload_n (pc := 87) E.1 E.2 dX8_readsLimits_87 rfl (lv_at hl 4 rfl) ?_
                      refine g8_1 (pc := 88) E hts hin8 hown hK hM.1 (hts _ (List.mem_of_getElem? (i := 5) rfl)) dX8_readsLimits_88 ?_
                      refine z_bipush (pc := 91) E (by decide) dX8_readsLimits_91 ?_
                      refine z_iconst (pc := 93) E dX8_readsLimits_93 ?_
                      refine lv_iload_n (pc := 94) E.1 E.2 dX8_readsLimits_94 rfl (lv_at hl 3 rfl) ?_
                      refine z_imul (pc := 95) E dX8_readsLimits_95 ?_
                      refine z_iadd (pc := 96) E dX8_readsLimits_96 ?_
                      refine lv_iload_n (pc := 97) E.1 E.2 dX8_readsLimits_97 rfl (lv_at hl 2 rfl) ?_
                      refine z_iadd (pc := 98) E dX8_readsLimits_98 ?_
                      refine lv_iload (pc := 99) E.1 E.2 dX8_readsLimits_99 (lv_at hl 0 rfl) ?_
                      refine z_i2l (pc := 101) E ⟨by omega, by omega⟩ dX8_readsLimits_101 ?_
                      refine z_lastore (pc := 102) E hK hM.2.2.1 hS (Ax.at 2 (by decide)) ⟨by omega, by omega⟩ (by decide) dX8_readsLimits_102 (fun H locs hnew hoth hS => ?_)
                      have hM := W8.a2 hM hnew (fun a _ h => hoth a h)
                      refine lv_iinc (pc := 103) (v := iI (k + 1)) (lv' := [(2, .int (iI (k + 1))), (4, .int (iI (Nm β n (Te β n (lc β n c k.toNat))))), (3, .int (iI (Nm β n (lc β n c k.toNat)))), (1, .int (iI q)), (0, .ref (o 0))]) E.1 E.2 dX8_readsLimits_103 hl (k := 2) rfl (iI_add _ _) (by decide) rfl (fun ls hl => ?_)
                      refine lv_goto (pc := 106) (tgt := 15) E.1 E.2 dX8_readsLimits_106 (by decide) ?_
                      exact ihL15 q (k + 1) μ68 (zu (zu φL ((5 + (2 * q)) + k) (Nm β n (lc β n c k.toNat))) ((21 + (2 * q)) + k) (Nm β n (Te β n (lc β n c k.toNat)))) (by omega) (by omega) (kq_68.t (kq_24.t hkL)) (by omega) (Or.inl (And.intro (by omega) (And.intro (by rw [lc_s β n c hk.1]; exact ht68) (And.intro (by rw [lf_s β n φ c hk.1, ← hfL, ← hzL.2.2.2.2]) (And.intro (by rw [lx_s β n c hk.1]; unfold xL1; omega) hzL.2.2.2.2))))) (by omega)  _ _ hM hS ls (lv_sub hl [0, 3, 4] rfl)
                    have hy68 := y_68 hs68
                    have hu68 := RNum_b β n (Te β n (lc β n c k.toNat)) 0 99999
                    have hw68 : ¬ μ68 12 = 0 := by omega
                    rw [if_neg hs68]
                    refine lv_istore (pc := 71) (lv' := [(4, .int (iI 0)), (3, .int (iI (Nm β n (lc β n c k.toNat)))), (2, .int (iI k)), (1, .int (iI q)), (0, .ref (o 0))]) E.1 E.2 dX8_readsLimits_71 hl (by decide) rfl (fun ls hl => ?_)
                    refine lv_aload_n (pc := 73) E.1 E.2 dX8_readsLimits_73 rfl (lv_at hl 4 rfl) ?_
                    refine g8_1 (pc := 74) E hts hin8 hown hK hM.1 (hts _ (List.mem_of_getElem? (i := 5) rfl)) dX8_readsLimits_74 ?_
                    refine z_iconst (pc := 77) E dX8_readsLimits_77 ?_
                    refine z_iconst (pc := 78) E dX8_readsLimits_78 ?_
                    refine lv_iload_n (pc := 79) E.1 E.2 dX8_readsLimits_79 rfl (lv_at hl 3 rfl) ?_
                    refine z_imul (pc := 80) E dX8_readsLimits_80 ?_
                    refine z_iadd (pc := 81) E dX8_readsLimits_81 ?_
                    refine lv_iload_n (pc := 82) E.1 E.2 dX8_readsLimits_82 rfl (lv_at hl 2 rfl) ?_
                    refine z_iadd (pc := 83) E dX8_readsLimits_83 ?_
                    refine lv_iload_n (pc := 84) E.1 E.2 dX8_readsLimits_84 rfl (lv_at hl 1 rfl) ?_
                    refine z_i2l (pc := 85) E ⟨by omega, by omega⟩ dX8_readsLimits_85 ?_
                    refine z_lastore (pc := 86) E hK hM.2.2.1 hS (Ax.at 2 (by decide)) ⟨by omega, by omega⟩ (by decide) dX8_readsLimits_86 (fun H locs hnew hoth hS => ?_)
                    have hM := W8.a2 hM hnew (fun a _ h => hoth a h)
                    refine lv_aload_n (pc := 87) E.1 E.2 dX8_readsLimits_87 rfl (lv_at hl 4 rfl) ?_
                    refine g8_1 (pc := 88) E hts hin8 hown hK hM.1 (hts _ (List.mem_of_getElem? (i := 5) rfl)) dX8_readsLimits_88 ?_
                    refine z_bipush (pc := 91) E (by decide) dX8_readsLimits_91 ?_
                    refine z_iconst (pc := 93) E dX8_readsLimits_93 ?_
                    refine lv_iload_n (pc := 94) E.1 E.2 dX8_readsLimits_94 rfl (lv_at hl 3 rfl) ?_
                    refine z_imul (pc := 95) E dX8_readsLimits_95 ?_
                    refine z_iadd (pc := 96) E dX8_readsLimits_96 ?_
                    refine lv_iload_n (pc := 97) E.1 E.2 dX8_readsLimits_97 rfl (lv_at hl 2 rfl) ?_
                    refine z_iadd (pc := 98) E dX8_readsLimits_98 ?_
                    refine lv_iload (pc := 99) E.1 E.2 dX8_readsLimits_99 (lv_at hl 0 rfl) ?_
                    refine z_i2l (pc := 101) E (by decide) dX8_readsLimits_101 ?_
                    refine z_lastore (pc := 102) E hK hM.2.2.1 hS (Ax.at 2 (by decide)) ⟨by omega, by omega⟩ (by decide) dX8_readsLimits_102 (fun H locs hnew hoth hS => ?_)
                    have hM := W8.a2 hM hnew (fun a _ h => hoth a h)
                    refine lv_iinc (pc := 103) (v := iI (k + 1)) (lv' := [(2, .int (iI (k + 1))), (4, .int (iI 0)), (3, .int (iI (Nm β n (lc β n c k.toNat)))), (1, .int (iI q)), (0, .ref (o 0))]) E.1 E.2 dX8_readsLimits_103 hl (k := 2) rfl (iI_add _ _) (by decide) rfl (fun ls hl => ?_)
                    refine lv_goto (pc := 106) (tgt := 15) E.1 E.2 dX8_readsLimits_106 (by decide) ?_
                    exact ihL15 q (k + 1) μ68 (zu (zu φL ((5 + (2 * q)) + k) (Nm β n (lc β n c k.toNat))) ((21 + (2 * q)) + k) 0) (by omega) (by omega) (kq_68.t (kq_24.t hkL)) (by omega) (Or.inr (And.intro (by omega) (And.intro (by rw [lx_s β n c hk.1]; (try unfold xL1); omega) (And.intro (by rw [lp_s β n c hk.1]; (try unfold pL1); omega) (by omega))))) (by omega)  _ _ hM hS ls (lv_sub hl [0, 3, 4] rfl)
                  · refine lv_aload_n (pc := 58) E.1 E.2 dX8_readsLimits_58 rfl (lv_at hl 3 rfl) ?_
                    refine z_bipush (pc := 59) E (by decide) dX8_readsLimits_59 ?_
                    refine z_wVv (pc := 61) (P1 := fun H9 : Heap => ∃ (μ61 : Int → Int), W8 G o (mV o μ61) σ φL κ β ω H9 ∧ (KQ μ61 μ24) ∧ (μ61 12 = (-3)) ∧ (μ61 13 = μ24 8) ∧ (μ61 15 = μ24 15) ∧ (μ61 8 = μ24 8) ∧ (μ61 10 = μ24 10)) (As := [.int (iI (-3))]) (rest := []) E hml hown hts (mX8_failsZ lL G o μ24 σ φL κ β ω (-3) (by decide) (by omega)) (cwV 1 hts gX8_readsLimits_X8_fails rfl rfl rfl vdX8_fails ⟨Nat.le_of_ble_eq_true rfl, Nat.le_of_ble_eq_true rfl⟩) (oB.recv hK hM.1 rfl) hM hK hS (fun _ h => h) rfl hl.1 rfl dX8_readsLimits_61 hcs (Nat.le_of_ble_eq_true rfl) (fun H locs hnew hsz hoth hS => ?_)
                    obtain ⟨μ61, hM, kq_61, e2_61, e3_61, e5_61, e8_61, e10_61⟩ := hnew
                    have hw61 : ¬ μ61 12 = 0 := by omega
                    refine lv_aload_n (pc := 64) E.1 E.2 dX8_readsLimits_64 rfl (lv_at hl 3 rfl) ?_
                    refine z_iconst (pc := 65) E dX8_readsLimits_65 ?_
                    refine lv_ldc (pc := 66) (v := iI (99999)) E.1 E.2 hown (show (Jvm.Cond.constant RX8 134 (iI (99999))).before _ ss = true from (hts _ (List.mem_of_getElem? (i := 1) rfl))) dX8_readsLimits_66 ?_
                    refine z_rVi (pc := 68) (As := [.int (iI 0), .int (iI 99999)]) (rest := []) E hml hown hts (mX8_takesN lL G o μ61 σ φL κ β ω 0 99999 (by omega) (by omega)) (cwV 2 hts gX8_readsLimits_X8_takes rfl rfl rfl vdX8_takes ⟨Nat.le_of_ble_eq_true rfl, Nat.le_of_ble_eq_true rfl⟩) (oB.recv hK hM.1 rfl) hM hK rfl hl.1 rfl dX8_readsLimits_68 hcs (Nat.le_of_ble_eq_true rfl) ?_
                    refine lv_istore (pc := 71) (lv' := [(4, .int (iI 0)), (3, .int (iI (Nm β n (lc β n c k.toNat)))), (2, .int (iI k)), (1, .int (iI q)), (0, .ref (o 0))]) E.1 E.2 dX8_readsLimits_71 hl (by decide) rfl (fun ls hl => ?_)
                    refine lv_aload_n (pc := 73) E.1 E.2 dX8_readsLimits_73 rfl (lv_at hl 4 rfl) ?_
                    refine g8_1 (pc := 74) E hts hin8 hown hK hM.1 (hts _ (List.mem_of_getElem? (i := 5) rfl)) dX8_readsLimits_74 ?_
                    refine z_iconst (pc := 77) E dX8_readsLimits_77 ?_
                    refine z_iconst (pc := 78) E dX8_readsLimits_78 ?_
                    refine lv_iload_n (pc := 79) E.1 E.2 dX8_readsLimits_79 rfl (lv_at hl 3 rfl) ?_
                    refine z_imul (pc := 80) E dX8_readsLimits_80 ?_
                    refine z_iadd (pc := 81) E dX8_readsLimits_81 ?_
                    refine lv_iload_n (pc := 82) E.1 E.2 dX8_readsLimits_82 rfl (lv_at hl 2 rfl) ?_
                    refine z_iadd (pc := 83) E dX8_readsLimits_83 ?_
                    refine lv_iload_n (pc := 84) E.1 E.2 dX8_readsLimits_84 rfl (lv_at hl 1 rfl) ?_
                    refine z_i2l (pc := 85) E ⟨by omega, by omega⟩ dX8_readsLimits_85 ?_
                    refine z_lastore (pc := 86) E hK hM.2.2.1 hS (Ax.at 2 (by decide)) ⟨by omega, by omega⟩ (by decide) dX8_readsLimits_86 (fun H locs hnew hoth hS => ?_)
                    have hM := W8.a2 hM hnew (fun a _ h => hoth a h)
                    refine lv_aload_n (pc := 87) E.1 E.2 dX8_readsLimits_87 rfl (lv_at hl 4 rfl) ?_
                    refine g8_1 (pc := 88) E hts hin8 hown hK hM.1 (hts _ (List.mem_of_getElem? (i := 5) rfl)) dX8_readsLimits_88 ?_
                    refine z_bipush (pc := 91) E (by decide) dX8_readsLimits_91 ?_
                    refine z_iconst (pc := 93) E dX8_readsLimits_93 ?_
                    refine lv_iload_n (pc := 94) E.1 E.2 dX8_readsLimits_94 rfl (lv_at hl 3 rfl) ?_
                    refine z_imul (pc := 95) E dX8_readsLimits_95 ?_
                    refine z_iadd (pc := 96) E dX8_readsLimits_96 ?_
                    refine lv_iload_n (pc := 97) E.1 E.2 dX8_readsLimits_97 rfl (lv_at hl 2 rfl) ?_
                    refine z_iadd (pc := 98) E dX8_readsLimits_98 ?_
                    refine lv_iload (pc := 99) E.1 E.2 dX8_readsLimits_99 (lv_at hl 0 rfl) ?_
                    refine z_i2l (pc := 101) E (by decide) dX8_readsLimits_101 ?_
                    refine z_lastore (pc := 102) E hK hM.2.2.1 hS (Ax.at 2 (by decide)) ⟨by omega, by omega⟩ (by decide) dX8_readsLimits_102 (fun H locs hnew hoth hS => ?_)
                    have hM := W8.a2 hM hnew (fun a _ h => hoth a h)
                    refine lv_iinc (pc := 103) (v := iI (k + 1)) (lv' := [(2, .int (iI (k + 1))), (4, .int (iI 0)), (3, .int (iI (Nm β n (lc β n c k.toNat)))), (1, .int (iI q)), (0, .ref (o 0))]) E.1 E.2 dX8_readsLimits_103 hl (k := 2) rfl (iI_add _ _) (by decide) rfl (fun ls hl => ?_)
                    refine lv_goto (pc := 106) (tgt := 15) E.1 E.2 dX8_readsLimits_106 (by decide) ?_
                    exact ihL15 q (k + 1) μ61 (zu (zu φL ((5 + (2 * q)) + k) (Nm β n (lc β n c k.toNat))) ((21 + (2 * q)) + k) 0) (by omega) (by omega) (kq_61.t (kq_24.t hkL)) (by omega) (Or.inr (And.intro (by omega) (And.intro (by rw [lx_s β n c hk.1]; (try unfold xL1); omega) (And.intro (by rw [lp_s β n c hk.1]; (try unfold pL1); omega) (by omega))))) (by omega)  _ _ hM hS ls (lv_sub hl [0, 3, 4] rfl)
          have hy24 := y_24 hs24
          have hu24 := RNum_b β n (lc β n c k.toNat) 0 99999
          have hw24 : ¬ μ24 12 = 0 := by omega
          rw [if_neg hs24]
          refine lv_istore_n (pc := 27) (lv' := [(3, .int (iI 0)), (2, .int (iI k)), (1, .int (iI q)), (0, .ref (o 0))]) E.1 E.2 dX8_readsLimits_27 rfl hl (by decide) rfl (fun ls hl => ?_)
          refine lv_aload_n (pc := 28) E.1 E.2 dX8_readsLimits_28 rfl (lv_at hl 3 rfl) ?_
          refine g8_12 (pc := 29) E hts hin8 hown hK hM.1 (hts _ (List.mem_of_getElem? (i := 2) rfl)) dX8_readsLimits_29 ?_
          refine z_if_ne (pc := 32) (tgt := 64) E ⟨by omega, by omega⟩ dX8_readsLimits_32 (by decide) (fun h32 => ?_) (fun h32 => ?_)
          · refine lv_aload_n (pc := 64) E.1 E.2 dX8_readsLimits_64 rfl (lv_at hl 3 rfl) ?_
            refine z_iconst (pc := 65) E dX8_readsLimits_65 ?_
            refine lv_ldc (pc := 66) (v := iI (99999)) E.1 E.2 hown (show (Jvm.Cond.constant RX8 134 (iI (99999))).before _ ss = true from (hts _ (List.mem_of_getElem? (i := 1) rfl))) dX8_readsLimits_66 ?_
            refine z_rVi (pc := 68) (As := [.int (iI 0), .int (iI 99999)]) (rest := []) E hml hown hts (mX8_takesN lL G o μ24 σ φL κ β ω 0 99999 (by omega) (by omega)) (cwV 2 hts gX8_readsLimits_X8_takes rfl rfl rfl vdX8_takes ⟨Nat.le_of_ble_eq_true rfl, Nat.le_of_ble_eq_true rfl⟩) (oB.recv hK hM.1 rfl) hM hK rfl hl.1 rfl dX8_readsLimits_68 hcs (Nat.le_of_ble_eq_true rfl) ?_
            refine lv_istore (pc := 71) (lv' := [(4, .int (iI 0)), (3, .int (iI 0)), (2, .int (iI k)), (1, .int (iI q)), (0, .ref (o 0))]) E.1 E.2 dX8_readsLimits_71 hl (by decide) rfl (fun ls hl => ?_)
            refine lv_aload_n (pc := 73) E.1 E.2 dX8_readsLimits_73 rfl (lv_at hl 4 rfl) ?_
            refine g8_1 (pc := 74) E hts hin8 hown hK hM.1 (hts _ (List.mem_of_getElem? (i := 5) rfl)) dX8_readsLimits_74 ?_
            refine z_iconst (pc := 77) E dX8_readsLimits_77 ?_
            refine z_iconst (pc := 78) E dX8_readsLimits_78 ?_
            refine lv_iload_n (pc := 79) E.1 E.2 dX8_readsLimits_79 rfl (lv_at hl 3 rfl) ?_
            refine z_imul (pc := 80) E dX8_readsLimits_80 ?_
            refine z_iadd (pc := 81) E dX8_readsLimits_81 ?_
            refine lv_iload_n (pc := 82) E.1 E.2 dX8_readsLimits_82 rfl (lv_at hl 2 rfl) ?_
            refine z_iadd (pc := 83) E dX8_readsLimits_83 ?_
            refine lv_iload_n (pc := 84) E.1 E.2 dX8_readsLimits_84 rfl (lv_at hl 1 rfl) ?_
            refine z_i2l (pc := 85) E (by decide) dX8_readsLimits_85 ?_
            refine z_lastore (pc := 86) E hK hM.2.2.1 hS (Ax.at 2 (by decide)) ⟨by omega, by omega⟩ (by decide) dX8_readsLimits_86 (fun H locs hnew hoth hS => ?_)
            have hM := W8.a2 hM hnew (fun a _ h => hoth a h)
            refine lv_aload_n (pc := 87) E.1 E.2 dX8_readsLimits_87 rfl (lv_at hl 4 rfl) ?_
            refine g8_1 (pc := 88) E hts hin8 hown hK hM.1 (hts _ (List.mem_of_getElem? (i := 5) rfl)) dX8_readsLimits_88 ?_
            refine z_bipush (pc := 91) E (by decide) dX8_readsLimits_91 ?_
            refine z_iconst (pc := 93) E dX8_readsLimits_93 ?_
            refine lv_iload_n (pc := 94) E.1 E.2 dX8_readsLimits_94 rfl (lv_at hl 3 rfl) ?_
            refine z_imul (pc := 95) E dX8_readsLimits_95 ?_
            refine z_iadd (pc := 96) E dX8_readsLimits_96 ?_
            refine lv_iload_n (pc := 97) E.1 E.2 dX8_readsLimits_97 rfl (lv_at hl 2 rfl) ?_
            refine z_iadd (pc := 98) E dX8_readsLimits_98 ?_
            refine lv_iload (pc := 99) E.1 E.2 dX8_readsLimits_99 (lv_at hl 0 rfl) ?_
            refine z_i2l (pc := 101) E (by decide) dX8_readsLimits_101 ?_
            refine z_lastore (pc := 102) E hK hM.2.2.1 hS (Ax.at 2 (by decide)) ⟨by omega, by omega⟩ (by decide) dX8_readsLimits_102 (fun H locs hnew hoth hS => ?_)
            have hM := W8.a2 hM hnew (fun a _ h => hoth a h)
            refine lv_iinc (pc := 103) (v := iI (k + 1)) (lv' := [(2, .int (iI (k + 1))), (4, .int (iI 0)), (3, .int (iI 0)), (1, .int (iI q)), (0, .ref (o 0))]) E.1 E.2 dX8_readsLimits_103 hl (k := 2) rfl (iI_add _ _) (by decide) rfl (fun ls hl => ?_)
            refine lv_goto (pc := 106) (tgt := 15) E.1 E.2 dX8_readsLimits_106 (by decide) ?_
            exact ihL15 q (k + 1) μ24 (zu (zu φL ((5 + (2 * q)) + k) 0) ((21 + (2 * q)) + k) 0) (by omega) (by omega) (kq_24.t hkL) (by omega) (Or.inr (And.intro (by omega) (And.intro (by rw [lx_s β n c hk.1]; (try unfold xL1); omega) (And.intro (by rw [lp_s β n c hk.1]; (try unfold pL1); omega) (by omega))))) (by omega)  _ _ hM hS ls (lv_sub hl [0, 3, 4] rfl)
          · exact absurd h32 (by first | exact hw24 | exact fun q => hw24 q | omega)
        have hzL := hz.resolve_left (fun z => hzz z.1)
        have hlb := lx_b β n c k.toNat
        refine z_iconst (pc := 21) E dX8_readsLimits_21 ?_
        refine lv_ldc (pc := 22) (v := iI (99999)) E.1 E.2 hown (show (Jvm.Cond.constant RX8 134 (iI (99999))).before _ ss = true from (hts _ (List.mem_of_getElem? (i := 1) rfl))) dX8_readsLimits_22 ?_
        refine z_rVi (pc := 24) (As := [.int (iI 0), .int (iI 99999)]) (rest := []) E hml hown hts (mX8_takesN lL G o μL σ φL κ β ω 0 99999 (by omega) (by omega)) (cwV 2 hts gX8_readsLimits_X8_takes rfl rfl rfl vdX8_takes ⟨Nat.le_of_ble_eq_true rfl, Nat.le_of_ble_eq_true rfl⟩) (oB.recv hK hM.1 rfl) hM hK rfl hl.1 rfl dX8_readsLimits_24 hcs (Nat.le_of_ble_eq_true rfl) ?_
        refine lv_istore_n (pc := 27) (lv' := [(3, .int (iI 0)), (2, .int (iI k)), (1, .int (iI q)), (0, .ref (o 0))]) E.1 E.2 dX8_readsLimits_27 rfl hl (by decide) rfl (fun ls hl => ?_)
        refine lv_aload_n (pc := 28) E.1 E.2 dX8_readsLimits_28 rfl (lv_at hl 3 rfl) ?_
        refine g8_12 (pc := 29) E hts hin8 hown hK hM.1 (hts _ (List.mem_of_getElem? (i := 2) rfl)) dX8_readsLimits_29 ?_
        refine z_if_ne (pc := 32) (tgt := 64) E ⟨by omega, by omega⟩ dX8_readsLimits_32 (by decide) (fun h32 => ?_) (fun h32 => ?_)
        · refine lv_aload_n (pc := 64) E.1 E.2 dX8_readsLimits_64 rfl (lv_at hl 3 rfl) ?_
          refine z_iconst (pc := 65) E dX8_readsLimits_65 ?_
          refine lv_ldc (pc := 66) (v := iI (99999)) E.1 E.2 hown (show (Jvm.Cond.constant RX8 134 (iI (99999))).before _ ss = true from (hts _ (List.mem_of_getElem? (i := 1) rfl))) dX8_readsLimits_66 ?_
          refine z_rVi (pc := 68) (As := [.int (iI 0), .int (iI 99999)]) (rest := []) E hml hown hts (mX8_takesN lL G o μL σ φL κ β ω 0 99999 (by omega) (by omega)) (cwV 2 hts gX8_readsLimits_X8_takes rfl rfl rfl vdX8_takes ⟨Nat.le_of_ble_eq_true rfl, Nat.le_of_ble_eq_true rfl⟩) (oB.recv hK hM.1 rfl) hM hK rfl hl.1 rfl dX8_readsLimits_68 hcs (Nat.le_of_ble_eq_true rfl) ?_
          refine lv_istore (pc := 71) (lv' := [(4, .int (iI 0)), (3, .int (iI 0)), (2, .int (iI k)), (1, .int (iI q)), (0, .ref (o 0))]) E.1 E.2 dX8_readsLimits_71 hl (by decide) rfl (fun ls hl => ?_)
          refine lv_aload_n (pc := 73) E.1 E.2 dX8_readsLimits_73 rfl (lv_at hl 4 rfl) ?_
          refine g8_1 (pc := 74) E hts hin8 hown hK hM.1 (hts _ (List.mem_of_getElem? (i := 5) rfl)) dX8_readsLimits_74 ?_
          refine z_iconst (pc := 77) E dX8_readsLimits_77 ?_
          refine z_iconst (pc := 78) E dX8_readsLimits_78 ?_
          refine lv_iload_n (pc := 79) E.1 E.2 dX8_readsLimits_79 rfl (lv_at hl 3 rfl) ?_
          refine z_imul (pc := 80) E dX8_readsLimits_80 ?_
          refine z_iadd (pc := 81) E dX8_readsLimits_81 ?_
          refine lv_iload_n (pc := 82) E.1 E.2 dX8_readsLimits_82 rfl (lv_at hl 2 rfl) ?_
          refine z_iadd (pc := 83) E dX8_readsLimits_83 ?_
          refine lv_iload_n (pc := 84) E.1 E.2 dX8_readsLimits_84 rfl (lv_at hl 1 rfl) ?_
          refine z_i2l (pc := 85) E (by decide) dX8_readsLimits_85 ?_
          refine z_lastore (pc := 86) E hK hM.2.2.1 hS (Ax.at 2 (by decide)) ⟨by omega, by omega⟩ (by decide) dX8_readsLimits_86 (fun H locs hnew hoth hS => ?_)
          have hM := W8.a2 hM hnew (fun a _ h => hoth a h)
          refine lv_aload_n (pc := 87) E.1 E.2 dX8_readsLimits_87 rfl (lv_at hl 4 rfl) ?_
          refine g8_1 (pc := 88) E hts hin8 hown hK hM.1 (hts _ (List.mem_of_getElem? (i := 5) rfl)) dX8_readsLimits_88 ?_
          refine z_bipush (pc := 91) E (by decide) dX8_readsLimits_91 ?_
          refine z_iconst (pc := 93) E dX8_readsLimits_93 ?_
          refine lv_iload_n (pc := 94) E.1 E.2 dX8_readsLimits_94 rfl (lv_at hl 3 rfl) ?_
          refine z_imul (pc := 95) E dX8_readsLimits_95 ?_
          refine z_iadd (pc := 96) E dX8_readsLimits_96 ?_
          refine lv_iload_n (pc := 97) E.1 E.2 dX8_readsLimits_97 rfl (lv_at hl 2 rfl) ?_
          refine z_iadd (pc := 98) E dX8_readsLimits_98 ?_
          refine lv_iload (pc := 99) E.1 E.2 dX8_readsLimits_99 (lv_at hl 0 rfl) ?_
          refine z_i2l (pc := 101) E (by decide) dX8_readsLimits_101 ?_
          refine z_lastore (pc := 102) E hK hM.2.2.1 hS (Ax.at 2 (by decide)) ⟨by omega, by omega⟩ (by decide) dX8_readsLimits_102 (fun H locs hnew hoth hS => ?_)
          have hM := W8.a2 hM hnew (fun a _ h => hoth a h)
          refine lv_iinc (pc := 103) (v := iI (k + 1)) (lv' := [(2, .int (iI (k + 1))), (4, .int (iI 0)), (3, .int (iI 0)), (1, .int (iI q)), (0, .ref (o 0))]) E.1 E.2 dX8_readsLimits_103 hl (k := 2) rfl (iI_add _ _) (by decide) rfl (fun ls hl => ?_)
          refine lv_goto (pc := 106) (tgt := 15) E.1 E.2 dX8_readsLimits_106 (by decide) ?_
          exact ihL15 q (k + 1) μL (zu (zu φL ((5 + (2 * q)) + k) 0) ((21 + (2 * q)) + k) 0) (by omega) (by omega) hkL (by omega) (Or.inr (And.intro (by omega) (And.intro (by rw [lx_s β n c hk.1]; (try unfold xL1); omega) (And.intro (by rw [lp_s β n c hk.1]; (try unfold pL1); omega) (by omega))))) (by omega)  _ _ hM hS ls (lv_sub hl [0, 3, 4] rfl)
        · exact absurd h32 (by first | exact hzz | exact fun q => hzz q | omega)
  have hy9 := y_9 hs9
  have hu9 := RNum_b β n (Te β n c) 0 7
  have hw9 : ¬ μ9 12 = 0 := by omega
  rw [if_neg hs9]
  refine lv_istore_n (pc := 12) (lv' := [(1, .int (iI 0)), (0, .ref (o 0))]) E.1 E.2 dX8_readsLimits_12 rfl hl (by decide) rfl (fun ls hl => ?_)
  refine z_iconst (pc := 13) E dX8_readsLimits_13 ?_
  refine lv_istore_n (pc := 14) (lv' := [(2, .int (iI 0)), (1, .int (iI 0)), (0, .ref (o 0))]) E.1 E.2 dX8_readsLimits_14 rfl hl (by decide) rfl (fun ls hl => ?_)
  refine lv_iload_n (pc := 15) E.1 E.2 dX8_readsLimits_15 rfl (lv_at hl 0 rfl) ?_
  refine z_iconst (pc := 16) E dX8_readsLimits_16 ?_
  refine z_icmp_ge (pc := 17) (tgt := 109) E (by decide) (by decide) dX8_readsLimits_17 (by decide) (fun h17 => ?_) (fun h17 => ?_)
  · exact absurd h17 (by decide)
  · refine lv_aload_n (pc := 20) E.1 E.2 dX8_readsLimits_20 rfl (lv_at hl 2 rfl) ?_
    refine z_iconst (pc := 21) E dX8_readsLimits_21 ?_
    refine lv_ldc (pc := 22) (v := iI (99999)) E.1 E.2 hown (show (Jvm.Cond.constant RX8 134 (iI (99999))).before _ ss = true from (hts _ (List.mem_of_getElem? (i := 1) rfl))) dX8_readsLimits_22 ?_
    refine z_rVi (pc := 24) (As := [.int (iI 0), .int (iI 99999)]) (rest := []) E hml hown hts (mX8_takesN lL G o μ9 σ φ κ β ω 0 99999 (by omega) (by omega)) (cwV 2 hts gX8_readsLimits_X8_takes rfl rfl rfl vdX8_takes ⟨Nat.le_of_ble_eq_true rfl, Nat.le_of_ble_eq_true rfl⟩) (oB.recv hK hM.1 rfl) hM hK rfl hl.1 rfl dX8_readsLimits_24 hcs (Nat.le_of_ble_eq_true rfl) ?_
    refine lv_istore_n (pc := 27) (lv' := [(3, .int (iI 0)), (2, .int (iI 0)), (1, .int (iI 0)), (0, .ref (o 0))]) E.1 E.2 dX8_readsLimits_27 rfl hl (by decide) rfl (fun ls hl => ?_)
    refine lv_aload_n (pc := 28) E.1 E.2 dX8_readsLimits_28 rfl (lv_at hl 3 rfl) ?_
    refine g8_12 (pc := 29) E hts hin8 hown hK hM.1 (hts _ (List.mem_of_getElem? (i := 2) rfl)) dX8_readsLimits_29 ?_
    refine z_if_ne (pc := 32) (tgt := 64) E ⟨by omega, by omega⟩ dX8_readsLimits_32 (by decide) (fun h32 => ?_) (fun h32 => ?_)
    · refine lv_aload_n (pc := 64) E.1 E.2 dX8_readsLimits_64 rfl (lv_at hl 3 rfl) ?_
      refine z_iconst (pc := 65) E dX8_readsLimits_65 ?_
      refine lv_ldc (pc := 66) (v := iI (99999)) E.1 E.2 hown (show (Jvm.Cond.constant RX8 134 (iI (99999))).before _ ss = true from (hts _ (List.mem_of_getElem? (i := 1) rfl))) dX8_readsLimits_66 ?_
      refine z_rVi (pc := 68) (As := [.int (iI 0), .int (iI 99999)]) (rest := []) E hml hown hts (mX8_takesN lL G o μ9 σ φ κ β ω 0 99999 (by omega) (by omega)) (cwV 2 hts gX8_readsLimits_X8_takes rfl rfl rfl vdX8_takes ⟨Nat.le_of_ble_eq_true rfl, Nat.le_of_ble_eq_true rfl⟩) (oB.recv hK hM.1 rfl) hM hK rfl hl.1 rfl dX8_readsLimits_68 hcs (Nat.le_of_ble_eq_true rfl) ?_
      refine lv_istore (pc := 71) (lv' := [(4, .int (iI 0)), (3, .int (iI 0)), (2, .int (iI 0)), (1, .int (iI 0)), (0, .ref (o 0))]) E.1 E.2 dX8_readsLimits_71 hl (by decide) rfl (fun ls hl => ?_)
      refine lv_aload_n (pc := 73) E.1 E.2 dX8_readsLimits_73 rfl (lv_at hl 4 rfl) ?_
      refine g8_1 (pc := 74) E hts hin8 hown hK hM.1 (hts _ (List.mem_of_getElem? (i := 5) rfl)) dX8_readsLimits_74 ?_
      refine z_iconst (pc := 77) E dX8_readsLimits_77 ?_
      refine z_iconst (pc := 78) E dX8_readsLimits_78 ?_
      refine lv_iload_n (pc := 79) E.1 E.2 dX8_readsLimits_79 rfl (lv_at hl 3 rfl) ?_
      refine z_imul (pc := 80) E dX8_readsLimits_80 ?_
      refine z_iadd (pc := 81) E dX8_readsLimits_81 ?_
      refine lv_iload_n (pc := 82) E.1 E.2 dX8_readsLimits_82 rfl (lv_at hl 2 rfl) ?_
      refine z_iadd (pc := 83) E dX8_readsLimits_83 ?_
      refine lv_iload_n (pc := 84) E.1 E.2 dX8_readsLimits_84 rfl (lv_at hl 1 rfl) ?_
      refine z_i2l (pc := 85) E (by decide) dX8_readsLimits_85 ?_
      refine z_lastore (pc := 86) E hK hM.2.2.1 hS (Ax.at 2 (by decide)) ⟨by omega, by omega⟩ (by decide) dX8_readsLimits_86 (fun H locs hnew hoth hS => ?_)
      have hM := W8.a2 hM hnew (fun a _ h => hoth a h)
      refine lv_aload_n (pc := 87) E.1 E.2 dX8_readsLimits_87 rfl (lv_at hl 4 rfl) ?_
      refine g8_1 (pc := 88) E hts hin8 hown hK hM.1 (hts _ (List.mem_of_getElem? (i := 5) rfl)) dX8_readsLimits_88 ?_
      refine z_bipush (pc := 91) E (by decide) dX8_readsLimits_91 ?_
      refine z_iconst (pc := 93) E dX8_readsLimits_93 ?_
      refine lv_iload_n (pc := 94) E.1 E.2 dX8_readsLimits_94 rfl (lv_at hl 3 rfl) ?_
      refine z_imul (pc := 95) E dX8_readsLimits_95 ?_
      refine z_iadd (pc := 96) E dX8_readsLimits_96 ?_
      refine lv_iload_n (pc := 97) E.1 E.2 dX8_readsLimits_97 rfl (lv_at hl 2 rfl) ?_
      refine z_iadd (pc := 98) E dX8_readsLimits_98 ?_
      refine lv_iload (pc := 99) E.1 E.2 dX8_readsLimits_99 (lv_at hl 0 rfl) ?_
      refine z_i2l (pc := 101) E (by decide) dX8_readsLimits_101 ?_
      refine z_lastore (pc := 102) E hK hM.2.2.1 hS (Ax.at 2 (by decide)) ⟨by omega, by omega⟩ (by decide) dX8_readsLimits_102 (fun H locs hnew hoth hS => ?_)
      have hM := W8.a2 hM hnew (fun a _ h => hoth a h)
      refine lv_iinc (pc := 103) (v := iI (1)) (lv' := [(2, .int (iI 1)), (4, .int (iI 0)), (3, .int (iI 0)), (1, .int (iI 0)), (0, .ref (o 0))]) E.1 E.2 dX8_readsLimits_103 hl (k := 2) rfl (iI_add _ _) (by decide) rfl (fun ls hl => ?_)
      refine lv_goto (pc := 106) (tgt := 15) E.1 E.2 dX8_readsLimits_106 (by decide) ?_
      refine lv_iload_n (pc := 15) E.1 E.2 dX8_readsLimits_15 rfl (lv_at hl 0 rfl) ?_
      refine z_iconst (pc := 16) E dX8_readsLimits_16 ?_
      refine z_icmp_ge (pc := 17) (tgt := 109) E (by decide) (by decide) dX8_readsLimits_17 (by decide) (fun h17 => ?_) (fun h17 => ?_)
      · exact absurd h17 (by decide)
      · refine lv_aload_n (pc := 20) E.1 E.2 dX8_readsLimits_20 rfl (lv_at hl 4 rfl) ?_
        refine z_iconst (pc := 21) E dX8_readsLimits_21 ?_
        refine lv_ldc (pc := 22) (v := iI (99999)) E.1 E.2 hown (show (Jvm.Cond.constant RX8 134 (iI (99999))).before _ ss = true from (hts _ (List.mem_of_getElem? (i := 1) rfl))) dX8_readsLimits_22 ?_
        refine z_rVi (pc := 24) (As := [.int (iI 0), .int (iI 99999)]) (rest := []) E hml hown hts (mX8_takesN lL G o μ9 σ (zu (zu φ ((5 + (2 * 0)) + 0) 0) ((21 + (2 * 0)) + 0) 0) κ β ω 0 99999 (by omega) (by omega)) (cwV 2 hts gX8_readsLimits_X8_takes rfl rfl rfl vdX8_takes ⟨Nat.le_of_ble_eq_true rfl, Nat.le_of_ble_eq_true rfl⟩) (oB.recv hK hM.1 rfl) hM hK rfl hl.1 rfl dX8_readsLimits_24 hcs (Nat.le_of_ble_eq_true rfl) ?_
        refine lv_istore_n (pc := 27) (lv' := [(3, .int (iI 0)), (2, .int (iI 1)), (4, .int (iI 0)), (1, .int (iI 0)), (0, .ref (o 0))]) E.1 E.2 dX8_readsLimits_27 rfl hl (by decide) rfl (fun ls hl => ?_)
        refine lv_aload_n (pc := 28) E.1 E.2 dX8_readsLimits_28 rfl (lv_at hl 4 rfl) ?_
        refine g8_12 (pc := 29) E hts hin8 hown hK hM.1 (hts _ (List.mem_of_getElem? (i := 2) rfl)) dX8_readsLimits_29 ?_
        refine z_if_ne (pc := 32) (tgt := 64) E ⟨by omega, by omega⟩ dX8_readsLimits_32 (by decide) (fun h32 => ?_) (fun h32 => ?_)
        · refine lv_aload_n (pc := 64) E.1 E.2 dX8_readsLimits_64 rfl (lv_at hl 4 rfl) ?_
          refine z_iconst (pc := 65) E dX8_readsLimits_65 ?_
          refine lv_ldc (pc := 66) (v := iI (99999)) E.1 E.2 hown (show (Jvm.Cond.constant RX8 134 (iI (99999))).before _ ss = true from (hts _ (List.mem_of_getElem? (i := 1) rfl))) dX8_readsLimits_66 ?_
          refine z_rVi (pc := 68) (As := [.int (iI 0), .int (iI 99999)]) (rest := []) E hml hown hts (mX8_takesN lL G o μ9 σ (zu (zu φ ((5 + (2 * 0)) + 0) 0) ((21 + (2 * 0)) + 0) 0) κ β ω 0 99999 (by omega) (by omega)) (cwV 2 hts gX8_readsLimits_X8_takes rfl rfl rfl vdX8_takes ⟨Nat.le_of_ble_eq_true rfl, Nat.le_of_ble_eq_true rfl⟩) (oB.recv hK hM.1 rfl) hM hK rfl hl.1 rfl dX8_readsLimits_68 hcs (Nat.le_of_ble_eq_true rfl) ?_
          refine lv_istore (pc := 71) (lv' := [(4, .int (iI 0)), (3, .int (iI 0)), (2, .int (iI 1)), (1, .int (iI 0)), (0, .ref (o 0))]) E.1 E.2 dX8_readsLimits_71 hl (by decide) rfl (fun ls hl => ?_)
          refine lv_aload_n (pc := 73) E.1 E.2 dX8_readsLimits_73 rfl (lv_at hl 4 rfl) ?_
          refine g8_1 (pc := 74) E hts hin8 hown hK hM.1 (hts _ (List.mem_of_getElem? (i := 5) rfl)) dX8_readsLimits_74 ?_
          refine z_iconst (pc := 77) E dX8_readsLimits_77 ?_
          refine z_iconst (pc := 78) E dX8_readsLimits_78 ?_
          refine lv_iload_n (pc := 79) E.1 E.2 dX8_readsLimits_79 rfl (lv_at hl 3 rfl) ?_
          refine z_imul (pc := 80) E dX8_readsLimits_80 ?_
          refine z_iadd (pc := 81) E dX8_readsLimits_81 ?_
          refine lv_iload_n (pc := 82) E.1 E.2 dX8_readsLimits_82 rfl (lv_at hl 2 rfl) ?_
          refine z_iadd (pc := 83) E dX8_readsLimits_83 ?_
          refine lv_iload_n (pc := 84) E.1 E.2 dX8_readsLimits_84 rfl (lv_at hl 1 rfl) ?_
          refine z_i2l (pc := 85) E (by decide) dX8_readsLimits_85 ?_
          refine z_lastore (pc := 86) E hK hM.2.2.1 hS (Ax.at 2 (by decide)) ⟨by omega, by omega⟩ (by decide) dX8_readsLimits_86 (fun H locs hnew hoth hS => ?_)
          have hM := W8.a2 hM hnew (fun a _ h => hoth a h)
          refine lv_aload_n (pc := 87) E.1 E.2 dX8_readsLimits_87 rfl (lv_at hl 4 rfl) ?_
          refine g8_1 (pc := 88) E hts hin8 hown hK hM.1 (hts _ (List.mem_of_getElem? (i := 5) rfl)) dX8_readsLimits_88 ?_
          refine z_bipush (pc := 91) E (by decide) dX8_readsLimits_91 ?_
          refine z_iconst (pc := 93) E dX8_readsLimits_93 ?_
          refine lv_iload_n (pc := 94) E.1 E.2 dX8_readsLimits_94 rfl (lv_at hl 3 rfl) ?_
          refine z_imul (pc := 95) E dX8_readsLimits_95 ?_
          refine z_iadd (pc := 96) E dX8_readsLimits_96 ?_
          refine lv_iload_n (pc := 97) E.1 E.2 dX8_readsLimits_97 rfl (lv_at hl 2 rfl) ?_
          refine z_iadd (pc := 98) E dX8_readsLimits_98 ?_
          refine lv_iload (pc := 99) E.1 E.2 dX8_readsLimits_99 (lv_at hl 0 rfl) ?_
          refine z_i2l (pc := 101) E (by decide) dX8_readsLimits_101 ?_
          refine z_lastore (pc := 102) E hK hM.2.2.1 hS (Ax.at 2 (by decide)) ⟨by omega, by omega⟩ (by decide) dX8_readsLimits_102 (fun H locs hnew hoth hS => ?_)
          have hM := W8.a2 hM hnew (fun a _ h => hoth a h)
          refine lv_iinc (pc := 103) (v := iI (2)) (lv' := [(2, .int (iI 2)), (4, .int (iI 0)), (3, .int (iI 0)), (1, .int (iI 0)), (0, .ref (o 0))]) E.1 E.2 dX8_readsLimits_103 hl (k := 2) rfl (iI_add _ _) (by decide) rfl (fun ls hl => ?_)
          refine lv_goto (pc := 106) (tgt := 15) E.1 E.2 dX8_readsLimits_106 (by decide) ?_
          refine lv_iload_n (pc := 15) E.1 E.2 dX8_readsLimits_15 rfl (lv_at hl 0 rfl) ?_
          refine z_iconst (pc := 16) E dX8_readsLimits_16 ?_
          refine z_icmp_ge (pc := 17) (tgt := 109) E (by decide) (by decide) dX8_readsLimits_17 (by decide) (fun h17 => ?_) (fun h17 => ?_)
          · exact z_retWv (P1 := fun H9 : Heap => ∃ (μ1 φ1 : Int → Int), W8 G o (mV o μ1) σ φ1 κ β ω H9 ∧ (KQ μ1 μ) ∧ (xLim β n c = 0 → μ1 12 = 0 ∧ TKw β n μ1 (cLim β n c) ∧ φ1 = fLim β n φ c) ∧ (¬ xLim β n c = 0 → μ1 12 = xLim β n c ∧ μ1 13 = pLim β n c ∧ (0 ≤ μ1 8 ∧ μ1 8 ≤ 900) ∧ (0 ≤ μ1 10 ∧ μ1 10 ≤ 3)) ∧ (-9223372036854775808 ≤ μ1 15 ∧ μ1 15 < 9223372036854775808)) E hr ⟨μ9, (zu (zu (zu (zu φ ((5 + (2 * 0)) + 0) 0) ((21 + (2 * 0)) + 0) 0) ((5 + (2 * 0)) + 1) 0) ((21 + (2 * 0)) + 1) 0), hM, (kq_9.t (kq_2.t (KQ.rf μ))), (fun z => absurd z (by unfold xLim lx lx lx; omega)), (fun z => And.intro (by unfold xLim lx lx lx; omega) (And.intro (by unfold pLim lp lp lp lx lx; omega) (by omega))), (by omega)⟩ hS hlocks dX8_readsLimits_109
          · exact absurd h17 (by decide)
        · exact absurd h32 (by first | exact hw9 | exact fun q => hw9 q | omega)
    · exact absurd h32 (by first | exact hw9 | exact fun q => hw9 q | omega)
