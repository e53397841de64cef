theorem vdX8_readsFolder : yX8_readsFolder.cls = RX8 ∧ yX8_readsFolder.cls ≠ "java/lang/invoke/MethodHandle" ∧ yX8_readsFolder.cls ≠ "java/lang/invoke/VarHandle" ∧ (parseMethodDescriptor yX8_readsFolder.desc).map (fun d => d.parameters.length) = some 0 := by decide +kernel
theorem vdX8_readsTag : yX8_readsTag.cls = RX8 ∧ yX8_readsTag.cls ≠ "java/lang/invoke/MethodHandle" ∧ yX8_readsTag.cls ≠ "java/lang/invoke/VarHandle" ∧ (parseMethodDescriptor yX8_readsTag.desc).map (fun d => d.parameters.length) = some 0 := by decide +kernel
theorem vdX8_readsFile : yX8_readsFile.cls = RX8 ∧ yX8_readsFile.cls ≠ "java/lang/invoke/MethodHandle" ∧ yX8_readsFile.cls ≠ "java/lang/invoke/VarHandle" ∧ (parseMethodDescriptor yX8_readsFile.desc).map (fun d => d.parameters.length) = some 0 := by decide +kernel
theorem mX8_mustTw (lL : Launch) (G : GG) (o : Nat → Nat) (μ σ φ κ β ω : Int → Int) (r : Int) (n : Int) (c : Int) (hb : TX β) (hr1 : r = 1) (hw : μ 12 = 0) (htk : TKw β n μ c) : Met lL yX8_must wsX8_must ({ frames := 3, cells := 0, slots := 0, locals := 65 } : Room) (va_Pc [.ref (o 0), .int (iI r)] (fun U => W8 G o (mV o μ) σ φ κ β ω U.heap ∧ KK G U)) (va_Qv (fun _ : Unit => True) (fun _ tZ => ∃ (μ1 : Int → Int), W8 G o (mV o μ1) σ φ κ β ω tZ.heap ∧ (KQ μ1 μ) ∧ (μ1 12 = 0) ∧ (TKw β n μ1 (Te β n c)) ∧ (-9223372036854775808 ≤ μ1 15 ∧ μ1 15 < 9223372036854775808)) (Ax o 6)) 0 0 (Ax o 6) := by (rw [TKw_f] at htk; simp only [TKw_f, Te_f, Sk_f, Kd_f, Nm_f, Wo_f, RNum_f, RFol_f, RNew_f]; exact mX8_mustT lL G o μ σ φ κ β ω r n c hb hr1 hw htk)
theorem mX8_mustFw (lL : Launch) (G : GG) (o : Nat → Nat) (μ σ φ κ β ω : Int → Int) (r : Int) (n : Int) (c : Int) (hb : TX β) (hr0 : r = 0) (hw : μ 12 = 0) (htk : TKw β n μ c) : Met lL yX8_must wsX8_must ({ frames := 3, cells := 0, slots := 0, locals := 65 } : Room) (va_Pc [.ref (o 0), .int (iI r)] (fun U => W8 G o (mV o μ) σ φ κ β ω U.heap ∧ KK G U)) (va_Qv (fun _ : Unit => True) (fun _ tZ => ∃ (μ1 : Int → Int), W8 G o (mV o μ1) σ φ κ β ω tZ.heap ∧ (KQ μ1 μ) ∧ (μ1 12 = -2) ∧ (μ1 13 = Sk β n c) ∧ (μ1 15 = μ 15) ∧ (μ1 8 = μ 8) ∧ (μ1 10 = μ 10)) (Ax o 6)) 0 0 (Ax o 6) := by (rw [TKw_f] at htk; simp only [TKw_f, Te_f, Sk_f, Kd_f, Nm_f, Wo_f, RNum_f, RFol_f, RNew_f]; exact mX8_mustF lL G o μ σ φ κ β ω r n c hb hr0 hw htk)
theorem mX8_takesZw (lL : Launch) (G : GG) (o : Nat → Nat) (μ σ φ κ β ω : Int → Int) (lo : Int) (hi : Int) (n : Int) (c : Int) (hb : TX β) (hlo : -2147483648 ≤ lo ∧ lo < 2147483648) (hhi : -2147483648 ≤ hi ∧ hi < 2147483648) (hw : μ 12 = 0) (htk : TKw β n μ c) (hrw : -9223372036854775808 ≤ μ 15 ∧ μ 15 < 9223372036854775808) : Met lL yX8_takes wsX8_takes ({ frames := 3, cells := 0, slots := 0, locals := 65 } : Room) (va_Pc [.ref (o 0), .int (iI lo), .int (iI hi)] (fun U => W8 G o (mV o μ) σ φ κ β ω U.heap ∧ KK G U)) (va_Qi (fun r (_ : Unit) => r = (iI (if RNum β n c lo hi = 0 then Nm β n c else 0))) (fun _ tZ => ∃ (μ1 : Int → Int), W8 G o (mV o μ1) σ φ κ β ω tZ.heap ∧ (KQ μ1 μ) ∧ (RNum β n c lo hi = 0 → μ1 12 = 0 ∧ TKw β n μ1 (Te β n c)) ∧ (¬ RNum β n c lo hi = 0 → μ1 12 = RNum β n c lo hi ∧ μ1 13 = Sk β n c ∧ (0 ≤ μ1 8 ∧ μ1 8 ≤ 900) ∧ (0 ≤ μ1 10 ∧ μ1 10 ≤ 3)) ∧ (-9223372036854775808 ≤ μ1 15 ∧ μ1 15 < 9223372036854775808)) (Ax o 6)) 0 0 (Ax o 6) := by (rw [TKw_f] at htk; simp only [TKw_f, Te_f, Sk_f, Kd_f, Nm_f, Wo_f, RNum_f, RFol_f, RNew_f]; exact mX8_takesZ lL G o μ σ φ κ β ω lo hi n c hb hlo hhi hw htk hrw)
theorem mX8_takesNamerFolw (lL : Launch) (G : GG) (o : Nat → Nat) (μ σ φ κ β ω : Int → Int) (e : Int) (n : Int) (c : Int) (hb : TX β) (he : e = 1) (hw : μ 12 = 0) (htk : TKw β n μ c) (hrw : -9223372036854775808 ≤ μ 15 ∧ μ 15 < 9223372036854775808) (hJ : In φ) : Met lL yX8_takesName wsX8_takesName ({ frames := 3, cells := 0, slots := 0, locals := 65 } : Room) (va_Pc [.ref (o 0), .int (iI e)] (fun U => W8 G o (mV o μ) σ φ κ β ω U.heap ∧ KK G U)) (va_Ql (fun r (_ : Unit) => r = (iL (μ 15))) (fun _ tZ => ∃ (μ1 : Int → Int), W8 G o (mV o μ1) σ φ κ β ω tZ.heap ∧ (KQ μ1 μ) ∧ (RFol β n φ c = 0 → μ1 12 = 0 ∧ TKw β n μ1 (Te β n c)) ∧ (¬ RFol β n φ c = 0 → μ1 12 = RFol β n φ c ∧ μ1 13 = Sk β n c ∧ (0 ≤ μ1 8 ∧ μ1 8 ≤ 900) ∧ (0 ≤ μ1 10 ∧ μ1 10 ≤ 3)) ∧ (-9223372036854775808 ≤ μ1 15 ∧ μ1 15 < 9223372036854775808)) (Ax o 6)) 0 0 (Ax o 6) := by (rw [TKw_f] at htk; simp only [TKw_f, Te_f, Sk_f, Kd_f, Nm_f, Wo_f, RNum_f, RFol_f, RNew_f]; exact mX8_takesNamerFol lL G o μ σ φ κ β ω e n c hb he hw htk hrw hJ)
theorem mX8_takesNamerNeww (lL : Launch) (G : GG) (o : Nat → Nat) (μ σ φ κ β ω : Int → Int) (e : Int) (n : Int) (c : Int) (hb : TX β) (he : e = 0) (hw : μ 12 = 0) (htk : TKw β n μ c) (hrw : -9223372036854775808 ≤ μ 15 ∧ μ 15 < 9223372036854775808) (hJ : In φ) : Met lL yX8_takesName wsX8_takesName ({ frames := 3, cells := 0, slots := 0, locals := 65 } : Room) (va_Pc [.ref (o 0), .int (iI e)] (fun U => W8 G o (mV o μ) σ φ κ β ω U.heap ∧ KK G U)) (va_Ql (fun r (_ : Unit) => r = (iL (μ 15))) (fun _ tZ => ∃ (μ1 : Int → Int), W8 G o (mV o μ1) σ φ κ β ω tZ.heap ∧ (KQ μ1 μ) ∧ (RNew β n φ c = 0 → μ1 12 = 0 ∧ TKw β n μ1 (Te β n c)) ∧ (¬ RNew β n φ c = 0 → μ1 12 = RNew β n φ c ∧ μ1 13 = Sk β n c ∧ (0 ≤ μ1 8 ∧ μ1 8 ≤ 900) ∧ (0 ≤ μ1 10 ∧ μ1 10 ≤ 3)) ∧ (-9223372036854775808 ≤ μ1 15 ∧ μ1 15 < 9223372036854775808)) (Ax o 6)) 0 0 (Ax o 6) := by (rw [TKw_f] at htk; simp only [TKw_f, Te_f, Sk_f, Kd_f, Nm_f, Wo_f, RNum_f, RFol_f, RNew_f]; exact mX8_takesNamerNew lL G o μ σ φ κ β ω e n c hb he hw htk hrw hJ)
theorem mX8_takesFolderZw (lL : Launch) (G : GG) (o : Nat → Nat) (μ σ φ κ β ω : Int → Int) (n : Int) (c : Int) (hb : TX β) (hw : μ 12 = 0) (htk : TKw β n μ c) (hrw : -9223372036854775808 ≤ μ 15 ∧ μ 15 < 9223372036854775808) (hJ : In φ) : Met lL yX8_takesFolder wsX8_takesFolder ({ frames := 4, cells := 0, slots := 0, locals := 88 } : Room) (va_Pc [.ref (o 0)] (fun U => W8 G o (mV o μ) σ φ κ β ω U.heap ∧ KK G U)) (va_Qi (fun r (_ : Unit) => r = (iI (fnS φ (μ 15) 0))) (fun _ tZ => ∃ (μ1 : Int → Int), W8 G o (mV o μ1) σ φ κ β ω tZ.heap ∧ (KQ μ1 μ) ∧ (RFol β n φ c = 0 → μ1 12 = 0 ∧ TKw β n μ1 (Te β n c)) ∧ (¬ RFol β n φ c = 0 → μ1 12 = RFol β n φ c ∧ μ1 13 = Sk β n c ∧ (0 ≤ μ1 8 ∧ μ1 8 ≤ 900) ∧ (0 ≤ μ1 10 ∧ μ1 10 ≤ 3)) ∧ (-9223372036854775808 ≤ μ1 15 ∧ μ1 15 < 9223372036854775808)) (Ax o 6)) 0 0 (Ax o 6) := by (rw [TKw_f] at htk; simp only [TKw_f, Te_f, Sk_f, Kd_f, Nm_f, Wo_f, RNum_f, RFol_f, RNew_f]; exact mX8_takesFolderZ lL G o μ σ φ κ β ω n c hb hw htk hrw hJ)
set_option maxHeartbeats 1000000 in
set_option maxRecDepth 100000 in
theorem mX8_readsFolder (lL : Launch) (G : GG) (o : Nat → Nat) (μ σ φ κ β ω : Int → Int) (n : Int) (c : Int) (hb : TX β) (hw : μ 12 = 0) (htk : TKw β n μ c) (hrw : -9223372036854775808 ≤ μ 15 ∧ μ 15 < 9223372036854775808) (hJ : In φ) : Met lL yX8_readsFolder wsX8_readsFolder ({ frames := 5, cells := 0, slots := 0, locals := 108 } : Room) (va_Pc [.ref (o 0)] (fun U => W8 G o (mV o μ) σ φ κ β ω U.heap ∧ KK G U)) (va_Qv (fun _ : Unit => True) (fun _ tZ => ∃ (μ1 φ1 : Int → Int), W8 G o (mV o μ1) σ φ1 κ β ω tZ.heap ∧ (KQ μ1 μ) ∧ (xFld β n φ c = 0 → μ1 12 = 0 ∧ TKw β n μ1 (cFld β n c) ∧ φ1 = fFld β n φ c) ∧ (¬ xFld β n φ c = 0 → μ1 12 = xFld β n φ c ∧ μ1 13 = pFld β n φ c ∧ (0 ≤ μ1 8 ∧ μ1 8 ≤ 900) ∧ (0 ≤ μ1 10 ∧ μ1 10 ≤ 3)) ∧ (-9223372036854775808 ≤ μ1 15 ∧ μ1 15 < 9223372036854775808)) (Ax o 6)) 0 0 (Ax o 6) := by
  refine z_met (P := (fun H : Heap => W8 G o (mV o μ) σ φ κ β ω H)) (by decide) rfl (Nat.le_of_ble_eq_true rfl) (fun pp ee ss mm below meth cC E hr hml hown hts hlocks hM hK ls hl => ?_)
  have hl : lv_has ls 4 [(0, .ref (o 0))] := hl
  have hcs : 0 ≤ (({ frames := 5, cells := 0, slots := 0, locals := 108 } : Room)).cells ∧ 0 ≤ (({ frames := 5, cells := 0, slots := 0, locals := 108 } : Room)).slots := ⟨Nat.zero_le _, Nat.zero_le _⟩
  have hS : va_S (Ax o 6) ss.heap ss.heap [] := va_S.rf
  have hin8 : ∀ w ∈ wsX80, w ∈ wsX8_readsFolder := fun w h => List.mem_cons_of_mem _ (List.mem_append_right _ (h))
  have h7 := htk.n7
  have h9 := htk.be9
  have h8 := htk.at8
  have h10 := htk.ki10
  have hcn := htk.c0
  have hsn := htk.skb
  have htn := htk.teb
  have hkd := Kd_b β n c
  have hJF := hJ.F
  refine lv_aload_n (pc := 0) E.1 E.2 dX8_readsFolder_0 rfl (lv_at hl 0 rfl) ?_
  refine g8_1 (pc := 1) E hts hin8 hown hK hM.1 (hts _ (List.mem_of_getElem? (i := 1) rfl)) dX8_readsFolder_1 ?_
  refine z_iconst (pc := 4) E dX8_readsFolder_4 ?_
  refine z_laload (pc := 5) E hK hM.2.2.1 ⟨by omega, by omega⟩ (by decide) dX8_readsFolder_5 ?_
  refine lv_ldc2 (pc := 6) (v := iL (40)) E.1 E.2 hown (show (Jvm.Cond.constantLong RX8 135 (iL (40))).before _ ss = true from (hts _ (List.mem_of_getElem? (i := 2) rfl))) dX8_readsFolder_6 ?_
  refine z_lcmp_ne (pc := 9) (tgt := 19) E ⟨by omega, by omega⟩ (by decide) dX8_readsFolder_9 dX8_readsFolder_10 (by decide) (fun h9 => ?_) (fun h9 => ?_)
  · refine lv_aload_n (pc := 19) E.1 E.2 dX8_readsFolder_19 rfl (lv_at hl 0 rfl) ?_
    refine z_iconst (pc := 20) E dX8_readsFolder_20 ?_
    refine z_wVv (pc := 21) (P1 := fun H9 : Heap => ∃ (μ21 : Int → Int), W8 G o (mV o μ21) σ φ κ β ω H9 ∧ (KQ μ21 μ) ∧ (μ21 12 = 0) ∧ (TKw β n μ21 (Te β n c)) ∧ (-9223372036854775808 ≤ μ21 15 ∧ μ21 15 < 9223372036854775808)) (As := [.int (iI 1)]) (rest := []) E hml hown hts (mX8_mustTw lL G o μ σ φ κ β ω 1 n c hb (by omega) (by omega) (by assumption)) (cwV 1 hts gX8_readsFolder_X8_must rfl rfl rfl vdX8_must ⟨Nat.le_of_ble_eq_true rfl, Nat.le_of_ble_eq_true rfl⟩) (oB.recv hK hM.1 rfl) hM hK hS (fun _ h => h) rfl hl.1 rfl dX8_readsFolder_21 hcs (Nat.le_of_ble_eq_true rfl) (fun H locs hnew hsz hoth hS => ?_)
    obtain ⟨μ21, hM, kq_21, e2_21, tk_21, rw_21⟩ := hnew
    have h7t21 := tk_21.n7
    have h9t21 := tk_21.be9
    have h8t21 := tk_21.at8
    have h10t21 := tk_21.ki10
    have hct21 := tk_21.c0
    have hst21 := tk_21.skb
    have htt21 := tk_21.teb
    have hkt21 := Kd_b β n (Te β n c)
    have hnt21 := fun z : Kd β n (Te β n c) = 1 => tk_21.nu z
    have hnb21 : Kd β n (Te β n c) = 1 → (0 ≤ Nm β n (Te β n c) ∧ Nm β n (Te β n c) ≤ 9999999) := fun z => NmT_r (by omega) z
    refine lv_aload_n (pc := 24) E.1 E.2 dX8_readsFolder_24 rfl (lv_at hl 0 rfl) ?_
    refine z_iconst (pc := 25) E dX8_readsFolder_25 ?_
    refine z_wVl (pc := 26) (P1 := fun H9 : Heap => ∃ (μ26 : Int → Int), W8 G o (mV o μ26) σ φ κ β ω H9 ∧ (KQ μ26 μ21) ∧ (RNew β n φ (Te β n c) = 0 → μ26 12 = 0 ∧ TKw β n μ26 (Te β n (Te β n c))) ∧ (¬ RNew β n φ (Te β n c) = 0 → μ26 12 = RNew β n φ (Te β n c) ∧ μ26 13 = Sk β n (Te β n c) ∧ (0 ≤ μ26 8 ∧ μ26 8 ≤ 900) ∧ (0 ≤ μ26 10 ∧ μ26 10 ≤ 3)) ∧ (-9223372036854775808 ≤ μ26 15 ∧ μ26 15 < 9223372036854775808)) (As := [.int (iI 0)]) (rest := []) E hml hown hts (mX8_takesNamerNeww lL G o μ21 σ φ κ β ω 0 n (Te β n c) hb (by omega) (by omega) (by assumption) (by omega) hJ) (cwV 1 hts gX8_readsFolder_X8_takesName rfl rfl rfl vdX8_takesName ⟨Nat.le_of_ble_eq_true rfl, Nat.le_of_ble_eq_true rfl⟩) (oB.recv hK hM.1 rfl) hM hK hS (fun _ h => h) rfl hl.1 rfl dX8_readsFolder_26 hcs (Nat.le_of_ble_eq_true rfl) (fun H locs hnew hsz hoth hS => ?_)
    obtain ⟨μ26, hM, kq_26, x_26, y_26, rw_26⟩ := hnew
    by_cases hs26 : RNew β n φ (Te β n c) = 0
    · have hw26 := (x_26 hs26).1
      have ht26 := (x_26 hs26).2
      have hq26 := RNew_0 hs26
      have hfr26 := fnS_r hJ (Wo β n (Te β n c))
      rw [show μ21 15 = Wo β n (Te β n c) from TKw.wo_ (by assumption) hq26.1]
      have h7t26 := ht26.n7
      have h9t26 := ht26.be9
      have h8t26 := ht26.at8
      have h10t26 := ht26.ki10
      have hct26 := ht26.c0
      have hst26 := ht26.skb
      have htt26 := ht26.teb
      have hkt26 := Kd_b β n (Te β n (Te β n c))
      have hnt26 := fun z : Kd β n (Te β n (Te β n c)) = 1 => ht26.nu z
      have hnb26 : Kd β n (Te β n (Te β n c)) = 1 → (0 ≤ Nm β n (Te β n (Te β n c)) ∧ Nm β n (Te β n (Te β n c)) ≤ 9999999) := fun z => NmT_r (by omega) z
      refine lv_lstore_n (pc := 29) (lv' := [(1, .long (iL (Wo β n (Te β n c)))), (0, .ref (o 0))]) E.1 E.2 dX8_readsFolder_29 rfl hl (by decide) rfl (fun ls hl => ?_)
      refine lv_aload_n (pc := 30) E.1 E.2 dX8_readsFolder_30 rfl (lv_at hl 1 rfl) ?_
      refine z_wVi (pc := 31) (P1 := fun H9 : Heap => ∃ (μ31 : Int → Int), W8 G o (mV o μ31) σ φ κ β ω H9 ∧ (KQ μ31 μ26) ∧ (RFol β n φ (Te β n (Te β n c)) = 0 → μ31 12 = 0 ∧ TKw β n μ31 (Te β n (Te β n (Te β n c)))) ∧ (¬ RFol β n φ (Te β n (Te β n c)) = 0 → μ31 12 = RFol β n φ (Te β n (Te β n c)) ∧ μ31 13 = Sk β n (Te β n (Te β n c)) ∧ (0 ≤ μ31 8 ∧ μ31 8 ≤ 900) ∧ (0 ≤ μ31 10 ∧ μ31 10 ≤ 3)) ∧ (-9223372036854775808 ≤ μ31 15 ∧ μ31 15 < 9223372036854775808)) (As := []) (rest := []) E hml hown hts (mX8_takesFolderZw lL G o μ26 σ φ κ β ω n (Te β n (Te β n c)) hb (by omega) (by assumption) (by omega) hJ) (cwV 0 hts gX8_readsFolder_X8_takesFolder rfl rfl rfl vdX8_takesFolder ⟨Nat.le_of_ble_eq_true rfl, Nat.le_of_ble_eq_true rfl⟩) (oB.recv hK hM.1 rfl) hM hK hS (fun _ h => h) rfl hl.1 rfl dX8_readsFolder_31 hcs (Nat.le_of_ble_eq_true rfl) (fun H locs hnew hsz hoth hS => ?_)
      obtain ⟨μ31, hM, kq_31, x_31, y_31, rw_31⟩ := hnew
      by_cases hs31 : RFol β n φ (Te β n (Te β n c)) = 0
      · have hw31 := (x_31 hs31).1
        have ht31 := (x_31 hs31).2
        have hq31 := RFol_0 hs31
        have hfr31 := fnS_r hJ (Wo β n (Te β n (Te β n c)))
        rw [show μ26 15 = Wo β n (Te β n (Te β n c)) from TKw.wo_ (by assumption) hq31.1]
        have h7t31 := ht31.n7
        have h9t31 := ht31.be9
        have h8t31 := ht31.at8
        have h10t31 := ht31.ki10
        have hct31 := ht31.c0
        have hst31 := ht31.skb
        have htt31 := ht31.teb
        have hkt31 := Kd_b β n (Te β n (Te β n (Te β n c)))
        have hnt31 := fun z : Kd β n (Te β n (Te β n (Te β n c))) = 1 => ht31.nu z
        have hnb31 : Kd β n (Te β n (Te β n (Te β n c))) = 1 → (0 ≤ Nm β n (Te β n (Te β n (Te β n c))) ∧ Nm β n (Te β n (Te β n (Te β n c))) ≤ 9999999) := fun z => NmT_r (by omega) z
        refine lv_istore_n (pc := 34) (lv' := [(3, .int (iI (fnS φ ((Wo β n (Te β n (Te β n c)))) 0))), (1, .long (iL (Wo β n (Te β n c)))), (0, .ref (o 0))]) E.1 E.2 dX8_readsFolder_34 rfl hl (by decide) rfl (fun ls hl => ?_)
        refine lv_aload_n (pc := 35) E.1 E.2 dX8_readsFolder_35 rfl (lv_at hl 2 rfl) ?_
        refine g8_12 (pc := 36) E hts hin8 hown hK hM.1 (hts _ (List.mem_of_getElem? (i := 3) rfl)) dX8_readsFolder_36 ?_
        refine z_if_ne (pc := 39) (tgt := 51) E ⟨by omega, by omega⟩ dX8_readsFolder_39 (by decide) (fun h39 => ?_) (fun h39 => ?_)
        · exact absurd h39 (by first | exact hw31 | exact fun q => hw31 q | omega)
        · refine lv_aload_n (pc := 42) E.1 E.2 dX8_readsFolder_42 rfl (lv_at hl 2 rfl) ?_
          refine g8_1 (pc := 43) E hts hin8 hown hK hM.1 (hts _ (List.mem_of_getElem? (i := 1) rfl)) dX8_readsFolder_43 ?_
          refine lv_iload_n (pc := 46) E.1 E.2 dX8_readsFolder_46 rfl (lv_at hl 0 rfl) ?_
          refine lv_lload_n (pc := 47) E.1 E.2 dX8_readsFolder_47 rfl (lv_at hl 1 rfl) ?_
          refine z_wSv (pc := 48) (As := [.ref (o 2), .int (iI (fnS φ ((Wo β n (Te β n (Te β n c)))) 0)), .long (iL (Wo β n (Te β n c)))]) (rest := []) E hml hown hts (mX8_addsFolder lL G (o 2) φ (fnS φ ((Wo β n (Te β n (Te β n c)))) 0) (Wo β n (Te β n c)) (by omega) (by omega)) (va_cwS 3 hts gX8_readsFolder_X8_addsFolder rfl rfl rfl vdX8_addsFolder.2 ⟨Nat.le_of_ble_eq_true rfl, Nat.le_of_ble_eq_true rfl⟩) hM.2.2.1 hK hS (fun _ h => by rw [h]; exact Ax.at 2 (by decide)) rfl hl.1 rfl dX8_readsFolder_48 hcs (Nat.le_of_ble_eq_true rfl) (fun H locs hnew hsz hoth hS => ?_)
          have hM := W8.a2 hM hnew hoth
          exact z_retWv (P1 := fun H9 : Heap => ∃ (μ1 φ1 : Int → Int), W8 G o (mV o μ1) σ φ1 κ β ω H9 ∧ (KQ μ1 μ) ∧ (xFld β n φ c = 0 → μ1 12 = 0 ∧ TKw β n μ1 (cFld β n c) ∧ φ1 = fFld β n φ c) ∧ (¬ xFld β n φ c = 0 → μ1 12 = xFld β n φ c ∧ μ1 13 = pFld β n φ c ∧ (0 ≤ μ1 8 ∧ μ1 8 ≤ 900) ∧ (0 ≤ μ1 10 ∧ μ1 10 ≤ 3)) ∧ (-9223372036854775808 ≤ μ1 15 ∧ μ1 15 < 9223372036854775808)) E hr ⟨μ31, (adF φ (fnS φ ((Wo β n (Te β n (Te β n c)))) 0) (Wo β n (Te β n c))), hM, (kq_31.t (kq_26.t (kq_21.t (KQ.rf μ)))), (fun _ => And.intro (by omega) (And.intro ht31 rfl)), (fun z => absurd (by (try unfold xFld); (try unfold pFld); omega) z), (by omega)⟩ hS hlocks dX8_readsFolder_51
      have hy31 := y_31 hs31
      have hu31 := RFol_b β φ n (Te β n (Te β n c))
      have hw31 : ¬ μ31 12 = 0 := by omega
      refine lv_istore_n (pc := 34) (lv' := [(3, .int (iI (fnS φ (μ26 15) 0))), (1, .long (iL (Wo β n (Te β n c)))), (0, .ref (o 0))]) E.1 E.2 dX8_readsFolder_34 rfl hl (by decide) rfl (fun ls hl => ?_)
      refine lv_aload_n (pc := 35) E.1 E.2 dX8_readsFolder_35 rfl (lv_at hl 2 rfl) ?_
      refine g8_12 (pc := 36) E hts hin8 hown hK hM.1 (hts _ (List.mem_of_getElem? (i := 3) rfl)) dX8_readsFolder_36 ?_
      refine z_if_ne (pc := 39) (tgt := 51) E ⟨by omega, by omega⟩ dX8_readsFolder_39 (by decide) (fun h39 => ?_) (fun h39 => ?_)
      · exact z_retWv (P1 := fun H9 : Heap => ∃ (μ1 φ1 : Int → Int), W8 G o (mV o μ1) σ φ1 κ β ω H9 ∧ (KQ μ1 μ) ∧ (xFld β n φ c = 0 → μ1 12 = 0 ∧ TKw β n μ1 (cFld β n c) ∧ φ1 = fFld β n φ c) ∧ (¬ xFld β n φ c = 0 → μ1 12 = xFld β n φ c ∧ μ1 13 = pFld β n φ c ∧ (0 ≤ μ1 8 ∧ μ1 8 ≤ 900) ∧ (0 ≤ μ1 10 ∧ μ1 10 ≤ 3)) ∧ (-9223372036854775808 ≤ μ1 15 ∧ μ1 15 < 9223372036854775808)) E hr ⟨μ31, φ, hM, (kq_31.t (kq_26.t (kq_21.t (KQ.rf μ)))), (fun z => absurd z (by (try unfold xFld); (try unfold pFld); omega)), (fun z => And.intro (by (try unfold xFld); (try unfold pFld); omega) (And.intro (by (try unfold xFld); (try unfold pFld); omega) (by omega))), (by omega)⟩ hS hlocks dX8_readsFolder_51
      · exact absurd h39 (by first | exact hw31 | exact fun q => hw31 q | omega)
    have hy26 := y_26 hs26
    have hu26 := RNew_b β φ n (Te β n c)
    have hw26 : ¬ μ26 12 = 0 := by omega
    refine lv_lstore_n (pc := 29) (lv' := [(1, .long (iL (μ21 15))), (0, .ref (o 0))]) E.1 E.2 dX8_readsFolder_29 rfl hl (by decide) rfl (fun ls hl => ?_)
    refine lv_aload_n (pc := 30) E.1 E.2 dX8_readsFolder_30 rfl (lv_at hl 1 rfl) ?_
    refine z_rVi (pc := 31) (As := []) (rest := []) E hml hown hts (mX8_takesFolderN lL G o μ26 σ φ κ β ω  (by omega) (by omega) (by omega) hJ) (cwV 0 hts gX8_readsFolder_X8_takesFolder rfl rfl rfl vdX8_takesFolder ⟨Nat.le_of_ble_eq_true rfl, Nat.le_of_ble_eq_true rfl⟩) (oB.recv hK hM.1 rfl) hM hK rfl hl.1 rfl dX8_readsFolder_31 hcs (Nat.le_of_ble_eq_true rfl) ?_
    refine lv_istore_n (pc := 34) (lv' := [(3, .int (iI (fnS φ (μ26 15) 0))), (1, .long (iL (μ21 15))), (0, .ref (o 0))]) E.1 E.2 dX8_readsFolder_34 rfl hl (by decide) rfl (fun ls hl => ?_)
    refine lv_aload_n (pc := 35) E.1 E.2 dX8_readsFolder_35 rfl (lv_at hl 2 rfl) ?_
    refine g8_12 (pc := 36) E hts hin8 hown hK hM.1 (hts _ (List.mem_of_getElem? (i := 3) rfl)) dX8_readsFolder_36 ?_
    refine z_if_ne (pc := 39) (tgt := 51) E ⟨by omega, by omega⟩ dX8_readsFolder_39 (by decide) (fun h39 => ?_) (fun h39 => ?_)
    · exact z_retWv (P1 := fun H9 : Heap => ∃ (μ1 φ1 : Int → Int), W8 G o (mV o μ1) σ φ1 κ β ω H9 ∧ (KQ μ1 μ) ∧ (xFld β n φ c = 0 → μ1 12 = 0 ∧ TKw β n μ1 (cFld β n c) ∧ φ1 = fFld β n φ c) ∧ (¬ xFld β n φ c = 0 → μ1 12 = xFld β n φ c ∧ μ1 13 = pFld β n φ c ∧ (0 ≤ μ1 8 ∧ μ1 8 ≤ 900) ∧ (0 ≤ μ1 10 ∧ μ1 10 ≤ 3)) ∧ (-9223372036854775808 ≤ μ1 15 ∧ μ1 15 < 9223372036854775808)) E hr ⟨μ26, φ, hM, (kq_26.t (kq_21.t (KQ.rf μ))), (fun z => absurd z (by (try unfold xFld); (try unfold pFld); omega)), (fun z => And.intro (by (try unfold xFld); (try unfold pFld); omega) (And.intro (by (try unfold xFld); (try unfold pFld); omega) (by omega))), (by omega)⟩ hS hlocks dX8_readsFolder_51
    · exact absurd h39 (by first | exact hw26 | exact fun q => hw26 q | omega)
  · refine lv_aload_n (pc := 13) E.1 E.2 dX8_readsFolder_13 rfl (lv_at hl 0 rfl) ?_
    refine z_bipush (pc := 14) E (by decide) dX8_readsFolder_14 ?_
    refine z_wVv (pc := 16) (P1 := fun H9 : Heap => ∃ (μ16 : Int → Int), W8 G o (mV o μ16) σ φ κ β ω H9 ∧ (KQ μ16 μ) ∧ (μ16 12 = (-4)) ∧ (μ16 13 = μ 8) ∧ (μ16 15 = μ 15) ∧ (μ16 8 = μ 8) ∧ (μ16 10 = μ 10)) (As := [.int (iI (-4))]) (rest := []) E hml hown hts (mX8_failsZ lL G o μ σ φ κ β ω (-4) (by decide) (by omega)) (cwV 1 hts gX8_readsFolder_X8_fails rfl rfl rfl vdX8_fails ⟨Nat.le_of_ble_eq_true rfl, Nat.le_of_ble_eq_true rfl⟩) (oB.recv hK hM.1 rfl) hM hK hS (fun _ h => h) rfl hl.1 rfl dX8_readsFolder_16 hcs (Nat.le_of_ble_eq_true rfl) (fun H locs hnew hsz hoth hS => ?_)
    obtain ⟨μ16, hM, kq_16, e2_16, e3_16, e5_16, e8_16, e10_16⟩ := hnew
    have hw16 : ¬ μ16 12 = 0 := by omega
    refine lv_aload_n (pc := 19) E.1 E.2 dX8_readsFolder_19 rfl (lv_at hl 0 rfl) ?_
    refine z_iconst (pc := 20) E dX8_readsFolder_20 ?_
    refine z_rVv (pc := 21) (As := [.int (iI 1)]) (rest := []) E hml hown hts (mX8_mustN lL G o μ16 σ φ κ β ω 1 (by omega) (by omega) (by omega)) (cwV 1 hts gX8_readsFolder_X8_must rfl rfl rfl vdX8_must ⟨Nat.le_of_ble_eq_true rfl, Nat.le_of_ble_eq_true rfl⟩) (oB.recv hK hM.1 rfl) hM hK rfl hl.1 rfl dX8_readsFolder_21 hcs (Nat.le_of_ble_eq_true rfl) ?_
    refine lv_aload_n (pc := 24) E.1 E.2 dX8_readsFolder_24 rfl (lv_at hl 0 rfl) ?_
    refine z_iconst (pc := 25) E dX8_readsFolder_25 ?_
    refine z_rVl (pc := 26) (As := [.int (iI 0)]) (rest := []) E hml hown hts (mX8_takesNameN lL G o μ16 σ φ κ β ω 0 (by omega) (by omega) (by omega)) (cwV 1 hts gX8_readsFolder_X8_takesName rfl rfl rfl vdX8_takesName ⟨Nat.le_of_ble_eq_true rfl, Nat.le_of_ble_eq_true rfl⟩) (oB.recv hK hM.1 rfl) hM hK rfl hl.1 rfl dX8_readsFolder_26 hcs (Nat.le_of_ble_eq_true rfl) ?_
    refine lv_lstore_n (pc := 29) (lv' := [(1, .long (iL (μ16 15))), (0, .ref (o 0))]) E.1 E.2 dX8_readsFolder_29 rfl hl (by decide) rfl (fun ls hl => ?_)
    refine lv_aload_n (pc := 30) E.1 E.2 dX8_readsFolder_30 rfl (lv_at hl 1 rfl) ?_
    refine z_rVi (pc := 31) (As := []) (rest := []) E hml hown hts (mX8_takesFolderN lL G o μ16 σ φ κ β ω  (by omega) (by omega) (by omega) hJ) (cwV 0 hts gX8_readsFolder_X8_takesFolder rfl rfl rfl vdX8_takesFolder ⟨Nat.le_of_ble_eq_true rfl, Nat.le_of_ble_eq_true rfl⟩) (oB.recv hK hM.1 rfl) hM hK rfl hl.1 rfl dX8_readsFolder_31 hcs (Nat.le_of_ble_eq_true rfl) ?_
    refine lv_istore_n (pc := 34) (lv' := [(3, .int (iI (fnS φ (μ16 15) 0))), (1, .long (iL (μ16 15))), (0, .ref (o 0))]) E.1 E.2 dX8_readsFolder_34 rfl hl (by decide) rfl (fun ls hl => ?_)
    refine lv_aload_n (pc := 35) E.1 E.2 dX8_readsFolder_35 rfl (lv_at hl 2 rfl) ?_
    refine g8_12 (pc := 36) E hts hin8 hown hK hM.1 (hts _ (List.mem_of_getElem? (i := 3) rfl)) dX8_readsFolder_36 ?_
    refine z_if_ne (pc := 39) (tgt := 51) E ⟨by omega, by omega⟩ dX8_readsFolder_39 (by decide) (fun h39 => ?_) (fun h39 => ?_)
    · exact z_retWv (P1 := fun H9 : Heap => ∃ (μ1 φ1 : Int → Int), W8 G o (mV o μ1) σ φ1 κ β ω H9 ∧ (KQ μ1 μ) ∧ (xFld β n φ c = 0 → μ1 12 = 0 ∧ TKw β n μ1 (cFld β n c) ∧ φ1 = fFld β n φ c) ∧ (¬ xFld β n φ c = 0 → μ1 12 = xFld β n φ c ∧ μ1 13 = pFld β n φ c ∧ (0 ≤ μ1 8 ∧ μ1 8 ≤ 900) ∧ (0 ≤ μ1 10 ∧ μ1 10 ≤ 3)) ∧ (-9223372036854775808 ≤ μ1 15 ∧ μ1 15 < 9223372036854775808)) E hr ⟨μ16, φ, hM, (kq_16.t (KQ.rf μ)), (fun z => absurd z (by (try unfold xFld); (try unfold pFld); omega)), (fun z => And.intro (by (try unfold xFld); (try unfold pFld); omega) (And.intro (by (try unfold xFld); (try unfold pFld); omega) (by omega))), (by omega)⟩ hS hlocks dX8_readsFolder_51
    · exact absurd h39 (by first | exact hw16 | exact fun q => hw16 q | omega)
set_option maxHeartbeats 1000000 in
set_option maxRecDepth 100000 in
theorem mX8_readsTag (lL : Launch) (G : GG) (o : Nat → Nat) (μ σ φ κ β ω : Int → Int) (n : Int) (c : Int) (hb : TX β) (hw : μ 12 = 0) (htk : TKw β n μ c) (hrw : -9223372036854775808 ≤ μ 15 ∧ μ 15 < 9223372036854775808) (hJ : In φ) : Met lL yX8_readsTag wsX8_readsTag ({ frames := 5, cells := 0, slots := 0, locals := 108 } : Room) (va_Pc [.ref (o 0)] (fun U => W8 G o (mV o μ) σ φ κ β ω U.heap ∧ KK G U)) (va_Qv (fun _ : Unit => True) (fun _ tZ => ∃ (μ1 φ1 : Int → Int), W8 G o (mV o μ1) σ φ1 κ β ω tZ.heap ∧ (KQ μ1 μ) ∧ (xTag β n φ c = 0 → μ1 12 = 0 ∧ TKw β n μ1 (Te β n (Te β n (Te β n c))) ∧ φ1 = fTag β n φ c) ∧ (¬ xTag β n φ c = 0 → μ1 12 = xTag β n φ c ∧ μ1 13 = pTag β n φ c ∧ (0 ≤ μ1 8 ∧ μ1 8 ≤ 900) ∧ (0 ≤ μ1 10 ∧ μ1 10 ≤ 3)) ∧ (-9223372036854775808 ≤ μ1 15 ∧ μ1 15 < 9223372036854775808)) (Ax o 6)) 0 0 (Ax o 6) := by
  refine z_met (P := (fun H : Heap => W8 G o (mV o μ) σ φ κ β ω H)) (by decide) rfl (Nat.le_of_ble_eq_true rfl) (fun pp ee ss mm below meth cC E hr hml hown hts hlocks hM hK ls hl => ?_)
  have hl : lv_has ls 3 [(0, .ref (o 0))] := hl
  have hcs : 0 ≤ (({ frames := 5, cells := 0, slots := 0, locals := 108 } : Room)).cells ∧ 0 ≤ (({ frames := 5, cells := 0, slots := 0, locals := 108 } : Room)).slots := ⟨Nat.zero_le _, Nat.zero_le _⟩
  have hS : va_S (Ax o 6) ss.heap ss.heap [] := va_S.rf
  have hin8 : ∀ w ∈ wsX80, w ∈ wsX8_readsTag := fun w h => List.mem_cons_of_mem _ (List.mem_append_right _ (h))
  have h7 := htk.n7
  have h9 := htk.be9
  have h8 := htk.at8
  have h10 := htk.ki10
  have hcn := htk.c0
  have hsn := htk.skb
  have htn := htk.teb
  have hkd := Kd_b β n c
  have hJF := hJ.F
  refine lv_aload_n (pc := 0) E.1 E.2 dX8_readsTag_0 rfl (lv_at hl 0 rfl) ?_
  refine z_iconst (pc := 1) E dX8_readsTag_1 ?_
  refine z_wVv (pc := 2) (P1 := fun H9 : Heap => ∃ (μ2 : Int → Int), W8 G o (mV o μ2) σ φ κ β ω H9 ∧ (KQ μ2 μ) ∧ (μ2 12 = 0) ∧ (TKw β n μ2 (Te β n c)) ∧ (-9223372036854775808 ≤ μ2 15 ∧ μ2 15 < 9223372036854775808)) (As := [.int (iI 1)]) (rest := []) E hml hown hts (mX8_mustTw lL G o μ σ φ κ β ω 1 n c hb (by omega) (by omega) (by assumption)) (cwV 1 hts gX8_readsTag_X8_must rfl rfl rfl vdX8_must ⟨Nat.le_of_ble_eq_true rfl, Nat.le_of_ble_eq_true rfl⟩) (oB.recv hK hM.1 rfl) hM hK hS (fun _ h => h) rfl hl.1 rfl dX8_readsTag_2 hcs (Nat.le_of_ble_eq_true rfl) (fun H locs hnew hsz hoth hS => ?_)
  obtain ⟨μ2, hM, kq_2, e2_2, tk_2, rw_2⟩ := hnew
  have h7t2 := tk_2.n7
  have h9t2 := tk_2.be9
  have h8t2 := tk_2.at8
  have h10t2 := tk_2.ki10
  have hct2 := tk_2.c0
  have hst2 := tk_2.skb
  have htt2 := tk_2.teb
  have hkt2 := Kd_b β n (Te β n c)
  have hnt2 := fun z : Kd β n (Te β n c) = 1 => tk_2.nu z
  have hnb2 : Kd β n (Te β n c) = 1 → (0 ≤ Nm β n (Te β n c) ∧ Nm β n (Te β n c) ≤ 9999999) := fun z => NmT_r (by omega) z
  refine lv_aload_n (pc := 5) E.1 E.2 dX8_readsTag_5 rfl (lv_at hl 0 rfl) ?_
  refine z_wVi (pc := 6) (P1 := fun H9 : Heap => ∃ (μ6 : Int → Int), W8 G o (mV o μ6) σ φ κ β ω H9 ∧ (KQ μ6 μ2) ∧ (RFol β n φ (Te β n c) = 0 → μ6 12 = 0 ∧ TKw β n μ6 (Te β n (Te β n c))) ∧ (¬ RFol β n φ (Te β n c) = 0 → μ6 12 = RFol β n φ (Te β n c) ∧ μ6 13 = Sk β n (Te β n c) ∧ (0 ≤ μ6 8 ∧ μ6 8 ≤ 900) ∧ (0 ≤ μ6 10 ∧ μ6 10 ≤ 3)) ∧ (-9223372036854775808 ≤ μ6 15 ∧ μ6 15 < 9223372036854775808)) (As := []) (rest := []) E hml hown hts (mX8_takesFolderZw lL G o μ2 σ φ κ β ω n (Te β n c) hb (by omega) (by assumption) (by omega) hJ) (cwV 0 hts gX8_readsTag_X8_takesFolder rfl rfl rfl vdX8_takesFolder ⟨Nat.le_of_ble_eq_true rfl, Nat.le_of_ble_eq_true rfl⟩) (oB.recv hK hM.1 rfl) hM hK hS (fun _ h => h) rfl hl.1 rfl dX8_readsTag_6 hcs (Nat.le_of_ble_eq_true rfl) (fun H locs hnew hsz hoth hS => ?_)
  obtain ⟨μ6, hM, kq_6, x_6, y_6, rw_6⟩ := hnew
  by_cases hs6 : RFol β n φ (Te β n c) = 0
  · have hw6 := (x_6 hs6).1
    have ht6 := (x_6 hs6).2
    have hq6 := RFol_0 hs6
    have hfr6 := fnS_r hJ (Wo β n (Te β n c))
    rw [show μ2 15 = Wo β n (Te β n c) from TKw.wo_ (by assumption) hq6.1]
    have h7t6 := ht6.n7
    have h9t6 := ht6.be9
    have h8t6 := ht6.at8
    have h10t6 := ht6.ki10
    have hct6 := ht6.c0
    have hst6 := ht6.skb
    have htt6 := ht6.teb
    have hkt6 := Kd_b β n (Te β n (Te β n c))
    have hnt6 := fun z : Kd β n (Te β n (Te β n c)) = 1 => ht6.nu z
    have hnb6 : Kd β n (Te β n (Te β n c)) = 1 → (0 ≤ Nm β n (Te β n (Te β n c)) ∧ Nm β n (Te β n (Te β n c)) ≤ 9999999) := fun z => NmT_r (by omega) z
    refine lv_istore_n (pc := 9) (lv' := [(1, .int (iI (fnS φ ((Wo β n (Te β n c))) 0))), (0, .ref (o 0))]) E.1 E.2 dX8_readsTag_9 rfl hl (by decide) rfl (fun ls hl => ?_)
    refine lv_aload_n (pc := 10) E.1 E.2 dX8_readsTag_10 rfl (lv_at hl 1 rfl) ?_
    refine z_iconst (pc := 11) E dX8_readsTag_11 ?_
    refine z_bipush (pc := 12) E (by decide) dX8_readsTag_12 ?_
    refine z_wVi (pc := 14) (P1 := fun H9 : Heap => ∃ (μ14 : Int → Int), W8 G o (mV o μ14) σ φ κ β ω H9 ∧ (KQ μ14 μ6) ∧ (RNum β n (Te β n (Te β n c)) 0 7 = 0 → μ14 12 = 0 ∧ TKw β n μ14 (Te β n (Te β n (Te β n c)))) ∧ (¬ RNum β n (Te β n (Te β n c)) 0 7 = 0 → μ14 12 = RNum β n (Te β n (Te β n c)) 0 7 ∧ μ14 13 = Sk β n (Te β n (Te β n c)) ∧ (0 ≤ μ14 8 ∧ μ14 8 ≤ 900) ∧ (0 ≤ μ14 10 ∧ μ14 10 ≤ 3)) ∧ (-9223372036854775808 ≤ μ14 15 ∧ μ14 15 < 9223372036854775808)) (As := [.int (iI 0), .int (iI 7)]) (rest := []) E hml hown hts (mX8_takesZw lL G o μ6 σ φ κ β ω 0 7 n (Te β n (Te β n c)) hb (by omega) (by omega) (by omega) (by assumption) (by omega)) (cwV 2 hts gX8_readsTag_X8_takes rfl rfl rfl vdX8_takes ⟨Nat.le_of_ble_eq_true rfl, Nat.le_of_ble_eq_true rfl⟩) (oB.recv hK hM.1 rfl) hM hK hS (fun _ h => h) rfl hl.1 rfl dX8_readsTag_14 hcs (Nat.le_of_ble_eq_true rfl) (fun H locs hnew hsz hoth hS => ?_)
    obtain ⟨μ14, hM, kq_14, x_14, y_14, rw_14⟩ := hnew
    by_cases hs14 : RNum β n (Te β n (Te β n c)) 0 7 = 0
    · have hw14 := (x_14 hs14).1
      have ht14 := (x_14 hs14).2
      have hq14 := RNum_0 hs14
      rw [if_pos hs14]
      have h7t14 := ht14.n7
      have h9t14 := ht14.be9
      have h8t14 := ht14.at8
      have h10t14 := ht14.ki10
      have hct14 := ht14.c0
      have hst14 := ht14.skb
      have htt14 := ht14.teb
      have hkt14 := Kd_b β n (Te β n (Te β n (Te β n c)))
      have hnt14 := fun z : Kd β n (Te β n (Te β n (Te β n c))) = 1 => ht14.nu z
      have hnb14 : Kd β n (Te β n (Te β n (Te β n c))) = 1 → (0 ≤ Nm β n (Te β n (Te β n (Te β n c))) ∧ Nm β n (Te β n (Te β n (Te β n c))) ≤ 9999999) := fun z => NmT_r (by omega) z
      refine lv_istore_n (pc := 17) (lv' := [(2, .int (iI (Nm β n (Te β n (Te β n c))))), (1, .int (iI (fnS φ ((Wo β n (Te β n c))) 0))), (0, .ref (o 0))]) E.1 E.2 dX8_readsTag_17 rfl hl (by decide) rfl (fun ls hl => ?_)
      refine lv_aload_n (pc := 18) E.1 E.2 dX8_readsTag_18 rfl (lv_at hl 2 rfl) ?_
      refine g8_12 (pc := 19) E hts hin8 hown hK hM.1 (hts _ (List.mem_of_getElem? (i := 1) rfl)) dX8_readsTag_19 ?_
      refine z_if_ne (pc := 22) (tgt := 36) E ⟨by omega, by omega⟩ dX8_readsTag_22 (by decide) (fun h22 => ?_) (fun h22 => ?_)
      · exact absurd h22 (by first | exact hw14 | exact fun q => hw14 q | omega)
      · refine lv_aload_n (pc := 25) E.1 E.2 dX8_readsTag_25 rfl (lv_at hl 2 rfl) ?_
        refine g8_1 (pc := 26) E hts hin8 hown hK hM.1 (hts _ (List.mem_of_getElem? (i := 2) rfl)) dX8_readsTag_26 ?_
        refine z_bipush (pc := 29) E (by decide) dX8_readsTag_29 ?_
        refine lv_iload_n (pc := 31) E.1 E.2 dX8_readsTag_31 rfl (lv_at hl 1 rfl) ?_
        refine z_iadd (pc := 32) E dX8_readsTag_32 ?_
        refine lv_iload_n (pc := 33) E.1 E.2 dX8_readsTag_33 rfl (lv_at hl 0 rfl) ?_
        refine z_i2l (pc := 34) E ⟨by omega, by omega⟩ dX8_readsTag_34 ?_
        refine z_lastore (pc := 35) E hK hM.2.2.1 hS (Ax.at 2 (by decide)) ⟨by omega, by omega⟩ (by decide) dX8_readsTag_35 (fun H locs hnew hoth hS => ?_)
        have hM := W8.a2 hM hnew (fun a _ h => hoth a h)
        exact z_retWv (P1 := fun H9 : Heap => ∃ (μ1 φ1 : Int → Int), W8 G o (mV o μ1) σ φ1 κ β ω H9 ∧ (KQ μ1 μ) ∧ (xTag β n φ c = 0 → μ1 12 = 0 ∧ TKw β n μ1 (Te β n (Te β n (Te β n c))) ∧ φ1 = fTag β n φ c) ∧ (¬ xTag β n φ c = 0 → μ1 12 = xTag β n φ c ∧ μ1 13 = pTag β n φ c ∧ (0 ≤ μ1 8 ∧ μ1 8 ≤ 900) ∧ (0 ≤ μ1 10 ∧ μ1 10 ≤ 3)) ∧ (-9223372036854775808 ≤ μ1 15 ∧ μ1 15 < 9223372036854775808)) E hr ⟨μ14, (zu φ (109 + (fnS φ ((Wo β n (Te β n c))) 0)) (Nm β n (Te β n (Te β n c)))), hM, (kq_14.t (kq_6.t (kq_2.t (KQ.rf μ)))), (fun _ => And.intro (by omega) (And.intro ht14 rfl)), (fun z => absurd (by (try unfold xTag); (try unfold pTag); omega) z), (by omega)⟩ hS hlocks dX8_readsTag_36
    have hy14 := y_14 hs14
    have hu14 := RNum_b β n (Te β n (Te β n c)) 0 7
    have hw14 : ¬ μ14 12 = 0 := by omega
    rw [if_neg hs14]
    refine lv_istore_n (pc := 17) (lv' := [(2, .int (iI 0)), (1, .int (iI (fnS φ ((Wo β n (Te β n c))) 0))), (0, .ref (o 0))]) E.1 E.2 dX8_readsTag_17 rfl hl (by decide) rfl (fun ls hl => ?_)
    refine lv_aload_n (pc := 18) E.1 E.2 dX8_readsTag_18 rfl (lv_at hl 2 rfl) ?_
    refine g8_12 (pc := 19) E hts hin8 hown hK hM.1 (hts _ (List.mem_of_getElem? (i := 1) rfl)) dX8_readsTag_19 ?_
    refine z_if_ne (pc := 22) (tgt := 36) E ⟨by omega, by omega⟩ dX8_readsTag_22 (by decide) (fun h22 => ?_) (fun h22 => ?_)
    · exact z_retWv (P1 := fun H9 : Heap => ∃ (μ1 φ1 : Int → Int), W8 G o (mV o μ1) σ φ1 κ β ω H9 ∧ (KQ μ1 μ) ∧ (xTag β n φ c = 0 → μ1 12 = 0 ∧ TKw β n μ1 (Te β n (Te β n (Te β n c))) ∧ φ1 = fTag β n φ c) ∧ (¬ xTag β n φ c = 0 → μ1 12 = xTag β n φ c ∧ μ1 13 = pTag β n φ c ∧ (0 ≤ μ1 8 ∧ μ1 8 ≤ 900) ∧ (0 ≤ μ1 10 ∧ μ1 10 ≤ 3)) ∧ (-9223372036854775808 ≤ μ1 15 ∧ μ1 15 < 9223372036854775808)) E hr ⟨μ14, φ, hM, (kq_14.t (kq_6.t (kq_2.t (KQ.rf μ)))), (fun z => absurd z (by (try unfold xTag); (try unfold pTag); omega)), (fun z => And.intro (by (try unfold xTag); (try unfold pTag); omega) (And.intro (by (try unfold xTag); (try unfold pTag); omega) (by omega))), (by omega)⟩ hS hlocks dX8_readsTag_36
    · exact absurd h22 (by first | exact hw14 | exact fun q => hw14 q | omega)
  have hy6 := y_6 hs6
  have hu6 := RFol_b β φ n (Te β n c)
  have hw6 : ¬ μ6 12 = 0 := by omega
  refine lv_istore_n (pc := 9) (lv' := [(1, .int (iI (fnS φ (μ2 15) 0))), (0, .ref (o 0))]) E.1 E.2 dX8_readsTag_9 rfl hl (by decide) rfl (fun ls hl => ?_)
  refine lv_aload_n (pc := 10) E.1 E.2 dX8_readsTag_10 rfl (lv_at hl 1 rfl) ?_
  refine z_iconst (pc := 11) E dX8_readsTag_11 ?_
  refine z_bipush (pc := 12) E (by decide) dX8_readsTag_12 ?_
  refine z_rVi (pc := 14) (As := [.int (iI 0), .int (iI 7)]) (rest := []) E hml hown hts (mX8_takesN lL G o μ6 σ φ κ β ω 0 7 (by omega) (by omega)) (cwV 2 hts gX8_readsTag_X8_takes rfl rfl rfl vdX8_takes ⟨Nat.le_of_ble_eq_true rfl, Nat.le_of_ble_eq_true rfl⟩) (oB.recv hK hM.1 rfl) hM hK rfl hl.1 rfl dX8_readsTag_14 hcs (Nat.le_of_ble_eq_true rfl) ?_
  refine lv_istore_n (pc := 17) (lv' := [(2, .int (iI 0)), (1, .int (iI (fnS φ (μ2 15) 0))), (0, .ref (o 0))]) E.1 E.2 dX8_readsTag_17 rfl hl (by decide) rfl (fun ls hl => ?_)
  refine lv_aload_n (pc := 18) E.1 E.2 dX8_readsTag_18 rfl (lv_at hl 2 rfl) ?_
  refine g8_12 (pc := 19) E hts hin8 hown hK hM.1 (hts _ (List.mem_of_getElem? (i := 1) rfl)) dX8_readsTag_19 ?_
  refine z_if_ne (pc := 22) (tgt := 36) E ⟨by omega, by omega⟩ dX8_readsTag_22 (by decide) (fun h22 => ?_) (fun h22 => ?_)
  · exact z_retWv (P1 := fun H9 : Heap => ∃ (μ1 φ1 : Int → Int), W8 G o (mV o μ1) σ φ1 κ β ω H9 ∧ (KQ μ1 μ) ∧ (xTag β n φ c = 0 → μ1 12 = 0 ∧ TKw β n μ1 (Te β n (Te β n (Te β n c))) ∧ φ1 = fTag β n φ c) ∧ (¬ xTag β n φ c = 0 → μ1 12 = xTag β n φ c ∧ μ1 13 = pTag β n φ c ∧ (0 ≤ μ1 8 ∧ μ1 8 ≤ 900) ∧ (0 ≤ μ1 10 ∧ μ1 10 ≤ 3)) ∧ (-9223372036854775808 ≤ μ1 15 ∧ μ1 15 < 9223372036854775808)) E hr ⟨μ6, φ, hM, (kq_6.t (kq_2.t (KQ.rf μ))), (fun z => absurd z (by (try unfold xTag); (try unfold pTag); omega)), (fun z => And.intro (by (try unfold xTag); (try unfold pTag); omega) (And.intro (by (try unfold xTag); (try unfold pTag); omega) (by omega))), (by omega)⟩ hS hlocks dX8_readsTag_36
  · exact absurd h22 (by first | exact hw6 | exact fun q => hw6 q | omega)
set_option maxHeartbeats 1000000 in
set_option maxRecDepth 100000 in
theorem mX8_readsFile (lL : Launch) (G : GG) (o : Nat → Nat) (μ σ φ κ β ω : Int → Int) (n : Int) (c : Int) (hb : TX β) (hw : μ 12 = 0) (htk : TKw β n μ c) (hrw : -9223372036854775808 ≤ μ 15 ∧ μ 15 < 9223372036854775808) (hJ : In φ) : Met lL yX8_readsFile wsX8_readsFile ({ frames := 5, cells := 0, slots := 0, locals := 108 } : Room) (va_Pc [.ref (o 0)] (fun U => W8 G o (mV o μ) σ φ κ β ω U.heap ∧ KK G U)) (va_Qv (fun _ : Unit => True) (fun _ tZ => ∃ (μ1 φ1 : Int → Int), W8 G o (mV o μ1) σ φ1 κ β ω tZ.heap ∧ (KQ μ1 μ) ∧ (xFil β n φ c = 0 → μ1 12 = 0 ∧ TKw β n μ1 (Te β n (Te β n (Te β n c))) ∧ φ1 = fFil β n φ c) ∧ (¬ xFil β n φ c = 0 → μ1 12 = xFil β n φ c ∧ μ1 13 = pFil β n φ c ∧ (0 ≤ μ1 8 ∧ μ1 8 ≤ 900) ∧ (0 ≤ μ1 10 ∧ μ1 10 ≤ 3)) ∧ (-9223372036854775808 ≤ μ1 15 ∧ μ1 15 < 9223372036854775808)) (Ax o 6)) 0 0 (Ax o 6) := by
  refine z_met (P := (fun H : Heap => W8 G o (mV o μ) σ φ κ β ω H)) (by decide) rfl (Nat.le_of_ble_eq_true rfl) (fun pp ee ss mm below meth cC E hr hml hown hts hlocks hM hK ls hl => ?_)
  have hl : lv_has ls 3 [(0, .ref (o 0))] := hl
  have hcs : 0 ≤ (({ frames := 5, cells := 0, slots := 0, locals := 108 } : Room)).cells ∧ 0 ≤ (({ frames := 5, cells := 0, slots := 0, locals := 108 } : Room)).slots := ⟨Nat.zero_le _, Nat.zero_le _⟩
  have hS : va_S (Ax o 6) ss.heap ss.heap [] := va_S.rf
  have hin8 : ∀ w ∈ wsX80, w ∈ wsX8_readsFile := fun w h => List.mem_cons_of_mem _ (List.mem_append_right _ (h))
  have h7 := htk.n7
  have h9 := htk.be9
  have h8 := htk.at8
  have h10 := htk.ki10
  have hcn := htk.c0
  have hsn := htk.skb
  have htn := htk.teb
  have hkd := Kd_b β n c
  have hJF := hJ.F
  have hJM := hJ.M
  refine lv_aload_n (pc := 0) E.1 E.2 dX8_readsFile_0 rfl (lv_at hl 0 rfl) ?_
  refine g8_1 (pc := 1) E hts hin8 hown hK hM.1 (hts _ (List.mem_of_getElem? (i := 1) rfl)) dX8_readsFile_1 ?_
  refine z_iconst (pc := 4) E dX8_readsFile_4 ?_
  refine z_laload (pc := 5) E hK hM.2.2.1 ⟨by omega, by omega⟩ (by decide) dX8_readsFile_5 ?_
  refine lv_ldc2 (pc := 6) (v := iL (60)) E.1 E.2 hown (show (Jvm.Cond.constantLong RX8 144 (iL (60))).before _ ss = true from (hts _ (List.mem_of_getElem? (i := 2) rfl))) dX8_readsFile_6 ?_
  refine z_lcmp_ne (pc := 9) (tgt := 19) E ⟨by omega, by omega⟩ (by decide) dX8_readsFile_9 dX8_readsFile_10 (by decide) (fun h9 => ?_) (fun h9 => ?_)
  · refine lv_aload_n (pc := 19) E.1 E.2 dX8_readsFile_19 rfl (lv_at hl 0 rfl) ?_
    refine z_iconst (pc := 20) E dX8_readsFile_20 ?_
    refine z_wVv (pc := 21) (P1 := fun H9 : Heap => ∃ (μ21 : Int → Int), W8 G o (mV o μ21) σ φ κ β ω H9 ∧ (KQ μ21 μ) ∧ (μ21 12 = 0) ∧ (TKw β n μ21 (Te β n c)) ∧ (-9223372036854775808 ≤ μ21 15 ∧ μ21 15 < 9223372036854775808)) (As := [.int (iI 1)]) (rest := []) E hml hown hts (mX8_mustTw lL G o μ σ φ κ β ω 1 n c hb (by omega) (by omega) (by assumption)) (cwV 1 hts gX8_readsFile_X8_must rfl rfl rfl vdX8_must ⟨Nat.le_of_ble_eq_true rfl, Nat.le_of_ble_eq_true rfl⟩) (oB.recv hK hM.1 rfl) hM hK hS (fun _ h => h) rfl hl.1 rfl dX8_readsFile_21 hcs (Nat.le_of_ble_eq_true rfl) (fun H locs hnew hsz hoth hS => ?_)
    obtain ⟨μ21, hM, kq_21, e2_21, tk_21, rw_21⟩ := hnew
    have h7t21 := tk_21.n7
    have h9t21 := tk_21.be9
    have h8t21 := tk_21.at8
    have h10t21 := tk_21.ki10
    have hct21 := tk_21.c0
    have hst21 := tk_21.skb
    have htt21 := tk_21.teb
    have hkt21 := Kd_b β n (Te β n c)
    have hnt21 := fun z : Kd β n (Te β n c) = 1 => tk_21.nu z
    have hnb21 : Kd β n (Te β n c) = 1 → (0 ≤ Nm β n (Te β n c) ∧ Nm β n (Te β n c) ≤ 9999999) := fun z => NmT_r (by omega) z
    refine lv_aload_n (pc := 24) E.1 E.2 dX8_readsFile_24 rfl (lv_at hl 0 rfl) ?_
    refine z_wVi (pc := 25) (P1 := fun H9 : Heap => ∃ (μ25 : Int → Int), W8 G o (mV o μ25) σ φ κ β ω H9 ∧ (KQ μ25 μ21) ∧ (RFol β n φ (Te β n c) = 0 → μ25 12 = 0 ∧ TKw β n μ25 (Te β n (Te β n c))) ∧ (¬ RFol β n φ (Te β n c) = 0 → μ25 12 = RFol β n φ (Te β n c) ∧ μ25 13 = Sk β n (Te β n c) ∧ (0 ≤ μ25 8 ∧ μ25 8 ≤ 900) ∧ (0 ≤ μ25 10 ∧ μ25 10 ≤ 3)) ∧ (-9223372036854775808 ≤ μ25 15 ∧ μ25 15 < 9223372036854775808)) (As := []) (rest := []) E hml hown hts (mX8_takesFolderZw lL G o μ21 σ φ κ β ω n (Te β n c) hb (by omega) (by assumption) (by omega) hJ) (cwV 0 hts gX8_readsFile_X8_takesFolder rfl rfl rfl vdX8_takesFolder ⟨Nat.le_of_ble_eq_true rfl, Nat.le_of_ble_eq_true rfl⟩) (oB.recv hK hM.1 rfl) hM hK hS (fun _ h => h) rfl hl.1 rfl dX8_readsFile_25 hcs (Nat.le_of_ble_eq_true rfl) (fun H locs hnew hsz hoth hS => ?_)
    obtain ⟨μ25, hM, kq_25, x_25, y_25, rw_25⟩ := hnew
    by_cases hs25 : RFol β n φ (Te β n c) = 0
    · have hw25 := (x_25 hs25).1
      have ht25 := (x_25 hs25).2
      have hq25 := RFol_0 hs25
      have hfr25 := fnS_r hJ (Wo β n (Te β n c))
      rw [show μ21 15 = Wo β n (Te β n c) from TKw.wo_ (by assumption) hq25.1]
      have h7t25 := ht25.n7
      have h9t25 := ht25.be9
      have h8t25 := ht25.at8
      have h10t25 := ht25.ki10
      have hct25 := ht25.c0
      have hst25 := ht25.skb
      have htt25 := ht25.teb
      have hkt25 := Kd_b β n (Te β n (Te β n c))
      have hnt25 := fun z : Kd β n (Te β n (Te β n c)) = 1 => ht25.nu z
      have hnb25 : Kd β n (Te β n (Te β n c)) = 1 → (0 ≤ Nm β n (Te β n (Te β n c)) ∧ Nm β n (Te β n (Te β n c)) ≤ 9999999) := fun z => NmT_r (by omega) z
      refine lv_istore_n (pc := 28) (lv' := [(1, .int (iI (fnS φ ((Wo β n (Te β n c))) 0))), (0, .ref (o 0))]) E.1 E.2 dX8_readsFile_28 rfl hl (by decide) rfl (fun ls hl => ?_)
      refine lv_aload_n (pc := 29) E.1 E.2 dX8_readsFile_29 rfl (lv_at hl 1 rfl) ?_
      refine z_iconst (pc := 30) E dX8_readsFile_30 ?_
      refine z_sipush (pc := 31) E (by decide) dX8_readsFile_31 ?_
      refine z_wVi (pc := 34) (P1 := fun H9 : Heap => ∃ (μ34 : Int → Int), W8 G o (mV o μ34) σ φ κ β ω H9 ∧ (KQ μ34 μ25) ∧ (RNum β n (Te β n (Te β n c)) 0 9999 = 0 → μ34 12 = 0 ∧ TKw β n μ34 (Te β n (Te β n (Te β n c)))) ∧ (¬ RNum β n (Te β n (Te β n c)) 0 9999 = 0 → μ34 12 = RNum β n (Te β n (Te β n c)) 0 9999 ∧ μ34 13 = Sk β n (Te β n (Te β n c)) ∧ (0 ≤ μ34 8 ∧ μ34 8 ≤ 900) ∧ (0 ≤ μ34 10 ∧ μ34 10 ≤ 3)) ∧ (-9223372036854775808 ≤ μ34 15 ∧ μ34 15 < 9223372036854775808)) (As := [.int (iI 0), .int (iI 9999)]) (rest := []) E hml hown hts (mX8_takesZw lL G o μ25 σ φ κ β ω 0 9999 n (Te β n (Te β n c)) hb (by omega) (by omega) (by omega) (by assumption) (by omega)) (cwV 2 hts gX8_readsFile_X8_takes rfl rfl rfl vdX8_takes ⟨Nat.le_of_ble_eq_true rfl, Nat.le_of_ble_eq_true rfl⟩) (oB.recv hK hM.1 rfl) hM hK hS (fun _ h => h) rfl hl.1 rfl dX8_readsFile_34 hcs (Nat.le_of_ble_eq_true rfl) (fun H locs hnew hsz hoth hS => ?_)
      obtain ⟨μ34, hM, kq_34, x_34, y_34, rw_34⟩ := hnew
      by_cases hs34 : RNum β n (Te β n (Te β n c)) 0 9999 = 0
      · have hw34 := (x_34 hs34).1
        have ht34 := (x_34 hs34).2
        have hq34 := RNum_0 hs34
        rw [if_pos hs34]
        have h7t34 := ht34.n7
        have h9t34 := ht34.be9
        have h8t34 := ht34.at8
        have h10t34 := ht34.ki10
        have hct34 := ht34.c0
        have hst34 := ht34.skb
        have htt34 := ht34.teb
        have hkt34 := Kd_b β n (Te β n (Te β n (Te β n c)))
        have hnt34 := fun z : Kd β n (Te β n (Te β n (Te β n c))) = 1 => ht34.nu z
        have hnb34 : Kd β n (Te β n (Te β n (Te β n c))) = 1 → (0 ≤ Nm β n (Te β n (Te β n (Te β n c))) ∧ Nm β n (Te β n (Te β n (Te β n c))) ≤ 9999999) := fun z => NmT_r (by omega) z
        refine lv_istore_n (pc := 37) (lv' := [(2, .int (iI (Nm β n (Te β n (Te β n c))))), (1, .int (iI (fnS φ ((Wo β n (Te β n c))) 0))), (0, .ref (o 0))]) E.1 E.2 dX8_readsFile_37 rfl hl (by decide) rfl (fun ls hl => ?_)
        refine lv_aload_n (pc := 38) E.1 E.2 dX8_readsFile_38 rfl (lv_at hl 2 rfl) ?_
        refine g8_12 (pc := 39) E hts hin8 hown hK hM.1 (hts _ (List.mem_of_getElem? (i := 3) rfl)) dX8_readsFile_39 ?_
        refine z_if_ne (pc := 42) (tgt := 54) E ⟨by omega, by omega⟩ dX8_readsFile_42 (by decide) (fun h42 => ?_) (fun h42 => ?_)
        · exact absurd h42 (by first | exact hw34 | exact fun q => hw34 q | omega)
        · refine lv_aload_n (pc := 45) E.1 E.2 dX8_readsFile_45 rfl (lv_at hl 2 rfl) ?_
          refine g8_1 (pc := 46) E hts hin8 hown hK hM.1 (hts _ (List.mem_of_getElem? (i := 1) rfl)) dX8_readsFile_46 ?_
          refine lv_iload_n (pc := 49) E.1 E.2 dX8_readsFile_49 rfl (lv_at hl 1 rfl) ?_
          refine lv_iload_n (pc := 50) E.1 E.2 dX8_readsFile_50 rfl (lv_at hl 0 rfl) ?_
          refine z_wSv (pc := 51) (As := [.ref (o 2), .int (iI (fnS φ ((Wo β n (Te β n c))) 0)), .int (iI (Nm β n (Te β n (Te β n c))))]) (rest := []) E hml hown hts (mX8_addsFile lL G (o 2) φ (fnS φ ((Wo β n (Te β n c))) 0) (Nm β n (Te β n (Te β n c))) (by omega) (by omega) (by omega)) (va_cwS 3 hts gX8_readsFile_X8_addsFile rfl rfl rfl vdX8_addsFile.2 ⟨Nat.le_of_ble_eq_true rfl, Nat.le_of_ble_eq_true rfl⟩) hM.2.2.1 hK hS (fun _ h => by rw [h]; exact Ax.at 2 (by decide)) rfl hl.1 rfl dX8_readsFile_51 hcs (Nat.le_of_ble_eq_true rfl) (fun H locs hnew hsz hoth hS => ?_)
          have hM := W8.a2 hM hnew hoth
          exact z_retWv (P1 := fun H9 : Heap => ∃ (μ1 φ1 : Int → Int), W8 G o (mV o μ1) σ φ1 κ β ω H9 ∧ (KQ μ1 μ) ∧ (xFil β n φ c = 0 → μ1 12 = 0 ∧ TKw β n μ1 (Te β n (Te β n (Te β n c))) ∧ φ1 = fFil β n φ c) ∧ (¬ xFil β n φ c = 0 → μ1 12 = xFil β n φ c ∧ μ1 13 = pFil β n φ c ∧ (0 ≤ μ1 8 ∧ μ1 8 ≤ 900) ∧ (0 ≤ μ1 10 ∧ μ1 10 ≤ 3)) ∧ (-9223372036854775808 ≤ μ1 15 ∧ μ1 15 < 9223372036854775808)) E hr ⟨μ34, (afF φ (fnS φ ((Wo β n (Te β n c))) 0) (Nm β n (Te β n (Te β n c)))), hM, (kq_34.t (kq_25.t (kq_21.t (KQ.rf μ)))), (fun _ => And.intro (by omega) (And.intro ht34 rfl)), (fun z => absurd (by (try unfold xFil); (try unfold pFil); omega) z), (by omega)⟩ hS hlocks dX8_readsFile_54
      have hy34 := y_34 hs34
      have hu34 := RNum_b β n (Te β n (Te β n c)) 0 9999
      have hw34 : ¬ μ34 12 = 0 := by omega
      rw [if_neg hs34]
      refine lv_istore_n (pc := 37) (lv' := [(2, .int (iI 0)), (1, .int (iI (fnS φ ((Wo β n (Te β n c))) 0))), (0, .ref (o 0))]) E.1 E.2 dX8_readsFile_37 rfl hl (by decide) rfl (fun ls hl => ?_)
      refine lv_aload_n (pc := 38) E.1 E.2 dX8_readsFile_38 rfl (lv_at hl 2 rfl) ?_
      refine g8_12 (pc := 39) E hts hin8 hown hK hM.1 (hts _ (List.mem_of_getElem? (i := 3) rfl)) dX8_readsFile_39 ?_
      refine z_if_ne (pc := 42) (tgt := 54) E ⟨by omega, by omega⟩ dX8_readsFile_42 (by decide) (fun h42 => ?_) (fun h42 => ?_)
      · exact z_retWv (P1 := fun H9 : Heap => ∃ (μ1 φ1 : Int → Int), W8 G o (mV o μ1) σ φ1 κ β ω H9 ∧ (KQ μ1 μ) ∧ (xFil β n φ c = 0 → μ1 12 = 0 ∧ TKw β n μ1 (Te β n (Te β n (Te β n c))) ∧ φ1 = fFil β n φ c) ∧ (¬ xFil β n φ c = 0 → μ1 12 = xFil β n φ c ∧ μ1 13 = pFil β n φ c ∧ (0 ≤ μ1 8 ∧ μ1 8 ≤ 900) ∧ (0 ≤ μ1 10 ∧ μ1 10 ≤ 3)) ∧ (-9223372036854775808 ≤ μ1 15 ∧ μ1 15 < 9223372036854775808)) E hr ⟨μ34, φ, hM, (kq_34.t (kq_25.t (kq_21.t (KQ.rf μ)))), (fun z => absurd z (by (try unfold xFil); (try unfold pFil); omega)), (fun z => And.intro (by (try unfold xFil); (try unfold pFil); omega) (And.intro (by (try unfold xFil); (try unfold pFil); omega) (by omega))), (by omega)⟩ hS hlocks dX8_readsFile_54
      · exact absurd h42 (by first | exact hw34 | exact fun q => hw34 q | omega)
    have hy25 := y_25 hs25
    have hu25 := RFol_b β φ n (Te β n c)
    have hw25 : ¬ μ25 12 = 0 := by omega
    refine lv_istore_n (pc := 28) (lv' := [(1, .int (iI (fnS φ (μ21 15) 0))), (0, .ref (o 0))]) E.1 E.2 dX8_readsFile_28 rfl hl (by decide) rfl (fun ls hl => ?_)
    refine lv_aload_n (pc := 29) E.1 E.2 dX8_readsFile_29 rfl (lv_at hl 1 rfl) ?_
    refine z_iconst (pc := 30) E dX8_readsFile_30 ?_
    refine z_sipush (pc := 31) E (by decide) dX8_readsFile_31 ?_
    refine z_rVi (pc := 34) (As := [.int (iI 0), .int (iI 9999)]) (rest := []) E hml hown hts (mX8_takesN lL G o μ25 σ φ κ β ω 0 9999 (by omega) (by omega)) (cwV 2 hts gX8_readsFile_X8_takes rfl rfl rfl vdX8_takes ⟨Nat.le_of_ble_eq_true rfl, Nat.le_of_ble_eq_true rfl⟩) (oB.recv hK hM.1 rfl) hM hK rfl hl.1 rfl dX8_readsFile_34 hcs (Nat.le_of_ble_eq_true rfl) ?_
    refine lv_istore_n (pc := 37) (lv' := [(2, .int (iI 0)), (1, .int (iI (fnS φ (μ21 15) 0))), (0, .ref (o 0))]) E.1 E.2 dX8_readsFile_37 rfl hl (by decide) rfl (fun ls hl => ?_)
    refine lv_aload_n (pc := 38) E.1 E.2 dX8_readsFile_38 rfl (lv_at hl 2 rfl) ?_
    refine g8_12 (pc := 39) E hts hin8 hown hK hM.1 (hts _ (List.mem_of_getElem? (i := 3) rfl)) dX8_readsFile_39 ?_
    refine z_if_ne (pc := 42) (tgt := 54) E ⟨by omega, by omega⟩ dX8_readsFile_42 (by decide) (fun h42 => ?_) (fun h42 => ?_)
    · exact z_retWv (P1 := fun H9 : Heap => ∃ (μ1 φ1 : Int → Int), W8 G o (mV o μ1) σ φ1 κ β ω H9 ∧ (KQ μ1 μ) ∧ (xFil β n φ c = 0 → μ1 12 = 0 ∧ TKw β n μ1 (Te β n (Te β n (Te β n c))) ∧ φ1 = fFil β n φ c) ∧ (¬ xFil β n φ c = 0 → μ1 12 = xFil β n φ c ∧ μ1 13 = pFil β n φ c ∧ (0 ≤ μ1 8 ∧ μ1 8 ≤ 900) ∧ (0 ≤ μ1 10 ∧ μ1 10 ≤ 3)) ∧ (-9223372036854775808 ≤ μ1 15 ∧ μ1 15 < 9223372036854775808)) E hr ⟨μ25, φ, hM, (kq_25.t (kq_21.t (KQ.rf μ))), (fun z => absurd z (by (try unfold xFil); (try unfold pFil); omega)), (fun z => And.intro (by (try unfold xFil); (try unfold pFil); omega) (And.intro (by (try unfold xFil); (try unfold pFil); omega) (by omega))), (by omega)⟩ hS hlocks dX8_readsFile_54
    · exact absurd h42 (by first | exact hw25 | exact fun q => hw25 q | omega)
  · refine lv_aload_n (pc := 13) E.1 E.2 dX8_readsFile_13 rfl (lv_at hl 0 rfl) ?_
    refine z_bipush (pc := 14) E (by decide) dX8_readsFile_14 ?_
    refine z_wVv (pc := 16) (P1 := fun H9 : Heap => ∃ (μ16 : Int → Int), W8 G o (mV o μ16) σ φ κ β ω H9 ∧ (KQ μ16 μ) ∧ (μ16 12 = (-4)) ∧ (μ16 13 = μ 8) ∧ (μ16 15 = μ 15) ∧ (μ16 8 = μ 8) ∧ (μ16 10 = μ 10)) (As := [.int (iI (-4))]) (rest := []) E hml hown hts (mX8_failsZ lL G o μ σ φ κ β ω (-4) (by decide) (by omega)) (cwV 1 hts gX8_readsFile_X8_fails rfl rfl rfl vdX8_fails ⟨Nat.le_of_ble_eq_true rfl, Nat.le_of_ble_eq_true rfl⟩) (oB.recv hK hM.1 rfl) hM hK hS (fun _ h => h) rfl hl.1 rfl dX8_readsFile_16 hcs (Nat.le_of_ble_eq_true rfl) (fun H locs hnew hsz hoth hS => ?_)
    obtain ⟨μ16, hM, kq_16, e2_16, e3_16, e5_16, e8_16, e10_16⟩ := hnew
    have hw16 : ¬ μ16 12 = 0 := by omega
    refine lv_aload_n (pc := 19) E.1 E.2 dX8_readsFile_19 rfl (lv_at hl 0 rfl) ?_
    refine z_iconst (pc := 20) E dX8_readsFile_20 ?_
    refine z_rVv (pc := 21) (As := [.int (iI 1)]) (rest := []) E hml hown hts (mX8_mustN lL G o μ16 σ φ κ β ω 1 (by omega) (by omega) (by omega)) (cwV 1 hts gX8_readsFile_X8_must rfl rfl rfl vdX8_must ⟨Nat.le_of_ble_eq_true rfl, Nat.le_of_ble_eq_true rfl⟩) (oB.recv hK hM.1 rfl) hM hK rfl hl.1 rfl dX8_readsFile_21 hcs (Nat.le_of_ble_eq_true rfl) ?_
    refine lv_aload_n (pc := 24) E.1 E.2 dX8_readsFile_24 rfl (lv_at hl 0 rfl) ?_
    refine z_rVi (pc := 25) (As := []) (rest := []) E hml hown hts (mX8_takesFolderN lL G o μ16 σ φ κ β ω  (by omega) (by omega) (by omega) hJ) (cwV 0 hts gX8_readsFile_X8_takesFolder rfl rfl rfl vdX8_takesFolder ⟨Nat.le_of_ble_eq_true rfl, Nat.le_of_ble_eq_true rfl⟩) (oB.recv hK hM.1 rfl) hM hK rfl hl.1 rfl dX8_readsFile_25 hcs (Nat.le_of_ble_eq_true rfl) ?_
    refine lv_istore_n (pc := 28) (lv' := [(1, .int (iI (fnS φ (μ16 15) 0))), (0, .ref (o 0))]) E.1 E.2 dX8_readsFile_28 rfl hl (by decide) rfl (fun ls hl => ?_)
    refine lv_aload_n (pc := 29) E.1 E.2 dX8_readsFile_29 rfl (lv_at hl 1 rfl) ?_
    refine z_iconst (pc := 30) E dX8_readsFile_30 ?_
    refine z_sipush (pc := 31) E (by decide) dX8_readsFile_31 ?_
    refine z_rVi (pc := 34) (As := [.int (iI 0), .int (iI 9999)]) (rest := []) E hml hown hts (mX8_takesN lL G o μ16 σ φ κ β ω 0 9999 (by omega) (by omega)) (cwV 2 hts gX8_readsFile_X8_takes rfl rfl rfl vdX8_takes ⟨Nat.le_of_ble_eq_true rfl, Nat.le_of_ble_eq_true rfl⟩) (oB.recv hK hM.1 rfl) hM hK rfl hl.1 rfl dX8_readsFile_34 hcs (Nat.le_of_ble_eq_true rfl) ?_
    refine lv_istore_n (pc := 37) (lv' := [(2, .int (iI 0)), (1, .int (iI (fnS φ (μ16 15) 0))), (0, .ref (o 0))]) E.1 E.2 dX8_readsFile_37 rfl hl (by decide) rfl (fun ls hl => ?_)
    refine lv_aload_n (pc := 38) E.1 E.2 dX8_readsFile_38 rfl (lv_at hl 2 rfl) ?_
    refine g8_12 (pc := 39) E hts hin8 hown hK hM.1 (hts _ (List.mem_of_getElem? (i := 3) rfl)) dX8_readsFile_39 ?_
    refine z_if_ne (pc := 42) (tgt := 54) E ⟨by omega, by omega⟩ dX8_readsFile_42 (by decide) (fun h42 => ?_) (fun h42 => ?_)
    · exact z_retWv (P1 := fun H9 : Heap => ∃ (μ1 φ1 : Int → Int), W8 G o (mV o μ1) σ φ1 κ β ω H9 ∧ (KQ μ1 μ) ∧ (xFil β n φ c = 0 → μ1 12 = 0 ∧ TKw β n μ1 (Te β n (Te β n (Te β n c))) ∧ φ1 = fFil β n φ c) ∧ (¬ xFil β n φ c = 0 → μ1 12 = xFil β n φ c ∧ μ1 13 = pFil β n φ c ∧ (0 ≤ μ1 8 ∧ μ1 8 ≤ 900) ∧ (0 ≤ μ1 10 ∧ μ1 10 ≤ 3)) ∧ (-9223372036854775808 ≤ μ1 15 ∧ μ1 15 < 9223372036854775808)) E hr ⟨μ16, φ, hM, (kq_16.t (KQ.rf μ)), (fun z => absurd z (by (try unfold xFil); (try unfold pFil); omega)), (fun z => And.intro (by (try unfold xFil); (try unfold pFil); omega) (And.intro (by (try unfold xFil); (try unfold pFil); omega) (by omega))), (by omega)⟩ hS hlocks dX8_readsFile_54
    · exact absurd h42 (by first | exact hw16 | exact fun q => hw16 q | omega)
