theorem vdX8_readsStatement : yX8_readsStatement.cls = RX8 ∧ yX8_readsStatement.cls ≠ "java/lang/invoke/MethodHandle" ∧ yX8_readsStatement.cls ≠ "java/lang/invoke/VarHandle" ∧ (parseMethodDescriptor yX8_readsStatement.desc).map (fun d => d.parameters.length) = some 0 := by decide +kernel
set_option maxHeartbeats 4000000 in
set_option maxRecDepth 100000 in
theorem mX8_readsStatement (lL : Launch) (G : GG) (o : Nat → Nat) (μ σ φ κ β ω : Int → Int) (n : Int) (c : Int) (aK aV : Nat → Nat) (hb : TX β) (hw : μ 12 = 0) (htk : TKw β n μ c) (hrw : -9223372036854775808 ≤ μ 15 ∧ μ 15 < 9223372036854775808) (hJ : In φ) : Met lL yX8_readsStatement wsX8_readsStatement ({ frames := 6, cells := 0, slots := 0, locals := 131 } : Room) (va_Pc [.ref (o 0)] (fun U => W8 G o (mV o μ) σ φ κ β ω U.heap ∧ KK G U ∧ KS aK aV (Ax o 6) U U.heap)) (va_Qv (fun _ : Unit => True) (fun _ tZ => ∃ (μ1 φ1 : Int → Int), W8 G o (mV o μ1) σ φ1 κ β ω tZ.heap ∧ (KQ μ1 μ) ∧ (stX β n φ c = 0 → μ1 12 = 0 ∧ TKw β n μ1 (stC β n c) ∧ φ1 = fSt β n φ c) ∧ (¬ stX β n φ c = 0 → μ1 12 = stX β n φ c ∧ μ1 13 = stP β n φ c ∧ (0 ≤ μ1 8 ∧ μ1 8 ≤ 900) ∧ (0 ≤ μ1 10 ∧ μ1 10 ≤ 3)) ∧ (-9223372036854775808 ≤ μ1 15 ∧ μ1 15 < 9223372036854775808)) (Ax o 6)) 0 0 (Ax o 6) := by
  refine z_metS (aK := aK) (aV := aV) (AK := (Ax o 6)) (P := (fun H : Heap => W8 G o (mV o μ) σ φ κ β ω H)) (by decide +kernel) rfl (Nat.le_of_ble_eq_true rfl) (fun pp ee ss mm below meth cC E hr hml hown hts hlocks hM hK ls hl => ?_)
  have hl : lv_has ls 1 [(0, .ref (o 0))] := hl
  have hcs : 0 ≤ (({ frames := 6, cells := 0, slots := 0, locals := 131 } : Room)).cells ∧ 0 ≤ (({ frames := 6, cells := 0, slots := 0, locals := 131 } : Room)).slots := ⟨Nat.zero_le _, Nat.zero_le _⟩
  have hKS := hK.2
  have hK := hK.1
  have hS : va_S (Ax o 6) ss.heap ss.heap [] := va_S.rf
  have hin8 : ∀ w ∈ wsX80, w ∈ wsX8_readsStatement := fun w h => List.mem_cons_of_mem _ (List.mem_append_right _ (h))
  have h7 := htk.n7
  have h9 := htk.be9
  have h8 := htk.at8
  have h10 := htk.ki10
  have hcn := htk.c0
  have hsn := htk.skb
  have htn := htk.teb
  have hkd := Kd_b β n c
  have hJF := hJ.F
  refine lv_aload_n (pc := 0) E.1 E.2 dX8_readsStatement_0 rfl (lv_at hl 0 rfl) ?_
  refine va_ldcS (pc := 1) E.1 E.2 hown hKS.2.2.2.1 dX8_readsStatement_1 ?_
  refine zs_rVi (pc := 3) (As := [.ref (aK 0)]) (rest := []) E hml hown hts (mX8_isWord lL G o μ σ φ κ β ω n c aK aV (Ax o 6) 0 (by decide) hb (by omega) htk) (cwV 1 hts gX8_readsStatement_X8_isWord rfl rfl rfl vdX8_isWord ⟨Nat.le_of_ble_eq_true rfl, Nat.le_of_ble_eq_true rfl⟩) (oB.recv hK hM.1 rfl) hM (And.intro hK hKS) rfl hl.1 rfl dX8_readsStatement_3 hcs (Nat.le_of_ble_eq_true rfl) ?_
  refine z_ifb_eq (pc := 6) (tgt := 31) E dX8_readsStatement_6 (by decide) (fun h6 => ?_) (fun h6 => ?_)
  · refine lv_aload_n (pc := 31) E.1 E.2 dX8_readsStatement_31 rfl (lv_at hl 0 rfl) ?_
    refine va_ldcS (pc := 32) E.1 E.2 hown hKS.2.2.2.2.1 dX8_readsStatement_32 ?_
    refine zs_rVi (pc := 34) (As := [.ref (aK 1)]) (rest := []) E hml hown hts (mX8_isWord lL G o μ σ φ κ β ω n c aK aV (Ax o 6) 1 (by decide) hb (by omega) htk) (cwV 1 hts gX8_readsStatement_X8_isWord rfl rfl rfl vdX8_isWord ⟨Nat.le_of_ble_eq_true rfl, Nat.le_of_ble_eq_true rfl⟩) (oB.recv hK hM.1 rfl) hM (And.intro hK hKS) rfl hl.1 rfl dX8_readsStatement_34 hcs (Nat.le_of_ble_eq_true rfl) ?_
    refine z_ifb_eq (pc := 37) (tgt := 47) E dX8_readsStatement_37 (by decide) (fun h37 => ?_) (fun h37 => ?_)
    · refine lv_aload_n (pc := 47) E.1 E.2 dX8_readsStatement_47 rfl (lv_at hl 0 rfl) ?_
      refine va_ldcS (pc := 48) E.1 E.2 hown hKS.2.2.2.2.2.1 dX8_readsStatement_48 ?_
      refine zs_rVi (pc := 50) (As := [.ref (aK 2)]) (rest := []) E hml hown hts (mX8_isWord lL G o μ σ φ κ β ω n c aK aV (Ax o 6) 2 (by decide) hb (by omega) htk) (cwV 1 hts gX8_readsStatement_X8_isWord rfl rfl rfl vdX8_isWord ⟨Nat.le_of_ble_eq_true rfl, Nat.le_of_ble_eq_true rfl⟩) (oB.recv hK hM.1 rfl) hM (And.intro hK hKS) rfl hl.1 rfl dX8_readsStatement_50 hcs (Nat.le_of_ble_eq_true rfl) ?_
      refine z_ifb_eq (pc := 53) (tgt := 63) E dX8_readsStatement_53 (by decide) (fun h53 => ?_) (fun h53 => ?_)
      · refine lv_aload_n (pc := 63) E.1 E.2 dX8_readsStatement_63 rfl (lv_at hl 0 rfl) ?_
        refine va_ldcS (pc := 64) E.1 E.2 hown hKS.2.2.2.2.2.2.1 dX8_readsStatement_64 ?_
        refine zs_rVi (pc := 66) (As := [.ref (aK 3)]) (rest := []) E hml hown hts (mX8_isWord lL G o μ σ φ κ β ω n c aK aV (Ax o 6) 3 (by decide) hb (by omega) htk) (cwV 1 hts gX8_readsStatement_X8_isWord rfl rfl rfl vdX8_isWord ⟨Nat.le_of_ble_eq_true rfl, Nat.le_of_ble_eq_true rfl⟩) (oB.recv hK hM.1 rfl) hM (And.intro hK hKS) rfl hl.1 rfl dX8_readsStatement_66 hcs (Nat.le_of_ble_eq_true rfl) ?_
        refine z_ifb_eq (pc := 69) (tgt := 79) E dX8_readsStatement_69 (by decide) (fun h69 => ?_) (fun h69 => ?_)
        · refine lv_aload_n (pc := 79) E.1 E.2 dX8_readsStatement_79 rfl (lv_at hl 0 rfl) ?_
          refine va_ldcS (pc := 80) E.1 E.2 hown hKS.2.2.2.2.2.2.2 dX8_readsStatement_80 ?_
          refine zs_rVi (pc := 82) (As := [.ref (aK 4)]) (rest := []) E hml hown hts (mX8_isWord lL G o μ σ φ κ β ω n c aK aV (Ax o 6) 4 (by decide) hb (by omega) htk) (cwV 1 hts gX8_readsStatement_X8_isWord rfl rfl rfl vdX8_isWord ⟨Nat.le_of_ble_eq_true rfl, Nat.le_of_ble_eq_true rfl⟩) (oB.recv hK hM.1 rfl) hM (And.intro hK hKS) rfl hl.1 rfl dX8_readsStatement_82 hcs (Nat.le_of_ble_eq_true rfl) ?_
          refine z_ifb_eq (pc := 85) (tgt := 95) E dX8_readsStatement_85 (by decide) (fun h85 => ?_) (fun h85 => ?_)
          · have eX : xSt β n φ c = -2 := by unfold xSt; rw [if_neg h6, if_neg h37, if_neg h53, if_neg h69, if_neg h85]
            have eP : pSt β n φ c = Sk β n c := by unfold pSt; rw [if_neg h6, if_neg h37, if_neg h53, if_neg h69, if_neg h85]
            refine lv_aload_n (pc := 95) E.1 E.2 dX8_readsStatement_95 rfl (lv_at hl 0 rfl) ?_
            refine z_bipush (pc := 96) E (by decide) dX8_readsStatement_96 ?_
            refine z_wVv (pc := 98) (P1 := fun H9 : Heap => ∃ (μ98 : Int → Int), W8 G o (mV o μ98) σ φ κ β ω H9 ∧ (KQ μ98 μ) ∧ (μ98 12 = (-2)) ∧ (μ98 13 = μ 8) ∧ (μ98 15 = μ 15) ∧ (μ98 8 = μ 8) ∧ (μ98 10 = μ 10)) (As := [.int (iI (-2))]) (rest := []) E hml hown hts (mX8_failsZ lL G o μ σ φ κ β ω (-2) (by decide) (by omega)) (cwV 1 hts gX8_readsStatement_X8_fails rfl rfl rfl vdX8_fails ⟨Nat.le_of_ble_eq_true rfl, Nat.le_of_ble_eq_true rfl⟩) (oB.recv hK hM.1 rfl) hM hK hS (fun _ h => h) rfl hl.1 rfl dX8_readsStatement_98 hcs (Nat.le_of_ble_eq_true rfl) (fun H locs hnew hsz hoth hS => ?_)
            obtain ⟨μ98, hM, kq_98, e2_98, e3_98, e5_98, e8_98, e10_98⟩ := hnew
            have hw98 : ¬ μ98 12 = 0 := by omega
            refine lv_aload_n (pc := 101) E.1 E.2 dX8_readsStatement_101 rfl (lv_at hl 0 rfl) ?_
            refine lv_aload_n (pc := 102) E.1 E.2 dX8_readsStatement_102 rfl (lv_at hl 0 rfl) ?_
            refine g8_10 (pc := 103) E hts hin8 hown hK hM.1 (hts _ (List.mem_of_getElem? (i := 2) rfl)) dX8_readsStatement_103 ?_
            refine z_iconst (pc := 106) E dX8_readsStatement_106 ?_
            refine z_icmp_ne (pc := 107) (tgt := 127) E ⟨by omega, by omega⟩ (by decide) dX8_readsStatement_107 (by decide) (fun h107 => ?_) (fun h107 => ?_)
            · refine z_iconst (pc := 127) E dX8_readsStatement_127 ?_
              refine z_rVv (pc := 128) (As := [.int (iI 0)]) (rest := []) E hml hown hts (mX8_mustN lL G o μ98 σ φ κ β ω 0 (by omega) (by omega) (by omega)) (cwV 1 hts gX8_readsStatement_X8_must rfl rfl rfl vdX8_must ⟨Nat.le_of_ble_eq_true rfl, Nat.le_of_ble_eq_true rfl⟩) (oB.recv hK hM.1 rfl) hM hK rfl hl.1 rfl dX8_readsStatement_128 hcs (Nat.le_of_ble_eq_true rfl) ?_
              exact z_retWv (P1 := fun H9 : Heap => ∃ (μ1 φ1 : Int → Int), W8 G o (mV o μ1) σ φ1 κ β ω H9 ∧ (KQ μ1 μ) ∧ (stX β n φ c = 0 → μ1 12 = 0 ∧ TKw β n μ1 (stC β n c) ∧ φ1 = fSt β n φ c) ∧ (¬ stX β n φ c = 0 → μ1 12 = stX β n φ c ∧ μ1 13 = stP β n φ c ∧ (0 ≤ μ1 8 ∧ μ1 8 ≤ 900) ∧ (0 ≤ μ1 10 ∧ μ1 10 ≤ 3)) ∧ (-9223372036854775808 ≤ μ1 15 ∧ μ1 15 < 9223372036854775808)) E hr ⟨μ98, φ, hM, (kq_98.t (KQ.rf μ)), (fun z => absurd z (by unfold stX; omega)), (fun z => And.intro (by unfold stX; omega) (And.intro (by unfold stP; omega) (by omega))), (by omega)⟩ hS hlocks dX8_readsStatement_131
            · have h7q : μ98 7 = μ 7 := ((kq_98.t (KQ.rf μ))).2.2.2.1
              refine lv_aload_n (pc := 110) E.1 E.2 dX8_readsStatement_110 rfl (lv_at hl 0 rfl) ?_
              refine lv_aload_n (pc := 111) E.1 E.2 dX8_readsStatement_111 rfl (lv_at hl 0 rfl) ?_
              refine g8_8 (pc := 112) E hts hin8 hown hK hM.1 (hts _ (List.mem_of_getElem? (i := 3) rfl)) dX8_readsStatement_112 ?_
              refine z_rVi (pc := 115) (As := [.int (iI (μ98 8))]) (rest := [.ref (o 0)]) E hml hown hts (mX8_see lL G o μ98 σ φ κ β ω (μ98 8) (by omega) (by omega) (by omega)) (cwV 1 hts gX8_readsStatement_X8_see rfl rfl rfl vdX8_see ⟨Nat.le_of_ble_eq_true rfl, Nat.le_of_ble_eq_true rfl⟩) (oB.recv hK hM.1 rfl) hM hK rfl hl.1 rfl dX8_readsStatement_115 hcs (Nat.le_of_ble_eq_true rfl) ?_
              have hv115 := see_v β (μ98 7) (μ98 8)
              have hb115 := see_b (n := μ98 7) (k := μ98 8) hb (by omega) (by omega)
              refine z_bipush (pc := 118) E (by decide) dX8_readsStatement_118 ?_
              refine z_icmp_ne (pc := 120) (tgt := 127) E ⟨by omega, by omega⟩ (by decide) dX8_readsStatement_120 (by decide) (fun h120 => ?_) (fun h120 => ?_)
              · refine z_iconst (pc := 127) E dX8_readsStatement_127 ?_
                refine z_rVv (pc := 128) (As := [.int (iI 0)]) (rest := []) E hml hown hts (mX8_mustN lL G o μ98 σ φ κ β ω 0 (by omega) (by omega) (by omega)) (cwV 1 hts gX8_readsStatement_X8_must rfl rfl rfl vdX8_must ⟨Nat.le_of_ble_eq_true rfl, Nat.le_of_ble_eq_true rfl⟩) (oB.recv hK hM.1 rfl) hM hK rfl hl.1 rfl dX8_readsStatement_128 hcs (Nat.le_of_ble_eq_true rfl) ?_
                exact z_retWv (P1 := fun H9 : Heap => ∃ (μ1 φ1 : Int → Int), W8 G o (mV o μ1) σ φ1 κ β ω H9 ∧ (KQ μ1 μ) ∧ (stX β n φ c = 0 → μ1 12 = 0 ∧ TKw β n μ1 (stC β n c) ∧ φ1 = fSt β n φ c) ∧ (¬ stX β n φ c = 0 → μ1 12 = stX β n φ c ∧ μ1 13 = stP β n φ c ∧ (0 ≤ μ1 8 ∧ μ1 8 ≤ 900) ∧ (0 ≤ μ1 10 ∧ μ1 10 ≤ 3)) ∧ (-9223372036854775808 ≤ μ1 15 ∧ μ1 15 < 9223372036854775808)) E hr ⟨μ98, φ, hM, (kq_98.t (KQ.rf μ)), (fun z => absurd z (by unfold stX; omega)), (fun z => And.intro (by unfold stX; omega) (And.intro (by unfold stP; omega) (by omega))), (by omega)⟩ hS hlocks dX8_readsStatement_131
              · refine z_iconst (pc := 123) E dX8_readsStatement_123 ?_
                refine lv_goto (pc := 124) (tgt := 128) E.1 E.2 dX8_readsStatement_124 (by decide) ?_
                refine z_rVv (pc := 128) (As := [.int (iI 1)]) (rest := []) E hml hown hts (mX8_mustN lL G o μ98 σ φ κ β ω 1 (by omega) (by omega) (by omega)) (cwV 1 hts gX8_readsStatement_X8_must rfl rfl rfl vdX8_must ⟨Nat.le_of_ble_eq_true rfl, Nat.le_of_ble_eq_true rfl⟩) (oB.recv hK hM.1 rfl) hM hK rfl hl.1 rfl dX8_readsStatement_128 hcs (Nat.le_of_ble_eq_true rfl) ?_
                exact z_retWv (P1 := fun H9 : Heap => ∃ (μ1 φ1 : Int → Int), W8 G o (mV o μ1) σ φ1 κ β ω H9 ∧ (KQ μ1 μ) ∧ (stX β n φ c = 0 → μ1 12 = 0 ∧ TKw β n μ1 (stC β n c) ∧ φ1 = fSt β n φ c) ∧ (¬ stX β n φ c = 0 → μ1 12 = stX β n φ c ∧ μ1 13 = stP β n φ c ∧ (0 ≤ μ1 8 ∧ μ1 8 ≤ 900) ∧ (0 ≤ μ1 10 ∧ μ1 10 ≤ 3)) ∧ (-9223372036854775808 ≤ μ1 15 ∧ μ1 15 < 9223372036854775808)) E hr ⟨μ98, φ, hM, (kq_98.t (KQ.rf μ)), (fun z => absurd z (by unfold stX; omega)), (fun z => And.intro (by unfold stX; omega) (And.intro (by unfold stP; omega) (by omega))), (by omega)⟩ hS hlocks dX8_readsStatement_131
          · have eX : xSt β n φ c = xFil β n φ c := by unfold xSt; rw [if_neg h6, if_neg h37, if_neg h53, if_neg h69, if_pos h85]
            have eP : pSt β n φ c = pFil β n φ c := by unfold pSt; rw [if_neg h6, if_neg h37, if_neg h53, if_neg h69, if_pos h85]
            have eC : cSt β n c = Te β n (Te β n (Te β n c)) := by unfold cSt; rw [if_neg h6, if_neg h37]
            have eF : fSt β n φ c = fFil β n φ c := by unfold fSt; rw [if_neg h6, if_neg h37, if_neg h53, if_neg h69]
            refine lv_aload_n (pc := 88) E.1 E.2 dX8_readsStatement_88 rfl (lv_at hl 0 rfl) ?_
            refine z_wVv (pc := 89) (P1 := fun H9 : Heap => ∃ (μ89 φ89 : Int → Int), W8 G o (mV o μ89) σ φ89 κ β ω H9 ∧ (KQ μ89 μ) ∧ (xFil β n φ c = 0 → μ89 12 = 0 ∧ TKw β n μ89 (Te β n (Te β n (Te β n c))) ∧ φ89 = fFil β n φ c) ∧ (¬ xFil β n φ c = 0 → μ89 12 = xFil β n φ c ∧ μ89 13 = pFil β n φ c ∧ (0 ≤ μ89 8 ∧ μ89 8 ≤ 900) ∧ (0 ≤ μ89 10 ∧ μ89 10 ≤ 3)) ∧ (-9223372036854775808 ≤ μ89 15 ∧ μ89 15 < 9223372036854775808)) (As := []) (rest := []) E hml hown hts (mX8_readsFile lL G o μ σ φ κ β ω n c hb (by omega) (by assumption) (by omega) hJ) (cwV 0 hts gX8_readsStatement_X8_readsFile rfl rfl rfl vdX8_readsFile ⟨Nat.le_of_ble_eq_true rfl, Nat.le_of_ble_eq_true rfl⟩) (oB.recv hK hM.1 rfl) hM hK hS (fun _ h => h) rfl hl.1 rfl dX8_readsStatement_89 hcs (Nat.le_of_ble_eq_true rfl) (fun H locs hnew hsz hoth hS => ?_)
            obtain ⟨μ89, φ89, hM, kq_89, x_89, y_89, rw_89⟩ := hnew
            by_cases hs89 : xFil β n φ c = 0
            · have hw89 := (x_89 hs89).1
              have ht89 := (x_89 hs89).2.1
              have hf89 := (x_89 hs89).2.2
              have h7t89 := ht89.n7
              have h9t89 := ht89.be9
              have h8t89 := ht89.at8
              have h10t89 := ht89.ki10
              have hct89 := ht89.c0
              have hst89 := ht89.skb
              have htt89 := ht89.teb
              have hkt89 := Kd_b β n (Te β n (Te β n (Te β n c)))
              have hnt89 := fun z : Kd β n (Te β n (Te β n (Te β n c))) = 1 => ht89.nu z
              have hnb89 : Kd β n (Te β n (Te β n (Te β n c))) = 1 → (0 ≤ Nm β n (Te β n (Te β n (Te β n c))) ∧ Nm β n (Te β n (Te β n (Te β n c))) ≤ 9999999) := fun z => NmT_r (by omega) z
              refine lv_goto (pc := 92) (tgt := 101) E.1 E.2 dX8_readsStatement_92 (by decide) ?_
              refine lv_aload_n (pc := 101) E.1 E.2 dX8_readsStatement_101 rfl (lv_at hl 0 rfl) ?_
              refine lv_aload_n (pc := 102) E.1 E.2 dX8_readsStatement_102 rfl (lv_at hl 0 rfl) ?_
              refine g8_10 (pc := 103) E hts hin8 hown hK hM.1 (hts _ (List.mem_of_getElem? (i := 2) rfl)) dX8_readsStatement_103 ?_
              refine z_iconst (pc := 106) E dX8_readsStatement_106 ?_
              refine z_icmp_ne (pc := 107) (tgt := 127) E ⟨by omega, by omega⟩ (by decide) dX8_readsStatement_107 (by decide) (fun h107 => ?_) (fun h107 => ?_)
              · refine z_iconst (pc := 127) E dX8_readsStatement_127 ?_
                have hbs : β (μ89 8) = β (Sk β n (Te β n (Te β n (Te β n c)))) := by rw [(ht89).at8]
                have hse : Sk β n (cSt β n c) = Sk β n (Te β n (Te β n (Te β n c))) := by rw [eC]
                have hk3 := Kd_3 (b := β) (n := n) (c := (Te β n (Te β n (Te β n c))))
                have hre : REnd β n (cSt β n c) = -2 := by rw [eC]; exact REnd_n (fun z => by omega)
                refine z_wVv (pc := 128) (P1 := fun H9 : Heap => ∃ (μ128 : Int → Int), W8 G o (mV o μ128) σ φ89 κ β ω H9 ∧ (KQ μ128 μ89) ∧ (μ128 12 = -2) ∧ (μ128 13 = Sk β n (Te β n (Te β n (Te β n c)))) ∧ (μ128 15 = μ89 15) ∧ (μ128 8 = μ89 8) ∧ (μ128 10 = μ89 10)) (As := [.int (iI 0)]) (rest := []) E hml hown hts (mX8_mustFw lL G o μ89 σ φ89 κ β ω 0 n (Te β n (Te β n (Te β n c))) hb (by omega) (by omega) (by assumption)) (cwV 1 hts gX8_readsStatement_X8_must rfl rfl rfl vdX8_must ⟨Nat.le_of_ble_eq_true rfl, Nat.le_of_ble_eq_true rfl⟩) (oB.recv hK hM.1 rfl) hM hK hS (fun _ h => h) rfl hl.1 rfl dX8_readsStatement_128 hcs (Nat.le_of_ble_eq_true rfl) (fun H locs hnew hsz hoth hS => ?_)
                obtain ⟨μ128, hM, kq_128, e2_128, e3_128, e5_128, e8_128, e10_128⟩ := hnew
                have hw128 : ¬ μ128 12 = 0 := by omega
                exact z_retWv (P1 := fun H9 : Heap => ∃ (μ1 φ1 : Int → Int), W8 G o (mV o μ1) σ φ1 κ β ω H9 ∧ (KQ μ1 μ) ∧ (stX β n φ c = 0 → μ1 12 = 0 ∧ TKw β n μ1 (stC β n c) ∧ φ1 = fSt β n φ c) ∧ (¬ stX β n φ c = 0 → μ1 12 = stX β n φ c ∧ μ1 13 = stP β n φ c ∧ (0 ≤ μ1 8 ∧ μ1 8 ≤ 900) ∧ (0 ≤ μ1 10 ∧ μ1 10 ≤ 3)) ∧ (-9223372036854775808 ≤ μ1 15 ∧ μ1 15 < 9223372036854775808)) E hr ⟨μ128, φ89, hM, (kq_128.t (kq_89.t (KQ.rf μ))), (fun z => absurd z (by unfold stX; omega)), (fun z => And.intro (by unfold stX; omega) (And.intro (by unfold stP; omega) (by omega))), (by omega)⟩ hS hlocks dX8_readsStatement_131
              · have h7q : μ89 7 = μ 7 := ((kq_89.t (KQ.rf μ))).2.2.2.1
                refine lv_aload_n (pc := 110) E.1 E.2 dX8_readsStatement_110 rfl (lv_at hl 0 rfl) ?_
                refine lv_aload_n (pc := 111) E.1 E.2 dX8_readsStatement_111 rfl (lv_at hl 0 rfl) ?_
                refine g8_8 (pc := 112) E hts hin8 hown hK hM.1 (hts _ (List.mem_of_getElem? (i := 3) rfl)) dX8_readsStatement_112 ?_
                refine z_rVi (pc := 115) (As := [.int (iI (μ89 8))]) (rest := [.ref (o 0)]) E hml hown hts (mX8_see lL G o μ89 σ φ89 κ β ω (μ89 8) (by omega) (by omega) (by omega)) (cwV 1 hts gX8_readsStatement_X8_see rfl rfl rfl vdX8_see ⟨Nat.le_of_ble_eq_true rfl, Nat.le_of_ble_eq_true rfl⟩) (oB.recv hK hM.1 rfl) hM hK rfl hl.1 rfl dX8_readsStatement_115 hcs (Nat.le_of_ble_eq_true rfl) ?_
                have hv115 := see_v β (μ89 7) (μ89 8)
                have hb115 := see_b (n := μ89 7) (k := μ89 8) hb (by omega) (by omega)
                refine z_bipush (pc := 118) E (by decide) dX8_readsStatement_118 ?_
                refine z_icmp_ne (pc := 120) (tgt := 127) E ⟨by omega, by omega⟩ (by decide) dX8_readsStatement_120 (by decide) (fun h120 => ?_) (fun h120 => ?_)
                · refine z_iconst (pc := 127) E dX8_readsStatement_127 ?_
                  have hbs : β (μ89 8) = β (Sk β n (Te β n (Te β n (Te β n c)))) := by rw [(ht89).at8]
                  have hse : Sk β n (cSt β n c) = Sk β n (Te β n (Te β n (Te β n c))) := by rw [eC]
                  have hk3 := Kd_3 (b := β) (n := n) (c := (Te β n (Te β n (Te β n c))))
                  have hre : REnd β n (cSt β n c) = -2 := by rw [eC]; exact REnd_n (fun z => by omega)
                  refine z_wVv (pc := 128) (P1 := fun H9 : Heap => ∃ (μ128 : Int → Int), W8 G o (mV o μ128) σ φ89 κ β ω H9 ∧ (KQ μ128 μ89) ∧ (μ128 12 = -2) ∧ (μ128 13 = Sk β n (Te β n (Te β n (Te β n c)))) ∧ (μ128 15 = μ89 15) ∧ (μ128 8 = μ89 8) ∧ (μ128 10 = μ89 10)) (As := [.int (iI 0)]) (rest := []) E hml hown hts (mX8_mustFw lL G o μ89 σ φ89 κ β ω 0 n (Te β n (Te β n (Te β n c))) hb (by omega) (by omega) (by assumption)) (cwV 1 hts gX8_readsStatement_X8_must rfl rfl rfl vdX8_must ⟨Nat.le_of_ble_eq_true rfl, Nat.le_of_ble_eq_true rfl⟩) (oB.recv hK hM.1 rfl) hM hK hS (fun _ h => h) rfl hl.1 rfl dX8_readsStatement_128 hcs (Nat.le_of_ble_eq_true rfl) (fun H locs hnew hsz hoth hS => ?_)
                  obtain ⟨μ128, hM, kq_128, e2_128, e3_128, e5_128, e8_128, e10_128⟩ := hnew
                  have hw128 : ¬ μ128 12 = 0 := by omega
                  exact z_retWv (P1 := fun H9 : Heap => ∃ (μ1 φ1 : Int → Int), W8 G o (mV o μ1) σ φ1 κ β ω H9 ∧ (KQ μ1 μ) ∧ (stX β n φ c = 0 → μ1 12 = 0 ∧ TKw β n μ1 (stC β n c) ∧ φ1 = fSt β n φ c) ∧ (¬ stX β n φ c = 0 → μ1 12 = stX β n φ c ∧ μ1 13 = stP β n φ c ∧ (0 ≤ μ1 8 ∧ μ1 8 ≤ 900) ∧ (0 ≤ μ1 10 ∧ μ1 10 ≤ 3)) ∧ (-9223372036854775808 ≤ μ1 15 ∧ μ1 15 < 9223372036854775808)) E hr ⟨μ128, φ89, hM, (kq_128.t (kq_89.t (KQ.rf μ))), (fun z => absurd z (by unfold stX; omega)), (fun z => And.intro (by unfold stX; omega) (And.intro (by unfold stP; omega) (by omega))), (by omega)⟩ hS hlocks dX8_readsStatement_131
                · refine z_iconst (pc := 123) E dX8_readsStatement_123 ?_
                  refine lv_goto (pc := 124) (tgt := 128) E.1 E.2 dX8_readsStatement_124 (by decide) ?_
                  have hbs : β (μ89 8) = β (Sk β n (Te β n (Te β n (Te β n c)))) := by rw [(ht89).at8]
                  have hse : Sk β n (cSt β n c) = Sk β n (Te β n (Te β n (Te β n c))) := by rw [eC]
                  have hk3 := Kd_3 (b := β) (n := n) (c := (Te β n (Te β n (Te β n c))))
                  have hre : REnd β n (cSt β n c) = 0 := by rw [eC]; exact REnd_y ⟨by omega, by omega⟩
                  refine z_wVv (pc := 128) (P1 := fun H9 : Heap => ∃ (μ128 : Int → Int), W8 G o (mV o μ128) σ φ89 κ β ω H9 ∧ (KQ μ128 μ89) ∧ (μ128 12 = 0) ∧ (TKw β n μ128 (Te β n (Te β n (Te β n (Te β n c))))) ∧ (-9223372036854775808 ≤ μ128 15 ∧ μ128 15 < 9223372036854775808)) (As := [.int (iI 1)]) (rest := []) E hml hown hts (mX8_mustTw lL G o μ89 σ φ89 κ β ω 1 n (Te β n (Te β n (Te β n c))) hb (by omega) (by omega) (by assumption)) (cwV 1 hts gX8_readsStatement_X8_must rfl rfl rfl vdX8_must ⟨Nat.le_of_ble_eq_true rfl, Nat.le_of_ble_eq_true rfl⟩) (oB.recv hK hM.1 rfl) hM hK hS (fun _ h => h) rfl hl.1 rfl dX8_readsStatement_128 hcs (Nat.le_of_ble_eq_true rfl) (fun H locs hnew hsz hoth hS => ?_)
                  obtain ⟨μ128, hM, kq_128, e2_128, tk_128, rw_128⟩ := hnew
                  have h7t128 := tk_128.n7
                  have h9t128 := tk_128.be9
                  have h8t128 := tk_128.at8
                  have h10t128 := tk_128.ki10
                  have hct128 := tk_128.c0
                  have hst128 := tk_128.skb
                  have htt128 := tk_128.teb
                  have hkt128 := Kd_b β n (Te β n (Te β n (Te β n (Te β n c))))
                  have hnt128 := fun z : Kd β n (Te β n (Te β n (Te β n (Te β n c)))) = 1 => tk_128.nu z
                  have hnb128 : Kd β n (Te β n (Te β n (Te β n (Te β n c)))) = 1 → (0 ≤ Nm β n (Te β n (Te β n (Te β n (Te β n c)))) ∧ Nm β n (Te β n (Te β n (Te β n (Te β n c)))) ≤ 9999999) := fun z => NmT_r (by omega) z
                  exact z_retWv (P1 := fun H9 : Heap => ∃ (μ1 φ1 : Int → Int), W8 G o (mV o μ1) σ φ1 κ β ω H9 ∧ (KQ μ1 μ) ∧ (stX β n φ c = 0 → μ1 12 = 0 ∧ TKw β n μ1 (stC β n c) ∧ φ1 = fSt β n φ c) ∧ (¬ stX β n φ c = 0 → μ1 12 = stX β n φ c ∧ μ1 13 = stP β n φ c ∧ (0 ≤ μ1 8 ∧ μ1 8 ≤ 900) ∧ (0 ≤ μ1 10 ∧ μ1 10 ≤ 3)) ∧ (-9223372036854775808 ≤ μ1 15 ∧ μ1 15 < 9223372036854775808)) E hr ⟨μ128, φ89, hM, (kq_128.t (kq_89.t (KQ.rf μ))), (fun _ => And.intro (by omega) (And.intro (by unfold stC; rw [eC]; exact tk_128) (by first | (rw [eF]; done) | (rw [eF]; assumption)))), (fun z => absurd (by unfold stX; omega) z), (by omega)⟩ hS hlocks dX8_readsStatement_131
            have hy89 := y_89 hs89
            have hu89 := xFil_b β φ n c
            have hw89 : ¬ μ89 12 = 0 := fun z => hs89 (hy89.1.symm.trans z)
            refine lv_goto (pc := 92) (tgt := 101) E.1 E.2 dX8_readsStatement_92 (by decide) ?_
            refine lv_aload_n (pc := 101) E.1 E.2 dX8_readsStatement_101 rfl (lv_at hl 0 rfl) ?_
            refine lv_aload_n (pc := 102) E.1 E.2 dX8_readsStatement_102 rfl (lv_at hl 0 rfl) ?_
            refine g8_10 (pc := 103) E hts hin8 hown hK hM.1 (hts _ (List.mem_of_getElem? (i := 2) rfl)) dX8_readsStatement_103 ?_
            refine z_iconst (pc := 106) E dX8_readsStatement_106 ?_
            refine z_icmp_ne (pc := 107) (tgt := 127) E ⟨by omega, by omega⟩ (by decide) dX8_readsStatement_107 (by decide) (fun h107 => ?_) (fun h107 => ?_)
            · refine z_iconst (pc := 127) E dX8_readsStatement_127 ?_
              refine z_rVv (pc := 128) (As := [.int (iI 0)]) (rest := []) E hml hown hts (mX8_mustN lL G o μ89 σ φ89 κ β ω 0 (by omega) (by omega) (by omega)) (cwV 1 hts gX8_readsStatement_X8_must rfl rfl rfl vdX8_must ⟨Nat.le_of_ble_eq_true rfl, Nat.le_of_ble_eq_true rfl⟩) (oB.recv hK hM.1 rfl) hM hK rfl hl.1 rfl dX8_readsStatement_128 hcs (Nat.le_of_ble_eq_true rfl) ?_
              exact z_retWv (P1 := fun H9 : Heap => ∃ (μ1 φ1 : Int → Int), W8 G o (mV o μ1) σ φ1 κ β ω H9 ∧ (KQ μ1 μ) ∧ (stX β n φ c = 0 → μ1 12 = 0 ∧ TKw β n μ1 (stC β n c) ∧ φ1 = fSt β n φ c) ∧ (¬ stX β n φ c = 0 → μ1 12 = stX β n φ c ∧ μ1 13 = stP β n φ c ∧ (0 ≤ μ1 8 ∧ μ1 8 ≤ 900) ∧ (0 ≤ μ1 10 ∧ μ1 10 ≤ 3)) ∧ (-9223372036854775808 ≤ μ1 15 ∧ μ1 15 < 9223372036854775808)) E hr ⟨μ89, φ89, hM, (kq_89.t (KQ.rf μ)), (fun z => absurd z (by unfold stX; omega)), (fun z => And.intro (by unfold stX; omega) (And.intro (by unfold stP; omega) (by omega))), (by omega)⟩ hS hlocks dX8_readsStatement_131
            · have h7q : μ89 7 = μ 7 := ((kq_89.t (KQ.rf μ))).2.2.2.1
              refine lv_aload_n (pc := 110) E.1 E.2 dX8_readsStatement_110 rfl (lv_at hl 0 rfl) ?_
              refine lv_aload_n (pc := 111) E.1 E.2 dX8_readsStatement_111 rfl (lv_at hl 0 rfl) ?_
              refine g8_8 (pc := 112) E hts hin8 hown hK hM.1 (hts _ (List.mem_of_getElem? (i := 3) rfl)) dX8_readsStatement_112 ?_
              refine z_rVi (pc := 115) (As := [.int (iI (μ89 8))]) (rest := [.ref (o 0)]) E hml hown hts (mX8_see lL G o μ89 σ φ89 κ β ω (μ89 8) (by omega) (by omega) (by omega)) (cwV 1 hts gX8_readsStatement_X8_see rfl rfl rfl vdX8_see ⟨Nat.le_of_ble_eq_true rfl, Nat.le_of_ble_eq_true rfl⟩) (oB.recv hK hM.1 rfl) hM hK rfl hl.1 rfl dX8_readsStatement_115 hcs (Nat.le_of_ble_eq_true rfl) ?_
              have hv115 := see_v β (μ89 7) (μ89 8)
              have hb115 := see_b (n := μ89 7) (k := μ89 8) hb (by omega) (by omega)
              refine z_bipush (pc := 118) E (by decide) dX8_readsStatement_118 ?_
              refine z_icmp_ne (pc := 120) (tgt := 127) E ⟨by omega, by omega⟩ (by decide) dX8_readsStatement_120 (by decide) (fun h120 => ?_) (fun h120 => ?_)
              · refine z_iconst (pc := 127) E dX8_readsStatement_127 ?_
                refine z_rVv (pc := 128) (As := [.int (iI 0)]) (rest := []) E hml hown hts (mX8_mustN lL G o μ89 σ φ89 κ β ω 0 (by omega) (by omega) (by omega)) (cwV 1 hts gX8_readsStatement_X8_must rfl rfl rfl vdX8_must ⟨Nat.le_of_ble_eq_true rfl, Nat.le_of_ble_eq_true rfl⟩) (oB.recv hK hM.1 rfl) hM hK rfl hl.1 rfl dX8_readsStatement_128 hcs (Nat.le_of_ble_eq_true rfl) ?_
                exact z_retWv (P1 := fun H9 : Heap => ∃ (μ1 φ1 : Int → Int), W8 G o (mV o μ1) σ φ1 κ β ω H9 ∧ (KQ μ1 μ) ∧ (stX β n φ c = 0 → μ1 12 = 0 ∧ TKw β n μ1 (stC β n c) ∧ φ1 = fSt β n φ c) ∧ (¬ stX β n φ c = 0 → μ1 12 = stX β n φ c ∧ μ1 13 = stP β n φ c ∧ (0 ≤ μ1 8 ∧ μ1 8 ≤ 900) ∧ (0 ≤ μ1 10 ∧ μ1 10 ≤ 3)) ∧ (-9223372036854775808 ≤ μ1 15 ∧ μ1 15 < 9223372036854775808)) E hr ⟨μ89, φ89, hM, (kq_89.t (KQ.rf μ)), (fun z => absurd z (by unfold stX; omega)), (fun z => And.intro (by unfold stX; omega) (And.intro (by unfold stP; omega) (by omega))), (by omega)⟩ hS hlocks dX8_readsStatement_131
              · refine z_iconst (pc := 123) E dX8_readsStatement_123 ?_
                refine lv_goto (pc := 124) (tgt := 128) E.1 E.2 dX8_readsStatement_124 (by decide) ?_
                refine z_rVv (pc := 128) (As := [.int (iI 1)]) (rest := []) E hml hown hts (mX8_mustN lL G o μ89 σ φ89 κ β ω 1 (by omega) (by omega) (by omega)) (cwV 1 hts gX8_readsStatement_X8_must rfl rfl rfl vdX8_must ⟨Nat.le_of_ble_eq_true rfl, Nat.le_of_ble_eq_true rfl⟩) (oB.recv hK hM.1 rfl) hM hK rfl hl.1 rfl dX8_readsStatement_128 hcs (Nat.le_of_ble_eq_true rfl) ?_
                exact z_retWv (P1 := fun H9 : Heap => ∃ (μ1 φ1 : Int → Int), W8 G o (mV o μ1) σ φ1 κ β ω H9 ∧ (KQ μ1 μ) ∧ (stX β n φ c = 0 → μ1 12 = 0 ∧ TKw β n μ1 (stC β n c) ∧ φ1 = fSt β n φ c) ∧ (¬ stX β n φ c = 0 → μ1 12 = stX β n φ c ∧ μ1 13 = stP β n φ c ∧ (0 ≤ μ1 8 ∧ μ1 8 ≤ 900) ∧ (0 ≤ μ1 10 ∧ μ1 10 ≤ 3)) ∧ (-9223372036854775808 ≤ μ1 15 ∧ μ1 15 < 9223372036854775808)) E hr ⟨μ89, φ89, hM, (kq_89.t (KQ.rf μ)), (fun z => absurd z (by unfold stX; omega)), (fun z => And.intro (by unfold stX; omega) (And.intro (by unfold stP; omega) (by omega))), (by omega)⟩ hS hlocks dX8_readsStatement_131
        · have eX : xSt β n φ c = xTag β n φ c := by unfold xSt; rw [if_neg h6, if_neg h37, if_neg h53, if_pos h69]
          have eP : pSt β n φ c = pTag β n φ c := by unfold pSt; rw [if_neg h6, if_neg h37, if_neg h53, if_pos h69]
          have eC : cSt β n c = Te β n (Te β n (Te β n c)) := by unfold cSt; rw [if_neg h6, if_neg h37]
          have eF : fSt β n φ c = fTag β n φ c := by unfold fSt; rw [if_neg h6, if_neg h37, if_neg h53, if_pos h69]
          refine lv_aload_n (pc := 72) E.1 E.2 dX8_readsStatement_72 rfl (lv_at hl 0 rfl) ?_
          refine z_wVv (pc := 73) (P1 := fun H9 : Heap => ∃ (μ73 φ73 : Int → Int), W8 G o (mV o μ73) σ φ73 κ β ω H9 ∧ (KQ μ73 μ) ∧ (xTag β n φ c = 0 → μ73 12 = 0 ∧ TKw β n μ73 (Te β n (Te β n (Te β n c))) ∧ φ73 = fTag β n φ c) ∧ (¬ xTag β n φ c = 0 → μ73 12 = xTag β n φ c ∧ μ73 13 = pTag β n φ c ∧ (0 ≤ μ73 8 ∧ μ73 8 ≤ 900) ∧ (0 ≤ μ73 10 ∧ μ73 10 ≤ 3)) ∧ (-9223372036854775808 ≤ μ73 15 ∧ μ73 15 < 9223372036854775808)) (As := []) (rest := []) E hml hown hts (mX8_readsTag lL G o μ σ φ κ β ω n c hb (by omega) (by assumption) (by omega) hJ) (cwV 0 hts gX8_readsStatement_X8_readsTag rfl rfl rfl vdX8_readsTag ⟨Nat.le_of_ble_eq_true rfl, Nat.le_of_ble_eq_true rfl⟩) (oB.recv hK hM.1 rfl) hM hK hS (fun _ h => h) rfl hl.1 rfl dX8_readsStatement_73 hcs (Nat.le_of_ble_eq_true rfl) (fun H locs hnew hsz hoth hS => ?_)
          obtain ⟨μ73, φ73, hM, kq_73, x_73, y_73, rw_73⟩ := hnew
          by_cases hs73 : xTag β n φ c = 0
          · have hw73 := (x_73 hs73).1
            have ht73 := (x_73 hs73).2.1
            have hf73 := (x_73 hs73).2.2
            have h7t73 := ht73.n7
            have h9t73 := ht73.be9
            have h8t73 := ht73.at8
            have h10t73 := ht73.ki10
            have hct73 := ht73.c0
            have hst73 := ht73.skb
            have htt73 := ht73.teb
            have hkt73 := Kd_b β n (Te β n (Te β n (Te β n c)))
            have hnt73 := fun z : Kd β n (Te β n (Te β n (Te β n c))) = 1 => ht73.nu z
            have hnb73 : Kd β n (Te β n (Te β n (Te β n c))) = 1 → (0 ≤ Nm β n (Te β n (Te β n (Te β n c))) ∧ Nm β n (Te β n (Te β n (Te β n c))) ≤ 9999999) := fun z => NmT_r (by omega) z
            refine lv_goto (pc := 76) (tgt := 101) E.1 E.2 dX8_readsStatement_76 (by decide) ?_
            refine lv_aload_n (pc := 101) E.1 E.2 dX8_readsStatement_101 rfl (lv_at hl 0 rfl) ?_
            refine lv_aload_n (pc := 102) E.1 E.2 dX8_readsStatement_102 rfl (lv_at hl 0 rfl) ?_
            refine g8_10 (pc := 103) E hts hin8 hown hK hM.1 (hts _ (List.mem_of_getElem? (i := 2) rfl)) dX8_readsStatement_103 ?_
            refine z_iconst (pc := 106) E dX8_readsStatement_106 ?_
            refine z_icmp_ne (pc := 107) (tgt := 127) E ⟨by omega, by omega⟩ (by decide) dX8_readsStatement_107 (by decide) (fun h107 => ?_) (fun h107 => ?_)
            · refine z_iconst (pc := 127) E dX8_readsStatement_127 ?_
              have hbs : β (μ73 8) = β (Sk β n (Te β n (Te β n (Te β n c)))) := by rw [(ht73).at8]
              have hse : Sk β n (cSt β n c) = Sk β n (Te β n (Te β n (Te β n c))) := by rw [eC]
              have hk3 := Kd_3 (b := β) (n := n) (c := (Te β n (Te β n (Te β n c))))
              have hre : REnd β n (cSt β n c) = -2 := by rw [eC]; exact REnd_n (fun z => by omega)
              refine z_wVv (pc := 128) (P1 := fun H9 : Heap => ∃ (μ128 : Int → Int), W8 G o (mV o μ128) σ φ73 κ β ω H9 ∧ (KQ μ128 μ73) ∧ (μ128 12 = -2) ∧ (μ128 13 = Sk β n (Te β n (Te β n (Te β n c)))) ∧ (μ128 15 = μ73 15) ∧ (μ128 8 = μ73 8) ∧ (μ128 10 = μ73 10)) (As := [.int (iI 0)]) (rest := []) E hml hown hts (mX8_mustFw lL G o μ73 σ φ73 κ β ω 0 n (Te β n (Te β n (Te β n c))) hb (by omega) (by omega) (by assumption)) (cwV 1 hts gX8_readsStatement_X8_must rfl rfl rfl vdX8_must ⟨Nat.le_of_ble_eq_true rfl, Nat.le_of_ble_eq_true rfl⟩) (oB.recv hK hM.1 rfl) hM hK hS (fun _ h => h) rfl hl.1 rfl dX8_readsStatement_128 hcs (Nat.le_of_ble_eq_true rfl) (fun H locs hnew hsz hoth hS => ?_)
              obtain ⟨μ128, hM, kq_128, e2_128, e3_128, e5_128, e8_128, e10_128⟩ := hnew
              have hw128 : ¬ μ128 12 = 0 := by omega
              exact z_retWv (P1 := fun H9 : Heap => ∃ (μ1 φ1 : Int → Int), W8 G o (mV o μ1) σ φ1 κ β ω H9 ∧ (KQ μ1 μ) ∧ (stX β n φ c = 0 → μ1 12 = 0 ∧ TKw β n μ1 (stC β n c) ∧ φ1 = fSt β n φ c) ∧ (¬ stX β n φ c = 0 → μ1 12 = stX β n φ c ∧ μ1 13 = stP β n φ c ∧ (0 ≤ μ1 8 ∧ μ1 8 ≤ 900) ∧ (0 ≤ μ1 10 ∧ μ1 10 ≤ 3)) ∧ (-9223372036854775808 ≤ μ1 15 ∧ μ1 15 < 9223372036854775808)) E hr ⟨μ128, φ73, hM, (kq_128.t (kq_73.t (KQ.rf μ))), (fun z => absurd z (by unfold stX; omega)), (fun z => And.intro (by unfold stX; omega) (And.intro (by unfold stP; omega) (by omega))), (by omega)⟩ hS hlocks dX8_readsStatement_131
            · have h7q : μ73 7 = μ 7 := ((kq_73.t (KQ.rf μ))).2.2.2.1
              refine lv_aload_n (pc := 110) E.1 E.2 dX8_readsStatement_110 rfl (lv_at hl 0 rfl) ?_
              refine lv_aload_n (pc := 111) E.1 E.2 dX8_readsStatement_111 rfl (lv_at hl 0 rfl) ?_
              refine g8_8 (pc := 112) E hts hin8 hown hK hM.1 (hts _ (List.mem_of_getElem? (i := 3) rfl)) dX8_readsStatement_112 ?_
              refine z_rVi (pc := 115) (As := [.int (iI (μ73 8))]) (rest := [.ref (o 0)]) E hml hown hts (mX8_see lL G o μ73 σ φ73 κ β ω (μ73 8) (by omega) (by omega) (by omega)) (cwV 1 hts gX8_readsStatement_X8_see rfl rfl rfl vdX8_see ⟨Nat.le_of_ble_eq_true rfl, Nat.le_of_ble_eq_true rfl⟩) (oB.recv hK hM.1 rfl) hM hK rfl hl.1 rfl dX8_readsStatement_115 hcs (Nat.le_of_ble_eq_true rfl) ?_
              have hv115 := see_v β (μ73 7) (μ73 8)
              have hb115 := see_b (n := μ73 7) (k := μ73 8) hb (by omega) (by omega)
              refine z_bipush (pc := 118) E (by decide) dX8_readsStatement_118 ?_
              refine z_icmp_ne (pc := 120) (tgt := 127) E ⟨by omega, by omega⟩ (by decide) dX8_readsStatement_120 (by decide) (fun h120 => ?_) (fun h120 => ?_)
              · refine z_iconst (pc := 127) E dX8_readsStatement_127 ?_
                have hbs : β (μ73 8) = β (Sk β n (Te β n (Te β n (Te β n c)))) := by rw [(ht73).at8]
                have hse : Sk β n (cSt β n c) = Sk β n (Te β n (Te β n (Te β n c))) := by rw [eC]
                have hk3 := Kd_3 (b := β) (n := n) (c := (Te β n (Te β n (Te β n c))))
                have hre : REnd β n (cSt β n c) = -2 := by rw [eC]; exact REnd_n (fun z => by omega)
                refine z_wVv (pc := 128) (P1 := fun H9 : Heap => ∃ (μ128 : Int → Int), W8 G o (mV o μ128) σ φ73 κ β ω H9 ∧ (KQ μ128 μ73) ∧ (μ128 12 = -2) ∧ (μ128 13 = Sk β n (Te β n (Te β n (Te β n c)))) ∧ (μ128 15 = μ73 15) ∧ (μ128 8 = μ73 8) ∧ (μ128 10 = μ73 10)) (As := [.int (iI 0)]) (rest := []) E hml hown hts (mX8_mustFw lL G o μ73 σ φ73 κ β ω 0 n (Te β n (Te β n (Te β n c))) hb (by omega) (by omega) (by assumption)) (cwV 1 hts gX8_readsStatement_X8_must rfl rfl rfl vdX8_must ⟨Nat.le_of_ble_eq_true rfl, Nat.le_of_ble_eq_true rfl⟩) (oB.recv hK hM.1 rfl) hM hK hS (fun _ h => h) rfl hl.1 rfl dX8_readsStatement_128 hcs (Nat.le_of_ble_eq_true rfl) (fun H locs hnew hsz hoth hS => ?_)
                obtain ⟨μ128, hM, kq_128, e2_128, e3_128, e5_128, e8_128, e10_128⟩ := hnew
                have hw128 : ¬ μ128 12 = 0 := by omega
                exact z_retWv (P1 := fun H9 : Heap => ∃ (μ1 φ1 : Int → Int), W8 G o (mV o μ1) σ φ1 κ β ω H9 ∧ (KQ μ1 μ) ∧ (stX β n φ c = 0 → μ1 12 = 0 ∧ TKw β n μ1 (stC β n c) ∧ φ1 = fSt β n φ c) ∧ (¬ stX β n φ c = 0 → μ1 12 = stX β n φ c ∧ μ1 13 = stP β n φ c ∧ (0 ≤ μ1 8 ∧ μ1 8 ≤ 900) ∧ (0 ≤ μ1 10 ∧ μ1 10 ≤ 3)) ∧ (-9223372036854775808 ≤ μ1 15 ∧ μ1 15 < 9223372036854775808)) E hr ⟨μ128, φ73, hM, (kq_128.t (kq_73.t (KQ.rf μ))), (fun z => absurd z (by unfold stX; omega)), (fun z => And.intro (by unfold stX; omega) (And.intro (by unfold stP; omega) (by omega))), (by omega)⟩ hS hlocks dX8_readsStatement_131
              · refine z_iconst (pc := 123) E dX8_readsStatement_123 ?_
                refine lv_goto (pc := 124) (tgt := 128) E.1 E.2 dX8_readsStatement_124 (by decide) ?_
                have hbs : β (μ73 8) = β (Sk β n (Te β n (Te β n (Te β n c)))) := by rw [(ht73).at8]
                have hse : Sk β n (cSt β n c) = Sk β n (Te β n (Te β n (Te β n c))) := by rw [eC]
                have hk3 := Kd_3 (b := β) (n := n) (c := (Te β n (Te β n (Te β n c))))
                have hre : REnd β n (cSt β n c) = 0 := by rw [eC]; exact REnd_y ⟨by omega, by omega⟩
                refine z_wVv (pc := 128) (P1 := fun H9 : Heap => ∃ (μ128 : Int → Int), W8 G o (mV o μ128) σ φ73 κ β ω H9 ∧ (KQ μ128 μ73) ∧ (μ128 12 = 0) ∧ (TKw β n μ128 (Te β n (Te β n (Te β n (Te β n c))))) ∧ (-9223372036854775808 ≤ μ128 15 ∧ μ128 15 < 9223372036854775808)) (As := [.int (iI 1)]) (rest := []) E hml hown hts (mX8_mustTw lL G o μ73 σ φ73 κ β ω 1 n (Te β n (Te β n (Te β n c))) hb (by omega) (by omega) (by assumption)) (cwV 1 hts gX8_readsStatement_X8_must rfl rfl rfl vdX8_must ⟨Nat.le_of_ble_eq_true rfl, Nat.le_of_ble_eq_true rfl⟩) (oB.recv hK hM.1 rfl) hM hK hS (fun _ h => h) rfl hl.1 rfl dX8_readsStatement_128 hcs (Nat.le_of_ble_eq_true rfl) (fun H locs hnew hsz hoth hS => ?_)
                obtain ⟨μ128, hM, kq_128, e2_128, tk_128, rw_128⟩ := hnew
                have h7t128 := tk_128.n7
                have h9t128 := tk_128.be9
                have h8t128 := tk_128.at8
                have h10t128 := tk_128.ki10
                have hct128 := tk_128.c0
                have hst128 := tk_128.skb
                have htt128 := tk_128.teb
                have hkt128 := Kd_b β n (Te β n (Te β n (Te β n (Te β n c))))
                have hnt128 := fun z : Kd β n (Te β n (Te β n (Te β n (Te β n c)))) = 1 => tk_128.nu z
                have hnb128 : Kd β n (Te β n (Te β n (Te β n (Te β n c)))) = 1 → (0 ≤ Nm β n (Te β n (Te β n (Te β n (Te β n c)))) ∧ Nm β n (Te β n (Te β n (Te β n (Te β n c)))) ≤ 9999999) := fun z => NmT_r (by omega) z
                exact z_retWv (P1 := fun H9 : Heap => ∃ (μ1 φ1 : Int → Int), W8 G o (mV o μ1) σ φ1 κ β ω H9 ∧ (KQ μ1 μ) ∧ (stX β n φ c = 0 → μ1 12 = 0 ∧ TKw β n μ1 (stC β n c) ∧ φ1 = fSt β n φ c) ∧ (¬ stX β n φ c = 0 → μ1 12 = stX β n φ c ∧ μ1 13 = stP β n φ c ∧ (0 ≤ μ1 8 ∧ μ1 8 ≤ 900) ∧ (0 ≤ μ1 10 ∧ μ1 10 ≤ 3)) ∧ (-9223372036854775808 ≤ μ1 15 ∧ μ1 15 < 9223372036854775808)) E hr ⟨μ128, φ73, hM, (kq_128.t (kq_73.t (KQ.rf μ))), (fun _ => And.intro (by omega) (And.intro (by unfold stC; rw [eC]; exact tk_128) (by first | (rw [eF]; done) | (rw [eF]; assumption)))), (fun z => absurd (by unfold stX; omega) z), (by omega)⟩ hS hlocks dX8_readsStatement_131
          have hy73 := y_73 hs73
          have hu73 := xTag_b β φ n c
          have hw73 : ¬ μ73 12 = 0 := fun z => hs73 (hy73.1.symm.trans z)
          refine lv_goto (pc := 76) (tgt := 101) E.1 E.2 dX8_readsStatement_76 (by decide) ?_
          refine lv_aload_n (pc := 101) E.1 E.2 dX8_readsStatement_101 rfl (lv_at hl 0 rfl) ?_
          refine lv_aload_n (pc := 102) E.1 E.2 dX8_readsStatement_102 rfl (lv_at hl 0 rfl) ?_
          refine g8_10 (pc := 103) E hts hin8 hown hK hM.1 (hts _ (List.mem_of_getElem? (i := 2) rfl)) dX8_readsStatement_103 ?_
          refine z_iconst (pc := 106) E dX8_readsStatement_106 ?_
          refine z_icmp_ne (pc := 107) (tgt := 127) E ⟨by omega, by omega⟩ (by decide) dX8_readsStatement_107 (by decide) (fun h107 => ?_) (fun h107 => ?_)
          · refine z_iconst (pc := 127) E dX8_readsStatement_127 ?_
            refine z_rVv (pc := 128) (As := [.int (iI 0)]) (rest := []) E hml hown hts (mX8_mustN lL G o μ73 σ φ73 κ β ω 0 (by omega) (by omega) (by omega)) (cwV 1 hts gX8_readsStatement_X8_must rfl rfl rfl vdX8_must ⟨Nat.le_of_ble_eq_true rfl, Nat.le_of_ble_eq_true rfl⟩) (oB.recv hK hM.1 rfl) hM hK rfl hl.1 rfl dX8_readsStatement_128 hcs (Nat.le_of_ble_eq_true rfl) ?_
            exact z_retWv (P1 := fun H9 : Heap => ∃ (μ1 φ1 : Int → Int), W8 G o (mV o μ1) σ φ1 κ β ω H9 ∧ (KQ μ1 μ) ∧ (stX β n φ c = 0 → μ1 12 = 0 ∧ TKw β n μ1 (stC β n c) ∧ φ1 = fSt β n φ c) ∧ (¬ stX β n φ c = 0 → μ1 12 = stX β n φ c ∧ μ1 13 = stP β n φ c ∧ (0 ≤ μ1 8 ∧ μ1 8 ≤ 900) ∧ (0 ≤ μ1 10 ∧ μ1 10 ≤ 3)) ∧ (-9223372036854775808 ≤ μ1 15 ∧ μ1 15 < 9223372036854775808)) E hr ⟨μ73, φ73, hM, (kq_73.t (KQ.rf μ)), (fun z => absurd z (by unfold stX; omega)), (fun z => And.intro (by unfold stX; omega) (And.intro (by unfold stP; omega) (by omega))), (by omega)⟩ hS hlocks dX8_readsStatement_131
          · have h7q : μ73 7 = μ 7 := ((kq_73.t (KQ.rf μ))).2.2.2.1
            refine lv_aload_n (pc := 110) E.1 E.2 dX8_readsStatement_110 rfl (lv_at hl 0 rfl) ?_
            refine lv_aload_n (pc := 111) E.1 E.2 dX8_readsStatement_111 rfl (lv_at hl 0 rfl) ?_
            refine g8_8 (pc := 112) E hts hin8 hown hK hM.1 (hts _ (List.mem_of_getElem? (i := 3) rfl)) dX8_readsStatement_112 ?_
            refine z_rVi (pc := 115) (As := [.int (iI (μ73 8))]) (rest := [.ref (o 0)]) E hml hown hts (mX8_see lL G o μ73 σ φ73 κ β ω (μ73 8) (by omega) (by omega) (by omega)) (cwV 1 hts gX8_readsStatement_X8_see rfl rfl rfl vdX8_see ⟨Nat.le_of_ble_eq_true rfl, Nat.le_of_ble_eq_true rfl⟩) (oB.recv hK hM.1 rfl) hM hK rfl hl.1 rfl dX8_readsStatement_115 hcs (Nat.le_of_ble_eq_true rfl) ?_
            have hv115 := see_v β (μ73 7) (μ73 8)
            have hb115 := see_b (n := μ73 7) (k := μ73 8) hb (by omega) (by omega)
            refine z_bipush (pc := 118) E (by decide) dX8_readsStatement_118 ?_
            refine z_icmp_ne (pc := 120) (tgt := 127) E ⟨by omega, by omega⟩ (by decide) dX8_readsStatement_120 (by decide) (fun h120 => ?_) (fun h120 => ?_)
            · refine z_iconst (pc := 127) E dX8_readsStatement_127 ?_
              refine z_rVv (pc := 128) (As := [.int (iI 0)]) (rest := []) E hml hown hts (mX8_mustN lL G o μ73 σ φ73 κ β ω 0 (by omega) (by omega) (by omega)) (cwV 1 hts gX8_readsStatement_X8_must rfl rfl rfl vdX8_must ⟨Nat.le_of_ble_eq_true rfl, Nat.le_of_ble_eq_true rfl⟩) (oB.recv hK hM.1 rfl) hM hK rfl hl.1 rfl dX8_readsStatement_128 hcs (Nat.le_of_ble_eq_true rfl) ?_
              exact z_retWv (P1 := fun H9 : Heap => ∃ (μ1 φ1 : Int → Int), W8 G o (mV o μ1) σ φ1 κ β ω H9 ∧ (KQ μ1 μ) ∧ (stX β n φ c = 0 → μ1 12 = 0 ∧ TKw β n μ1 (stC β n c) ∧ φ1 = fSt β n φ c) ∧ (¬ stX β n φ c = 0 → μ1 12 = stX β n φ c ∧ μ1 13 = stP β n φ c ∧ (0 ≤ μ1 8 ∧ μ1 8 ≤ 900) ∧ (0 ≤ μ1 10 ∧ μ1 10 ≤ 3)) ∧ (-9223372036854775808 ≤ μ1 15 ∧ μ1 15 < 9223372036854775808)) E hr ⟨μ73, φ73, hM, (kq_73.t (KQ.rf μ)), (fun z => absurd z (by unfold stX; omega)), (fun z => And.intro (by unfold stX; omega) (And.intro (by unfold stP; omega) (by omega))), (by omega)⟩ hS hlocks dX8_readsStatement_131
            · refine z_iconst (pc := 123) E dX8_readsStatement_123 ?_
              refine lv_goto (pc := 124) (tgt := 128) E.1 E.2 dX8_readsStatement_124 (by decide) ?_
              refine z_rVv (pc := 128) (As := [.int (iI 1)]) (rest := []) E hml hown hts (mX8_mustN lL G o μ73 σ φ73 κ β ω 1 (by omega) (by omega) (by omega)) (cwV 1 hts gX8_readsStatement_X8_must rfl rfl rfl vdX8_must ⟨Nat.le_of_ble_eq_true rfl, Nat.le_of_ble_eq_true rfl⟩) (oB.recv hK hM.1 rfl) hM hK rfl hl.1 rfl dX8_readsStatement_128 hcs (Nat.le_of_ble_eq_true rfl) ?_
              exact z_retWv (P1 := fun H9 : Heap => ∃ (μ1 φ1 : Int → Int), W8 G o (mV o μ1) σ φ1 κ β ω H9 ∧ (KQ μ1 μ) ∧ (stX β n φ c = 0 → μ1 12 = 0 ∧ TKw β n μ1 (stC β n c) ∧ φ1 = fSt β n φ c) ∧ (¬ stX β n φ c = 0 → μ1 12 = stX β n φ c ∧ μ1 13 = stP β n φ c ∧ (0 ≤ μ1 8 ∧ μ1 8 ≤ 900) ∧ (0 ≤ μ1 10 ∧ μ1 10 ≤ 3)) ∧ (-9223372036854775808 ≤ μ1 15 ∧ μ1 15 < 9223372036854775808)) E hr ⟨μ73, φ73, hM, (kq_73.t (KQ.rf μ)), (fun z => absurd z (by unfold stX; omega)), (fun z => And.intro (by unfold stX; omega) (And.intro (by unfold stP; omega) (by omega))), (by omega)⟩ hS hlocks dX8_readsStatement_131
      · have eX : xSt β n φ c = xFld β n φ c := by unfold xSt; rw [if_neg h6, if_neg h37, if_pos h53]
        have eP : pSt β n φ c = pFld β n φ c := by unfold pSt; rw [if_neg h6, if_neg h37, if_pos h53]
        have eC : cSt β n c = cFld β n c := by unfold cSt cFld; rw [if_neg h6, if_neg h37]
        have eF : fSt β n φ c = fFld β n φ c := by unfold fSt; rw [if_neg h6, if_neg h37, if_pos h53]
        refine lv_aload_n (pc := 56) E.1 E.2 dX8_readsStatement_56 rfl (lv_at hl 0 rfl) ?_
        refine z_wVv (pc := 57) (P1 := fun H9 : Heap => ∃ (μ57 φ57 : Int → Int), W8 G o (mV o μ57) σ φ57 κ β ω H9 ∧ (KQ μ57 μ) ∧ (xFld β n φ c = 0 → μ57 12 = 0 ∧ TKw β n μ57 (cFld β n c) ∧ φ57 = fFld β n φ c) ∧ (¬ xFld β n φ c = 0 → μ57 12 = xFld β n φ c ∧ μ57 13 = pFld β n φ c ∧ (0 ≤ μ57 8 ∧ μ57 8 ≤ 900) ∧ (0 ≤ μ57 10 ∧ μ57 10 ≤ 3)) ∧ (-9223372036854775808 ≤ μ57 15 ∧ μ57 15 < 9223372036854775808)) (As := []) (rest := []) E hml hown hts (mX8_readsFolder lL G o μ σ φ κ β ω n c hb (by omega) (by assumption) (by omega) hJ) (cwV 0 hts gX8_readsStatement_X8_readsFolder rfl rfl rfl vdX8_readsFolder ⟨Nat.le_of_ble_eq_true rfl, Nat.le_of_ble_eq_true rfl⟩) (oB.recv hK hM.1 rfl) hM hK hS (fun _ h => h) rfl hl.1 rfl dX8_readsStatement_57 hcs (Nat.le_of_ble_eq_true rfl) (fun H locs hnew hsz hoth hS => ?_)
        obtain ⟨μ57, φ57, hM, kq_57, x_57, y_57, rw_57⟩ := hnew
        by_cases hs57 : xFld β n φ c = 0
        · have hw57 := (x_57 hs57).1
          have ht57 := (x_57 hs57).2.1
          have hf57 := (x_57 hs57).2.2
          have h7t57 := ht57.n7
          have h9t57 := ht57.be9
          have h8t57 := ht57.at8
          have h10t57 := ht57.ki10
          have hct57 := ht57.c0
          have hst57 := ht57.skb
          have htt57 := ht57.teb
          have hkt57 := Kd_b β n (cFld β n c)
          have hnt57 := fun z : Kd β n (cFld β n c) = 1 => ht57.nu z
          have hnb57 : Kd β n (cFld β n c) = 1 → (0 ≤ Nm β n (cFld β n c) ∧ Nm β n (cFld β n c) ≤ 9999999) := fun z => NmT_r (by omega) z
          refine lv_goto (pc := 60) (tgt := 101) E.1 E.2 dX8_readsStatement_60 (by decide) ?_
          refine lv_aload_n (pc := 101) E.1 E.2 dX8_readsStatement_101 rfl (lv_at hl 0 rfl) ?_
          refine lv_aload_n (pc := 102) E.1 E.2 dX8_readsStatement_102 rfl (lv_at hl 0 rfl) ?_
          refine g8_10 (pc := 103) E hts hin8 hown hK hM.1 (hts _ (List.mem_of_getElem? (i := 2) rfl)) dX8_readsStatement_103 ?_
          refine z_iconst (pc := 106) E dX8_readsStatement_106 ?_
          refine z_icmp_ne (pc := 107) (tgt := 127) E ⟨by omega, by omega⟩ (by decide) dX8_readsStatement_107 (by decide) (fun h107 => ?_) (fun h107 => ?_)
          · refine z_iconst (pc := 127) E dX8_readsStatement_127 ?_
            have hbs : β (μ57 8) = β (Sk β n (cFld β n c)) := by rw [(ht57).at8]
            have hse : Sk β n (cSt β n c) = Sk β n (cFld β n c) := by rw [eC]
            have hk3 := Kd_3 (b := β) (n := n) (c := (cFld β n c))
            have hre : REnd β n (cSt β n c) = -2 := by rw [eC]; exact REnd_n (fun z => by omega)
            refine z_wVv (pc := 128) (P1 := fun H9 : Heap => ∃ (μ128 : Int → Int), W8 G o (mV o μ128) σ φ57 κ β ω H9 ∧ (KQ μ128 μ57) ∧ (μ128 12 = -2) ∧ (μ128 13 = Sk β n (cFld β n c)) ∧ (μ128 15 = μ57 15) ∧ (μ128 8 = μ57 8) ∧ (μ128 10 = μ57 10)) (As := [.int (iI 0)]) (rest := []) E hml hown hts (mX8_mustFw lL G o μ57 σ φ57 κ β ω 0 n (cFld β n c) hb (by omega) (by omega) (by assumption)) (cwV 1 hts gX8_readsStatement_X8_must rfl rfl rfl vdX8_must ⟨Nat.le_of_ble_eq_true rfl, Nat.le_of_ble_eq_true rfl⟩) (oB.recv hK hM.1 rfl) hM hK hS (fun _ h => h) rfl hl.1 rfl dX8_readsStatement_128 hcs (Nat.le_of_ble_eq_true rfl) (fun H locs hnew hsz hoth hS => ?_)
            obtain ⟨μ128, hM, kq_128, e2_128, e3_128, e5_128, e8_128, e10_128⟩ := hnew
            have hw128 : ¬ μ128 12 = 0 := by omega
            exact z_retWv (P1 := fun H9 : Heap => ∃ (μ1 φ1 : Int → Int), W8 G o (mV o μ1) σ φ1 κ β ω H9 ∧ (KQ μ1 μ) ∧ (stX β n φ c = 0 → μ1 12 = 0 ∧ TKw β n μ1 (stC β n c) ∧ φ1 = fSt β n φ c) ∧ (¬ stX β n φ c = 0 → μ1 12 = stX β n φ c ∧ μ1 13 = stP β n φ c ∧ (0 ≤ μ1 8 ∧ μ1 8 ≤ 900) ∧ (0 ≤ μ1 10 ∧ μ1 10 ≤ 3)) ∧ (-9223372036854775808 ≤ μ1 15 ∧ μ1 15 < 9223372036854775808)) E hr ⟨μ128, φ57, hM, (kq_128.t (kq_57.t (KQ.rf μ))), (fun z => absurd z (by unfold stX; omega)), (fun z => And.intro (by unfold stX; omega) (And.intro (by unfold stP; omega) (by omega))), (by omega)⟩ hS hlocks dX8_readsStatement_131
          · have h7q : μ57 7 = μ 7 := ((kq_57.t (KQ.rf μ))).2.2.2.1
            refine lv_aload_n (pc := 110) E.1 E.2 dX8_readsStatement_110 rfl (lv_at hl 0 rfl) ?_
            refine lv_aload_n (pc := 111) E.1 E.2 dX8_readsStatement_111 rfl (lv_at hl 0 rfl) ?_
            refine g8_8 (pc := 112) E hts hin8 hown hK hM.1 (hts _ (List.mem_of_getElem? (i := 3) rfl)) dX8_readsStatement_112 ?_
            refine z_rVi (pc := 115) (As := [.int (iI (μ57 8))]) (rest := [.ref (o 0)]) E hml hown hts (mX8_see lL G o μ57 σ φ57 κ β ω (μ57 8) (by omega) (by omega) (by omega)) (cwV 1 hts gX8_readsStatement_X8_see rfl rfl rfl vdX8_see ⟨Nat.le_of_ble_eq_true rfl, Nat.le_of_ble_eq_true rfl⟩) (oB.recv hK hM.1 rfl) hM hK rfl hl.1 rfl dX8_readsStatement_115 hcs (Nat.le_of_ble_eq_true rfl) ?_
            have hv115 := see_v β (μ57 7) (μ57 8)
            have hb115 := see_b (n := μ57 7) (k := μ57 8) hb (by omega) (by omega)
            refine z_bipush (pc := 118) E (by decide) dX8_readsStatement_118 ?_
            refine z_icmp_ne (pc := 120) (tgt := 127) E ⟨by omega, by omega⟩ (by decide) dX8_readsStatement_120 (by decide) (fun h120 => ?_) (fun h120 => ?_)
            · refine z_iconst (pc := 127) E dX8_readsStatement_127 ?_
              have hbs : β (μ57 8) = β (Sk β n (cFld β n c)) := by rw [(ht57).at8]
              have hse : Sk β n (cSt β n c) = Sk β n (cFld β n c) := by rw [eC]
              have hk3 := Kd_3 (b := β) (n := n) (c := (cFld β n c))
              have hre : REnd β n (cSt β n c) = -2 := by rw [eC]; exact REnd_n (fun z => by omega)
              refine z_wVv (pc := 128) (P1 := fun H9 : Heap => ∃ (μ128 : Int → Int), W8 G o (mV o μ128) σ φ57 κ β ω H9 ∧ (KQ μ128 μ57) ∧ (μ128 12 = -2) ∧ (μ128 13 = Sk β n (cFld β n c)) ∧ (μ128 15 = μ57 15) ∧ (μ128 8 = μ57 8) ∧ (μ128 10 = μ57 10)) (As := [.int (iI 0)]) (rest := []) E hml hown hts (mX8_mustFw lL G o μ57 σ φ57 κ β ω 0 n (cFld β n c) hb (by omega) (by omega) (by assumption)) (cwV 1 hts gX8_readsStatement_X8_must rfl rfl rfl vdX8_must ⟨Nat.le_of_ble_eq_true rfl, Nat.le_of_ble_eq_true rfl⟩) (oB.recv hK hM.1 rfl) hM hK hS (fun _ h => h) rfl hl.1 rfl dX8_readsStatement_128 hcs (Nat.le_of_ble_eq_true rfl) (fun H locs hnew hsz hoth hS => ?_)
              obtain ⟨μ128, hM, kq_128, e2_128, e3_128, e5_128, e8_128, e10_128⟩ := hnew
              have hw128 : ¬ μ128 12 = 0 := by omega
              exact z_retWv (P1 := fun H9 : Heap => ∃ (μ1 φ1 : Int → Int), W8 G o (mV o μ1) σ φ1 κ β ω H9 ∧ (KQ μ1 μ) ∧ (stX β n φ c = 0 → μ1 12 = 0 ∧ TKw β n μ1 (stC β n c) ∧ φ1 = fSt β n φ c) ∧ (¬ stX β n φ c = 0 → μ1 12 = stX β n φ c ∧ μ1 13 = stP β n φ c ∧ (0 ≤ μ1 8 ∧ μ1 8 ≤ 900) ∧ (0 ≤ μ1 10 ∧ μ1 10 ≤ 3)) ∧ (-9223372036854775808 ≤ μ1 15 ∧ μ1 15 < 9223372036854775808)) E hr ⟨μ128, φ57, hM, (kq_128.t (kq_57.t (KQ.rf μ))), (fun z => absurd z (by unfold stX; omega)), (fun z => And.intro (by unfold stX; omega) (And.intro (by unfold stP; omega) (by omega))), (by omega)⟩ hS hlocks dX8_readsStatement_131
            · refine z_iconst (pc := 123) E dX8_readsStatement_123 ?_
              refine lv_goto (pc := 124) (tgt := 128) E.1 E.2 dX8_readsStatement_124 (by decide) ?_
              have hbs : β (μ57 8) = β (Sk β n (cFld β n c)) := by rw [(ht57).at8]
              have hse : Sk β n (cSt β n c) = Sk β n (cFld β n c) := by rw [eC]
              have hk3 := Kd_3 (b := β) (n := n) (c := (cFld β n c))
              have hre : REnd β n (cSt β n c) = 0 := by rw [eC]; exact REnd_y ⟨by omega, by omega⟩
              refine z_wVv (pc := 128) (P1 := fun H9 : Heap => ∃ (μ128 : Int → Int), W8 G o (mV o μ128) σ φ57 κ β ω H9 ∧ (KQ μ128 μ57) ∧ (μ128 12 = 0) ∧ (TKw β n μ128 (Te β n (cFld β n c))) ∧ (-9223372036854775808 ≤ μ128 15 ∧ μ128 15 < 9223372036854775808)) (As := [.int (iI 1)]) (rest := []) E hml hown hts (mX8_mustTw lL G o μ57 σ φ57 κ β ω 1 n (cFld β n c) hb (by omega) (by omega) (by assumption)) (cwV 1 hts gX8_readsStatement_X8_must rfl rfl rfl vdX8_must ⟨Nat.le_of_ble_eq_true rfl, Nat.le_of_ble_eq_true rfl⟩) (oB.recv hK hM.1 rfl) hM hK hS (fun _ h => h) rfl hl.1 rfl dX8_readsStatement_128 hcs (Nat.le_of_ble_eq_true rfl) (fun H locs hnew hsz hoth hS => ?_)
              obtain ⟨μ128, hM, kq_128, e2_128, tk_128, rw_128⟩ := hnew
              have h7t128 := tk_128.n7
              have h9t128 := tk_128.be9
              have h8t128 := tk_128.at8
              have h10t128 := tk_128.ki10
              have hct128 := tk_128.c0
              have hst128 := tk_128.skb
              have htt128 := tk_128.teb
              have hkt128 := Kd_b β n (Te β n (cFld β n c))
              have hnt128 := fun z : Kd β n (Te β n (cFld β n c)) = 1 => tk_128.nu z
              have hnb128 : Kd β n (Te β n (cFld β n c)) = 1 → (0 ≤ Nm β n (Te β n (cFld β n c)) ∧ Nm β n (Te β n (cFld β n c)) ≤ 9999999) := fun z => NmT_r (by omega) z
              exact z_retWv (P1 := fun H9 : Heap => ∃ (μ1 φ1 : Int → Int), W8 G o (mV o μ1) σ φ1 κ β ω H9 ∧ (KQ μ1 μ) ∧ (stX β n φ c = 0 → μ1 12 = 0 ∧ TKw β n μ1 (stC β n c) ∧ φ1 = fSt β n φ c) ∧ (¬ stX β n φ c = 0 → μ1 12 = stX β n φ c ∧ μ1 13 = stP β n φ c ∧ (0 ≤ μ1 8 ∧ μ1 8 ≤ 900) ∧ (0 ≤ μ1 10 ∧ μ1 10 ≤ 3)) ∧ (-9223372036854775808 ≤ μ1 15 ∧ μ1 15 < 9223372036854775808)) E hr ⟨μ128, φ57, hM, (kq_128.t (kq_57.t (KQ.rf μ))), (fun _ => And.intro (by omega) (And.intro (by unfold stC; rw [eC]; exact tk_128) (by first | (rw [eF]; done) | (rw [eF]; assumption)))), (fun z => absurd (by unfold stX; omega) z), (by omega)⟩ hS hlocks dX8_readsStatement_131
        have hy57 := y_57 hs57
        have hu57 := xFld_b β φ n c
        have hw57 : ¬ μ57 12 = 0 := fun z => hs57 (hy57.1.symm.trans z)
        refine lv_goto (pc := 60) (tgt := 101) E.1 E.2 dX8_readsStatement_60 (by decide) ?_
        refine lv_aload_n (pc := 101) E.1 E.2 dX8_readsStatement_101 rfl (lv_at hl 0 rfl) ?_
        refine lv_aload_n (pc := 102) E.1 E.2 dX8_readsStatement_102 rfl (lv_at hl 0 rfl) ?_
        refine g8_10 (pc := 103) E hts hin8 hown hK hM.1 (hts _ (List.mem_of_getElem? (i := 2) rfl)) dX8_readsStatement_103 ?_
        refine z_iconst (pc := 106) E dX8_readsStatement_106 ?_
        refine z_icmp_ne (pc := 107) (tgt := 127) E ⟨by omega, by omega⟩ (by decide) dX8_readsStatement_107 (by decide) (fun h107 => ?_) (fun h107 => ?_)
        · refine z_iconst (pc := 127) E dX8_readsStatement_127 ?_
          refine z_rVv (pc := 128) (As := [.int (iI 0)]) (rest := []) E hml hown hts (mX8_mustN lL G o μ57 σ φ57 κ β ω 0 (by omega) (by omega) (by omega)) (cwV 1 hts gX8_readsStatement_X8_must rfl rfl rfl vdX8_must ⟨Nat.le_of_ble_eq_true rfl, Nat.le_of_ble_eq_true rfl⟩) (oB.recv hK hM.1 rfl) hM hK rfl hl.1 rfl dX8_readsStatement_128 hcs (Nat.le_of_ble_eq_true rfl) ?_
          exact z_retWv (P1 := fun H9 : Heap => ∃ (μ1 φ1 : Int → Int), W8 G o (mV o μ1) σ φ1 κ β ω H9 ∧ (KQ μ1 μ) ∧ (stX β n φ c = 0 → μ1 12 = 0 ∧ TKw β n μ1 (stC β n c) ∧ φ1 = fSt β n φ c) ∧ (¬ stX β n φ c = 0 → μ1 12 = stX β n φ c ∧ μ1 13 = stP β n φ c ∧ (0 ≤ μ1 8 ∧ μ1 8 ≤ 900) ∧ (0 ≤ μ1 10 ∧ μ1 10 ≤ 3)) ∧ (-9223372036854775808 ≤ μ1 15 ∧ μ1 15 < 9223372036854775808)) E hr ⟨μ57, φ57, hM, (kq_57.t (KQ.rf μ)), (fun z => absurd z (by unfold stX; omega)), (fun z => And.intro (by unfold stX; omega) (And.intro (by unfold stP; omega) (by omega))), (by omega)⟩ hS hlocks dX8_readsStatement_131
        · have h7q : μ57 7 = μ 7 := ((kq_57.t (KQ.rf μ))).2.2.2.1
          refine lv_aload_n (pc := 110) E.1 E.2 dX8_readsStatement_110 rfl (lv_at hl 0 rfl) ?_
          refine lv_aload_n (pc := 111) E.1 E.2 dX8_readsStatement_111 rfl (lv_at hl 0 rfl) ?_
          refine g8_8 (pc := 112) E hts hin8 hown hK hM.1 (hts _ (List.mem_of_getElem? (i := 3) rfl)) dX8_readsStatement_112 ?_
          refine z_rVi (pc := 115) (As := [.int (iI (μ57 8))]) (rest := [.ref (o 0)]) E hml hown hts (mX8_see lL G o μ57 σ φ57 κ β ω (μ57 8) (by omega) (by omega) (by omega)) (cwV 1 hts gX8_readsStatement_X8_see rfl rfl rfl vdX8_see ⟨Nat.le_of_ble_eq_true rfl, Nat.le_of_ble_eq_true rfl⟩) (oB.recv hK hM.1 rfl) hM hK rfl hl.1 rfl dX8_readsStatement_115 hcs (Nat.le_of_ble_eq_true rfl) ?_
          have hv115 := see_v β (μ57 7) (μ57 8)
          have hb115 := see_b (n := μ57 7) (k := μ57 8) hb (by omega) (by omega)
          refine z_bipush (pc := 118) E (by decide) dX8_readsStatement_118 ?_
          refine z_icmp_ne (pc := 120) (tgt := 127) E ⟨by omega, by omega⟩ (by decide) dX8_readsStatement_120 (by decide) (fun h120 => ?_) (fun h120 => ?_)
          · refine z_iconst (pc := 127) E dX8_readsStatement_127 ?_
            refine z_rVv (pc := 128) (As := [.int (iI 0)]) (rest := []) E hml hown hts (mX8_mustN lL G o μ57 σ φ57 κ β ω 0 (by omega) (by omega) (by omega)) (cwV 1 hts gX8_readsStatement_X8_must rfl rfl rfl vdX8_must ⟨Nat.le_of_ble_eq_true rfl, Nat.le_of_ble_eq_true rfl⟩) (oB.recv hK hM.1 rfl) hM hK rfl hl.1 rfl dX8_readsStatement_128 hcs (Nat.le_of_ble_eq_true rfl) ?_
            exact z_retWv (P1 := fun H9 : Heap => ∃ (μ1 φ1 : Int → Int), W8 G o (mV o μ1) σ φ1 κ β ω H9 ∧ (KQ μ1 μ) ∧ (stX β n φ c = 0 → μ1 12 = 0 ∧ TKw β n μ1 (stC β n c) ∧ φ1 = fSt β n φ c) ∧ (¬ stX β n φ c = 0 → μ1 12 = stX β n φ c ∧ μ1 13 = stP β n φ c ∧ (0 ≤ μ1 8 ∧ μ1 8 ≤ 900) ∧ (0 ≤ μ1 10 ∧ μ1 10 ≤ 3)) ∧ (-9223372036854775808 ≤ μ1 15 ∧ μ1 15 < 9223372036854775808)) E hr ⟨μ57, φ57, hM, (kq_57.t (KQ.rf μ)), (fun z => absurd z (by unfold stX; omega)), (fun z => And.intro (by unfold stX; omega) (And.intro (by unfold stP; omega) (by omega))), (by omega)⟩ hS hlocks dX8_readsStatement_131
          · refine z_iconst (pc := 123) E dX8_readsStatement_123 ?_
            refine lv_goto (pc := 124) (tgt := 128) E.1 E.2 dX8_readsStatement_124 (by decide) ?_
            refine z_rVv (pc := 128) (As := [.int (iI 1)]) (rest := []) E hml hown hts (mX8_mustN lL G o μ57 σ φ57 κ β ω 1 (by omega) (by omega) (by omega)) (cwV 1 hts gX8_readsStatement_X8_must rfl rfl rfl vdX8_must ⟨Nat.le_of_ble_eq_true rfl, Nat.le_of_ble_eq_true rfl⟩) (oB.recv hK hM.1 rfl) hM hK rfl hl.1 rfl dX8_readsStatement_128 hcs (Nat.le_of_ble_eq_true rfl) ?_
            exact z_retWv (P1 := fun H9 : Heap => ∃ (μ1 φ1 : Int → Int), W8 G o (mV o μ1) σ φ1 κ β ω H9 ∧ (KQ μ1 μ) ∧ (stX β n φ c = 0 → μ1 12 = 0 ∧ TKw β n μ1 (stC β n c) ∧ φ1 = fSt β n φ c) ∧ (¬ stX β n φ c = 0 → μ1 12 = stX β n φ c ∧ μ1 13 = stP β n φ c ∧ (0 ≤ μ1 8 ∧ μ1 8 ≤ 900) ∧ (0 ≤ μ1 10 ∧ μ1 10 ≤ 3)) ∧ (-9223372036854775808 ≤ μ1 15 ∧ μ1 15 < 9223372036854775808)) E hr ⟨μ57, φ57, hM, (kq_57.t (KQ.rf μ)), (fun z => absurd z (by unfold stX; omega)), (fun z => And.intro (by unfold stX; omega) (And.intro (by unfold stP; omega) (by omega))), (by omega)⟩ hS hlocks dX8_readsStatement_131
    · have eX : xSt β n φ c = xLim β n c := by unfold xSt; rw [if_neg h6, if_pos h37]
      have eP : pSt β n φ c = pLim β n c := by unfold pSt; rw [if_neg h6, if_pos h37]
      have eC : cSt β n c = cLim β n c := by unfold cSt; rw [if_neg h6, if_pos h37]
      have eF : fSt β n φ c = fLim β n φ c := by unfold fSt; rw [if_neg h6, if_pos h37]
      refine lv_aload_n (pc := 40) E.1 E.2 dX8_readsStatement_40 rfl (lv_at hl 0 rfl) ?_
      refine z_wVv (pc := 41) (P1 := fun H9 : Heap => ∃ (μ41 φ41 : Int → Int), W8 G o (mV o μ41) σ φ41 κ β ω H9 ∧ (KQ μ41 μ) ∧ (xLim β n c = 0 → μ41 12 = 0 ∧ TKw β n μ41 (cLim β n c) ∧ φ41 = fLim β n φ c) ∧ (¬ xLim β n c = 0 → μ41 12 = xLim β n c ∧ μ41 13 = pLim β n c ∧ (0 ≤ μ41 8 ∧ μ41 8 ≤ 900) ∧ (0 ≤ μ41 10 ∧ μ41 10 ≤ 3)) ∧ (-9223372036854775808 ≤ μ41 15 ∧ μ41 15 < 9223372036854775808)) (As := []) (rest := []) E hml hown hts (mX8_readsLimits lL G o μ σ φ κ β ω n c hb (by omega) (by assumption) (by omega) hJ) (cwV 0 hts gX8_readsStatement_X8_readsLimits rfl rfl rfl vdX8_readsLimits ⟨Nat.le_of_ble_eq_true rfl, Nat.le_of_ble_eq_true rfl⟩) (oB.recv hK hM.1 rfl) hM hK hS (fun _ h => h) rfl hl.1 rfl dX8_readsStatement_41 hcs (Nat.le_of_ble_eq_true rfl) (fun H locs hnew hsz hoth hS => ?_)
      obtain ⟨μ41, φ41, hM, kq_41, x_41, y_41, rw_41⟩ := hnew
      by_cases hs41 : xLim β n c = 0
      · have hw41 := (x_41 hs41).1
        have ht41 := (x_41 hs41).2.1
        have hf41 := (x_41 hs41).2.2
        have h7t41 := ht41.n7
        have h9t41 := ht41.be9
        have h8t41 := ht41.at8
        have h10t41 := ht41.ki10
        have hct41 := ht41.c0
        have hst41 := ht41.skb
        have htt41 := ht41.teb
        have hkt41 := Kd_b β n (cLim β n c)
        have hnt41 := fun z : Kd β n (cLim β n c) = 1 => ht41.nu z
        have hnb41 : Kd β n (cLim β n c) = 1 → (0 ≤ Nm β n (cLim β n c) ∧ Nm β n (cLim β n c) ≤ 9999999) := fun z => NmT_r (by omega) z
        refine lv_goto (pc := 44) (tgt := 101) E.1 E.2 dX8_readsStatement_44 (by decide) ?_
        refine lv_aload_n (pc := 101) E.1 E.2 dX8_readsStatement_101 rfl (lv_at hl 0 rfl) ?_
        refine lv_aload_n (pc := 102) E.1 E.2 dX8_readsStatement_102 rfl (lv_at hl 0 rfl) ?_
        refine g8_10 (pc := 103) E hts hin8 hown hK hM.1 (hts _ (List.mem_of_getElem? (i := 2) rfl)) dX8_readsStatement_103 ?_
        refine z_iconst (pc := 106) E dX8_readsStatement_106 ?_
        refine z_icmp_ne (pc := 107) (tgt := 127) E ⟨by omega, by omega⟩ (by decide) dX8_readsStatement_107 (by decide) (fun h107 => ?_) (fun h107 => ?_)
        · refine z_iconst (pc := 127) E dX8_readsStatement_127 ?_
          have hbs : β (μ41 8) = β (Sk β n (cLim β n c)) := by rw [(ht41).at8]
          have hse : Sk β n (cSt β n c) = Sk β n (cLim β n c) := by rw [eC]
          have hk3 := Kd_3 (b := β) (n := n) (c := (cLim β n c))
          have hre : REnd β n (cSt β n c) = -2 := by rw [eC]; exact REnd_n (fun z => by omega)
          refine z_wVv (pc := 128) (P1 := fun H9 : Heap => ∃ (μ128 : Int → Int), W8 G o (mV o μ128) σ φ41 κ β ω H9 ∧ (KQ μ128 μ41) ∧ (μ128 12 = -2) ∧ (μ128 13 = Sk β n (cLim β n c)) ∧ (μ128 15 = μ41 15) ∧ (μ128 8 = μ41 8) ∧ (μ128 10 = μ41 10)) (As := [.int (iI 0)]) (rest := []) E hml hown hts (mX8_mustFw lL G o μ41 σ φ41 κ β ω 0 n (cLim β n c) hb (by omega) (by omega) (by assumption)) (cwV 1 hts gX8_readsStatement_X8_must rfl rfl rfl vdX8_must ⟨Nat.le_of_ble_eq_true rfl, Nat.le_of_ble_eq_true rfl⟩) (oB.recv hK hM.1 rfl) hM hK hS (fun _ h => h) rfl hl.1 rfl dX8_readsStatement_128 hcs (Nat.le_of_ble_eq_true rfl) (fun H locs hnew hsz hoth hS => ?_)
          obtain ⟨μ128, hM, kq_128, e2_128, e3_128, e5_128, e8_128, e10_128⟩ := hnew
          have hw128 : ¬ μ128 12 = 0 := by omega
          exact z_retWv (P1 := fun H9 : Heap => ∃ (μ1 φ1 : Int → Int), W8 G o (mV o μ1) σ φ1 κ β ω H9 ∧ (KQ μ1 μ) ∧ (stX β n φ c = 0 → μ1 12 = 0 ∧ TKw β n μ1 (stC β n c) ∧ φ1 = fSt β n φ c) ∧ (¬ stX β n φ c = 0 → μ1 12 = stX β n φ c ∧ μ1 13 = stP β n φ c ∧ (0 ≤ μ1 8 ∧ μ1 8 ≤ 900) ∧ (0 ≤ μ1 10 ∧ μ1 10 ≤ 3)) ∧ (-9223372036854775808 ≤ μ1 15 ∧ μ1 15 < 9223372036854775808)) E hr ⟨μ128, φ41, hM, (kq_128.t (kq_41.t (KQ.rf μ))), (fun z => absurd z (by unfold stX; omega)), (fun z => And.intro (by unfold stX; omega) (And.intro (by unfold stP; omega) (by omega))), (by omega)⟩ hS hlocks dX8_readsStatement_131
        · have h7q : μ41 7 = μ 7 := ((kq_41.t (KQ.rf μ))).2.2.2.1
          refine lv_aload_n (pc := 110) E.1 E.2 dX8_readsStatement_110 rfl (lv_at hl 0 rfl) ?_
          refine lv_aload_n (pc := 111) E.1 E.2 dX8_readsStatement_111 rfl (lv_at hl 0 rfl) ?_
          refine g8_8 (pc := 112) E hts hin8 hown hK hM.1 (hts _ (List.mem_of_getElem? (i := 3) rfl)) dX8_readsStatement_112 ?_
          refine z_rVi (pc := 115) (As := [.int (iI (μ41 8))]) (rest := [.ref (o 0)]) E hml hown hts (mX8_see lL G o μ41 σ φ41 κ β ω (μ41 8) (by omega) (by omega) (by omega)) (cwV 1 hts gX8_readsStatement_X8_see rfl rfl rfl vdX8_see ⟨Nat.le_of_ble_eq_true rfl, Nat.le_of_ble_eq_true rfl⟩) (oB.recv hK hM.1 rfl) hM hK rfl hl.1 rfl dX8_readsStatement_115 hcs (Nat.le_of_ble_eq_true rfl) ?_
          have hv115 := see_v β (μ41 7) (μ41 8)
          have hb115 := see_b (n := μ41 7) (k := μ41 8) hb (by omega) (by omega)
          refine z_bipush (pc := 118) E (by decide) dX8_readsStatement_118 ?_
          refine z_icmp_ne (pc := 120) (tgt := 127) E ⟨by omega, by omega⟩ (by decide) dX8_readsStatement_120 (by decide) (fun h120 => ?_) (fun h120 => ?_)
          · refine z_iconst (pc := 127) E dX8_readsStatement_127 ?_
            have hbs : β (μ41 8) = β (Sk β n (cLim β n c)) := by rw [(ht41).at8]
            have hse : Sk β n (cSt β n c) = Sk β n (cLim β n c) := by rw [eC]
            have hk3 := Kd_3 (b := β) (n := n) (c := (cLim β n c))
            have hre : REnd β n (cSt β n c) = -2 := by rw [eC]; exact REnd_n (fun z => by omega)
            refine z_wVv (pc := 128) (P1 := fun H9 : Heap => ∃ (μ128 : Int → Int), W8 G o (mV o μ128) σ φ41 κ β ω H9 ∧ (KQ μ128 μ41) ∧ (μ128 12 = -2) ∧ (μ128 13 = Sk β n (cLim β n c)) ∧ (μ128 15 = μ41 15) ∧ (μ128 8 = μ41 8) ∧ (μ128 10 = μ41 10)) (As := [.int (iI 0)]) (rest := []) E hml hown hts (mX8_mustFw lL G o μ41 σ φ41 κ β ω 0 n (cLim β n c) hb (by omega) (by omega) (by assumption)) (cwV 1 hts gX8_readsStatement_X8_must rfl rfl rfl vdX8_must ⟨Nat.le_of_ble_eq_true rfl, Nat.le_of_ble_eq_true rfl⟩) (oB.recv hK hM.1 rfl) hM hK hS (fun _ h => h) rfl hl.1 rfl dX8_readsStatement_128 hcs (Nat.le_of_ble_eq_true rfl) (fun H locs hnew hsz hoth hS => ?_)
            obtain ⟨μ128, hM, kq_128, e2_128, e3_128, e5_128, e8_128, e10_128⟩ := hnew
            have hw128 : ¬ μ128 12 = 0 := by omega
            exact z_retWv (P1 := fun H9 : Heap => ∃ (μ1 φ1 : Int → Int), W8 G o (mV o μ1) σ φ1 κ β ω H9 ∧ (KQ μ1 μ) ∧ (stX β n φ c = 0 → μ1 12 = 0 ∧ TKw β n μ1 (stC β n c) ∧ φ1 = fSt β n φ c) ∧ (¬ stX β n φ c = 0 → μ1 12 = stX β n φ c ∧ μ1 13 = stP β n φ c ∧ (0 ≤ μ1 8 ∧ μ1 8 ≤ 900) ∧ (0 ≤ μ1 10 ∧ μ1 10 ≤ 3)) ∧ (-9223372036854775808 ≤ μ1 15 ∧ μ1 15 < 9223372036854775808)) E hr ⟨μ128, φ41, hM, (kq_128.t (kq_41.t (KQ.rf μ))), (fun z => absurd z (by unfold stX; omega)), (fun z => And.intro (by unfold stX; omega) (And.intro (by unfold stP; omega) (by omega))), (by omega)⟩ hS hlocks dX8_readsStatement_131
          · refine z_iconst (pc := 123) E dX8_readsStatement_123 ?_
            refine lv_goto (pc := 124) (tgt := 128) E.1 E.2 dX8_readsStatement_124 (by decide) ?_
            have hbs : β (μ41 8) = β (Sk β n (cLim β n c)) := by rw [(ht41).at8]
            have hse : Sk β n (cSt β n c) = Sk β n (cLim β n c) := by rw [eC]
            have hk3 := Kd_3 (b := β) (n := n) (c := (cLim β n c))
            have hre : REnd β n (cSt β n c) = 0 := by rw [eC]; exact REnd_y ⟨by omega, by omega⟩
            refine z_wVv (pc := 128) (P1 := fun H9 : Heap => ∃ (μ128 : Int → Int), W8 G o (mV o μ128) σ φ41 κ β ω H9 ∧ (KQ μ128 μ41) ∧ (μ128 12 = 0) ∧ (TKw β n μ128 (Te β n (cLim β n c))) ∧ (-9223372036854775808 ≤ μ128 15 ∧ μ128 15 < 9223372036854775808)) (As := [.int (iI 1)]) (rest := []) E hml hown hts (mX8_mustTw lL G o μ41 σ φ41 κ β ω 1 n (cLim β n c) hb (by omega) (by omega) (by assumption)) (cwV 1 hts gX8_readsStatement_X8_must rfl rfl rfl vdX8_must ⟨Nat.le_of_ble_eq_true rfl, Nat.le_of_ble_eq_true rfl⟩) (oB.recv hK hM.1 rfl) hM hK hS (fun _ h => h) rfl hl.1 rfl dX8_readsStatement_128 hcs (Nat.le_of_ble_eq_true rfl) (fun H locs hnew hsz hoth hS => ?_)
            obtain ⟨μ128, hM, kq_128, e2_128, tk_128, rw_128⟩ := hnew
            have h7t128 := tk_128.n7
            have h9t128 := tk_128.be9
            have h8t128 := tk_128.at8
            have h10t128 := tk_128.ki10
            have hct128 := tk_128.c0
            have hst128 := tk_128.skb
            have htt128 := tk_128.teb
            have hkt128 := Kd_b β n (Te β n (cLim β n c))
            have hnt128 := fun z : Kd β n (Te β n (cLim β n c)) = 1 => tk_128.nu z
            have hnb128 : Kd β n (Te β n (cLim β n c)) = 1 → (0 ≤ Nm β n (Te β n (cLim β n c)) ∧ Nm β n (Te β n (cLim β n c)) ≤ 9999999) := fun z => NmT_r (by omega) z
            exact z_retWv (P1 := fun H9 : Heap => ∃ (μ1 φ1 : Int → Int), W8 G o (mV o μ1) σ φ1 κ β ω H9 ∧ (KQ μ1 μ) ∧ (stX β n φ c = 0 → μ1 12 = 0 ∧ TKw β n μ1 (stC β n c) ∧ φ1 = fSt β n φ c) ∧ (¬ stX β n φ c = 0 → μ1 12 = stX β n φ c ∧ μ1 13 = stP β n φ c ∧ (0 ≤ μ1 8 ∧ μ1 8 ≤ 900) ∧ (0 ≤ μ1 10 ∧ μ1 10 ≤ 3)) ∧ (-9223372036854775808 ≤ μ1 15 ∧ μ1 15 < 9223372036854775808)) E hr ⟨μ128, φ41, hM, (kq_128.t (kq_41.t (KQ.rf μ))), (fun _ => And.intro (by omega) (And.intro (by unfold stC; rw [eC]; exact tk_128) (by first | (rw [eF]; done) | (rw [eF]; assumption)))), (fun z => absurd (by unfold stX; omega) z), (by omega)⟩ hS hlocks dX8_readsStatement_131
      have hy41 := y_41 hs41
      have hu41 := xLim_b β φ n c
      have hw41 : ¬ μ41 12 = 0 := fun z => hs41 (hy41.1.symm.trans z)
      refine lv_goto (pc := 44) (tgt := 101) E.1 E.2 dX8_readsStatement_44 (by decide) ?_
      refine lv_aload_n (pc := 101) E.1 E.2 dX8_readsStatement_101 rfl (lv_at hl 0 rfl) ?_
      refine lv_aload_n (pc := 102) E.1 E.2 dX8_readsStatement_102 rfl (lv_at hl 0 rfl) ?_
      refine g8_10 (pc := 103) E hts hin8 hown hK hM.1 (hts _ (List.mem_of_getElem? (i := 2) rfl)) dX8_readsStatement_103 ?_
      refine z_iconst (pc := 106) E dX8_readsStatement_106 ?_
      refine z_icmp_ne (pc := 107) (tgt := 127) E ⟨by omega, by omega⟩ (by decide) dX8_readsStatement_107 (by decide) (fun h107 => ?_) (fun h107 => ?_)
      · refine z_iconst (pc := 127) E dX8_readsStatement_127 ?_
        refine z_rVv (pc := 128) (As := [.int (iI 0)]) (rest := []) E hml hown hts (mX8_mustN lL G o μ41 σ φ41 κ β ω 0 (by omega) (by omega) (by omega)) (cwV 1 hts gX8_readsStatement_X8_must rfl rfl rfl vdX8_must ⟨Nat.le_of_ble_eq_true rfl, Nat.le_of_ble_eq_true rfl⟩) (oB.recv hK hM.1 rfl) hM hK rfl hl.1 rfl dX8_readsStatement_128 hcs (Nat.le_of_ble_eq_true rfl) ?_
        exact z_retWv (P1 := fun H9 : Heap => ∃ (μ1 φ1 : Int → Int), W8 G o (mV o μ1) σ φ1 κ β ω H9 ∧ (KQ μ1 μ) ∧ (stX β n φ c = 0 → μ1 12 = 0 ∧ TKw β n μ1 (stC β n c) ∧ φ1 = fSt β n φ c) ∧ (¬ stX β n φ c = 0 → μ1 12 = stX β n φ c ∧ μ1 13 = stP β n φ c ∧ (0 ≤ μ1 8 ∧ μ1 8 ≤ 900) ∧ (0 ≤ μ1 10 ∧ μ1 10 ≤ 3)) ∧ (-9223372036854775808 ≤ μ1 15 ∧ μ1 15 < 9223372036854775808)) E hr ⟨μ41, φ41, hM, (kq_41.t (KQ.rf μ)), (fun z => absurd z (by unfold stX; omega)), (fun z => And.intro (by unfold stX; omega) (And.intro (by unfold stP; omega) (by omega))), (by omega)⟩ hS hlocks dX8_readsStatement_131
      · have h7q : μ41 7 = μ 7 := ((kq_41.t (KQ.rf μ))).2.2.2.1
        refine lv_aload_n (pc := 110) E.1 E.2 dX8_readsStatement_110 rfl (lv_at hl 0 rfl) ?_
        refine lv_aload_n (pc := 111) E.1 E.2 dX8_readsStatement_111 rfl (lv_at hl 0 rfl) ?_
        refine g8_8 (pc := 112) E hts hin8 hown hK hM.1 (hts _ (List.mem_of_getElem? (i := 3) rfl)) dX8_readsStatement_112 ?_
        refine z_rVi (pc := 115) (As := [.int (iI (μ41 8))]) (rest := [.ref (o 0)]) E hml hown hts (mX8_see lL G o μ41 σ φ41 κ β ω (μ41 8) (by omega) (by omega) (by omega)) (cwV 1 hts gX8_readsStatement_X8_see rfl rfl rfl vdX8_see ⟨Nat.le_of_ble_eq_true rfl, Nat.le_of_ble_eq_true rfl⟩) (oB.recv hK hM.1 rfl) hM hK rfl hl.1 rfl dX8_readsStatement_115 hcs (Nat.le_of_ble_eq_true rfl) ?_
        have hv115 := see_v β (μ41 7) (μ41 8)
        have hb115 := see_b (n := μ41 7) (k := μ41 8) hb (by omega) (by omega)
        refine z_bipush (pc := 118) E (by decide) dX8_readsStatement_118 ?_
        refine z_icmp_ne (pc := 120) (tgt := 127) E ⟨by omega, by omega⟩ (by decide) dX8_readsStatement_120 (by decide) (fun h120 => ?_) (fun h120 => ?_)
        · refine z_iconst (pc := 127) E dX8_readsStatement_127 ?_
          refine z_rVv (pc := 128) (As := [.int (iI 0)]) (rest := []) E hml hown hts (mX8_mustN lL G o μ41 σ φ41 κ β ω 0 (by omega) (by omega) (by omega)) (cwV 1 hts gX8_readsStatement_X8_must rfl rfl rfl vdX8_must ⟨Nat.le_of_ble_eq_true rfl, Nat.le_of_ble_eq_true rfl⟩) (oB.recv hK hM.1 rfl) hM hK rfl hl.1 rfl dX8_readsStatement_128 hcs (Nat.le_of_ble_eq_true rfl) ?_
          exact z_retWv (P1 := fun H9 : Heap => ∃ (μ1 φ1 : Int → Int), W8 G o (mV o μ1) σ φ1 κ β ω H9 ∧ (KQ μ1 μ) ∧ (stX β n φ c = 0 → μ1 12 = 0 ∧ TKw β n μ1 (stC β n c) ∧ φ1 = fSt β n φ c) ∧ (¬ stX β n φ c = 0 → μ1 12 = stX β n φ c ∧ μ1 13 = stP β n φ c ∧ (0 ≤ μ1 8 ∧ μ1 8 ≤ 900) ∧ (0 ≤ μ1 10 ∧ μ1 10 ≤ 3)) ∧ (-9223372036854775808 ≤ μ1 15 ∧ μ1 15 < 9223372036854775808)) E hr ⟨μ41, φ41, hM, (kq_41.t (KQ.rf μ)), (fun z => absurd z (by unfold stX; omega)), (fun z => And.intro (by unfold stX; omega) (And.intro (by unfold stP; omega) (by omega))), (by omega)⟩ hS hlocks dX8_readsStatement_131
        · refine z_iconst (pc := 123) E dX8_readsStatement_123 ?_
          refine lv_goto (pc := 124) (tgt := 128) E.1 E.2 dX8_readsStatement_124 (by decide) ?_
          refine z_rVv (pc := 128) (As := [.int (iI 1)]) (rest := []) E hml hown hts (mX8_mustN lL G o μ41 σ φ41 κ β ω 1 (by omega) (by omega) (by omega)) (cwV 1 hts gX8_readsStatement_X8_must rfl rfl rfl vdX8_must ⟨Nat.le_of_ble_eq_true rfl, Nat.le_of_ble_eq_true rfl⟩) (oB.recv hK hM.1 rfl) hM hK rfl hl.1 rfl dX8_readsStatement_128 hcs (Nat.le_of_ble_eq_true rfl) ?_
          exact z_retWv (P1 := fun H9 : Heap => ∃ (μ1 φ1 : Int → Int), W8 G o (mV o μ1) σ φ1 κ β ω H9 ∧ (KQ μ1 μ) ∧ (stX β n φ c = 0 → μ1 12 = 0 ∧ TKw β n μ1 (stC β n c) ∧ φ1 = fSt β n φ c) ∧ (¬ stX β n φ c = 0 → μ1 12 = stX β n φ c ∧ μ1 13 = stP β n φ c ∧ (0 ≤ μ1 8 ∧ μ1 8 ≤ 900) ∧ (0 ≤ μ1 10 ∧ μ1 10 ≤ 3)) ∧ (-9223372036854775808 ≤ μ1 15 ∧ μ1 15 < 9223372036854775808)) E hr ⟨μ41, φ41, hM, (kq_41.t (KQ.rf μ)), (fun z => absurd z (by unfold stX; omega)), (fun z => And.intro (by unfold stX; omega) (And.intro (by unfold stP; omega) (by omega))), (by omega)⟩ hS hlocks dX8_readsStatement_131
  · have eX : xSt β n φ c = RNum β n (Te β n c) 1 99 := by unfold xSt xGr; rw [if_pos h6]
    have eP : pSt β n φ c = Sk β n (Te β n c) := by unfold pSt; rw [if_pos h6]
    have eC : cSt β n c = Te β n (Te β n c) := by unfold cSt; rw [if_pos h6]
    have eF : fSt β n φ c = zu φ 1 (Nm β n (Te β n c)) := by unfold fSt; rw [if_pos h6]
    refine lv_aload_n (pc := 9) E.1 E.2 dX8_readsStatement_9 rfl (lv_at hl 0 rfl) ?_
    refine z_iconst (pc := 10) E dX8_readsStatement_10 ?_
    refine z_wVv (pc := 11) (P1 := fun H9 : Heap => ∃ (μ11 : Int → Int), W8 G o (mV o μ11) σ φ κ β ω H9 ∧ (KQ μ11 μ) ∧ (μ11 12 = 0) ∧ (TKw β n μ11 (Te β n c)) ∧ (-9223372036854775808 ≤ μ11 15 ∧ μ11 15 < 9223372036854775808)) (As := [.int (iI 1)]) (rest := []) E hml hown hts (mX8_mustTw lL G o μ σ φ κ β ω 1 n c hb (by omega) (by omega) (by assumption)) (cwV 1 hts gX8_readsStatement_X8_must rfl rfl rfl vdX8_must ⟨Nat.le_of_ble_eq_true rfl, Nat.le_of_ble_eq_true rfl⟩) (oB.recv hK hM.1 rfl) hM hK hS (fun _ h => h) rfl hl.1 rfl dX8_readsStatement_11 hcs (Nat.le_of_ble_eq_true rfl) (fun H locs hnew hsz hoth hS => ?_)
    obtain ⟨μ11, hM, kq_11, e2_11, tk_11, rw_11⟩ := hnew
    have h7t11 := tk_11.n7
    have h9t11 := tk_11.be9
    have h8t11 := tk_11.at8
    have h10t11 := tk_11.ki10
    have hct11 := tk_11.c0
    have hst11 := tk_11.skb
    have htt11 := tk_11.teb
    have hkt11 := Kd_b β n (Te β n c)
    have hnt11 := fun z : Kd β n (Te β n c) = 1 => tk_11.nu z
    have hnb11 : Kd β n (Te β n c) = 1 → (0 ≤ Nm β n (Te β n c) ∧ Nm β n (Te β n c) ≤ 9999999) := fun z => NmT_r (by omega) z
    refine lv_aload_n (pc := 14) E.1 E.2 dX8_readsStatement_14 rfl (lv_at hl 0 rfl) ?_
    refine g8_1 (pc := 15) E hts hin8 hown hK hM.1 (hts _ (List.mem_of_getElem? (i := 1) rfl)) dX8_readsStatement_15 ?_
    refine z_iconst (pc := 18) E dX8_readsStatement_18 ?_
    refine lv_aload_n (pc := 19) E.1 E.2 dX8_readsStatement_19 rfl (lv_at hl 0 rfl) ?_
    refine z_iconst (pc := 20) E dX8_readsStatement_20 ?_
    refine z_bipush (pc := 21) E (by decide) dX8_readsStatement_21 ?_
    refine z_wVi (pc := 23) (P1 := fun H9 : Heap => ∃ (μ23 : Int → Int), W8 G o (mV o μ23) σ φ κ β ω H9 ∧ (KQ μ23 μ11) ∧ (RNum β n (Te β n c) 1 99 = 0 → μ23 12 = 0 ∧ TKw β n μ23 (Te β n (Te β n c))) ∧ (¬ RNum β n (Te β n c) 1 99 = 0 → μ23 12 = RNum β n (Te β n c) 1 99 ∧ μ23 13 = Sk β n (Te β n c) ∧ (0 ≤ μ23 8 ∧ μ23 8 ≤ 900) ∧ (0 ≤ μ23 10 ∧ μ23 10 ≤ 3)) ∧ (-9223372036854775808 ≤ μ23 15 ∧ μ23 15 < 9223372036854775808)) (As := [.int (iI 1), .int (iI 99)]) (rest := [.int (iI 1), .ref (o 2)]) E hml hown hts (mX8_takesZw lL G o μ11 σ φ κ β ω 1 99 n (Te β n c) hb (by omega) (by omega) (by omega) (by assumption) (by omega)) (cwV 2 hts gX8_readsStatement_X8_takes rfl rfl rfl vdX8_takes ⟨Nat.le_of_ble_eq_true rfl, Nat.le_of_ble_eq_true rfl⟩) (oB.recv hK hM.1 rfl) hM hK hS (fun _ h => h) rfl hl.1 rfl dX8_readsStatement_23 hcs (Nat.le_of_ble_eq_true rfl) (fun H locs hnew hsz hoth hS => ?_)
    obtain ⟨μ23, hM, kq_23, x_23, y_23, rw_23⟩ := hnew
    by_cases hs23 : RNum β n (Te β n c) 1 99 = 0
    · have hw23 := (x_23 hs23).1
      have ht23 := (x_23 hs23).2
      have hq23 := RNum_0 hs23
      rw [if_pos hs23]
      have h7t23 := ht23.n7
      have h9t23 := ht23.be9
      have h8t23 := ht23.at8
      have h10t23 := ht23.ki10
      have hct23 := ht23.c0
      have hst23 := ht23.skb
      have htt23 := ht23.teb
      have hkt23 := Kd_b β n (Te β n (Te β n c))
      have hnt23 := fun z : Kd β n (Te β n (Te β n c)) = 1 => ht23.nu z
      have hnb23 : Kd β n (Te β n (Te β n c)) = 1 → (0 ≤ Nm β n (Te β n (Te β n c)) ∧ Nm β n (Te β n (Te β n c)) ≤ 9999999) := fun z => NmT_r (by omega) z
      refine z_i2l (pc := 26) E ⟨by omega, by omega⟩ dX8_readsStatement_26 ?_
      refine z_lastore (pc := 27) E hK hM.2.2.1 hS (Ax.at 2 (by decide)) ⟨by omega, by omega⟩ (by decide) dX8_readsStatement_27 (fun H locs hnew hoth hS => ?_)
      have hM := W8.a2 hM hnew (fun a _ h => hoth a h)
      refine lv_goto (pc := 28) (tgt := 101) E.1 E.2 dX8_readsStatement_28 (by decide) ?_
      refine lv_aload_n (pc := 101) E.1 E.2 dX8_readsStatement_101 rfl (lv_at hl 0 rfl) ?_
      refine lv_aload_n (pc := 102) E.1 E.2 dX8_readsStatement_102 rfl (lv_at hl 0 rfl) ?_
      refine g8_10 (pc := 103) E hts hin8 hown hK hM.1 (hts _ (List.mem_of_getElem? (i := 2) rfl)) dX8_readsStatement_103 ?_
      refine z_iconst (pc := 106) E dX8_readsStatement_106 ?_
      refine z_icmp_ne (pc := 107) (tgt := 127) E ⟨by omega, by omega⟩ (by decide) dX8_readsStatement_107 (by decide) (fun h107 => ?_) (fun h107 => ?_)
      · refine z_iconst (pc := 127) E dX8_readsStatement_127 ?_
        have hbs : β (μ23 8) = β (Sk β n (Te β n (Te β n c))) := by rw [(ht23).at8]
        have hse : Sk β n (cSt β n c) = Sk β n (Te β n (Te β n c)) := by rw [eC]
        have hk3 := Kd_3 (b := β) (n := n) (c := (Te β n (Te β n c)))
        have hre : REnd β n (cSt β n c) = -2 := by rw [eC]; exact REnd_n (fun z => by omega)
        refine z_wVv (pc := 128) (P1 := fun H9 : Heap => ∃ (μ128 : Int → Int), W8 G o (mV o μ128) σ (zu φ 1 (Nm β n (Te β n c))) κ β ω H9 ∧ (KQ μ128 μ23) ∧ (μ128 12 = -2) ∧ (μ128 13 = Sk β n (Te β n (Te β n c))) ∧ (μ128 15 = μ23 15) ∧ (μ128 8 = μ23 8) ∧ (μ128 10 = μ23 10)) (As := [.int (iI 0)]) (rest := []) E hml hown hts (mX8_mustFw lL G o μ23 σ (zu φ 1 (Nm β n (Te β n c))) κ β ω 0 n (Te β n (Te β n c)) hb (by omega) (by omega) (by assumption)) (cwV 1 hts gX8_readsStatement_X8_must rfl rfl rfl vdX8_must ⟨Nat.le_of_ble_eq_true rfl, Nat.le_of_ble_eq_true rfl⟩) (oB.recv hK hM.1 rfl) hM hK hS (fun _ h => h) rfl hl.1 rfl dX8_readsStatement_128 hcs (Nat.le_of_ble_eq_true rfl) (fun H locs hnew hsz hoth hS => ?_)
        obtain ⟨μ128, hM, kq_128, e2_128, e3_128, e5_128, e8_128, e10_128⟩ := hnew
        have hw128 : ¬ μ128 12 = 0 := by omega
        exact z_retWv (P1 := fun H9 : Heap => ∃ (μ1 φ1 : Int → Int), W8 G o (mV o μ1) σ φ1 κ β ω H9 ∧ (KQ μ1 μ) ∧ (stX β n φ c = 0 → μ1 12 = 0 ∧ TKw β n μ1 (stC β n c) ∧ φ1 = fSt β n φ c) ∧ (¬ stX β n φ c = 0 → μ1 12 = stX β n φ c ∧ μ1 13 = stP β n φ c ∧ (0 ≤ μ1 8 ∧ μ1 8 ≤ 900) ∧ (0 ≤ μ1 10 ∧ μ1 10 ≤ 3)) ∧ (-9223372036854775808 ≤ μ1 15 ∧ μ1 15 < 9223372036854775808)) E hr ⟨μ128, (zu φ 1 (Nm β n (Te β n c))), hM, (kq_128.t (kq_23.t (kq_11.t (KQ.rf μ)))), (fun z => absurd z (by unfold stX; omega)), (fun z => And.intro (by unfold stX; omega) (And.intro (by unfold stP; omega) (by omega))), (by omega)⟩ hS hlocks dX8_readsStatement_131
      · have h7q : μ23 7 = μ 7 := ((kq_23.t (kq_11.t (KQ.rf μ)))).2.2.2.1
        refine lv_aload_n (pc := 110) E.1 E.2 dX8_readsStatement_110 rfl (lv_at hl 0 rfl) ?_
        refine lv_aload_n (pc := 111) E.1 E.2 dX8_readsStatement_111 rfl (lv_at hl 0 rfl) ?_
        refine g8_8 (pc := 112) E hts hin8 hown hK hM.1 (hts _ (List.mem_of_getElem? (i := 3) rfl)) dX8_readsStatement_112 ?_
        refine z_rVi (pc := 115) (As := [.int (iI (μ23 8))]) (rest := [.ref (o 0)]) E hml hown hts (mX8_see lL G o μ23 σ (zu φ 1 (Nm β n (Te β n c))) κ β ω (μ23 8) (by omega) (by omega) (by omega)) (cwV 1 hts gX8_readsStatement_X8_see rfl rfl rfl vdX8_see ⟨Nat.le_of_ble_eq_true rfl, Nat.le_of_ble_eq_true rfl⟩) (oB.recv hK hM.1 rfl) hM hK rfl hl.1 rfl dX8_readsStatement_115 hcs (Nat.le_of_ble_eq_true rfl) ?_
        have hv115 := see_v β (μ23 7) (μ23 8)
        have hb115 := see_b (n := μ23 7) (k := μ23 8) hb (by omega) (by omega)
        refine z_bipush (pc := 118) E (by decide) dX8_readsStatement_118 ?_
        refine z_icmp_ne (pc := 120) (tgt := 127) E ⟨by omega, by omega⟩ (by decide) dX8_readsStatement_120 (by decide) (fun h120 => ?_) (fun h120 => ?_)
        · refine z_iconst (pc := 127) E dX8_readsStatement_127 ?_
          have hbs : β (μ23 8) = β (Sk β n (Te β n (Te β n c))) := by rw [(ht23).at8]
          have hse : Sk β n (cSt β n c) = Sk β n (Te β n (Te β n c)) := by rw [eC]
          have hk3 := Kd_3 (b := β) (n := n) (c := (Te β n (Te β n c)))
          have hre : REnd β n (cSt β n c) = -2 := by rw [eC]; exact REnd_n (fun z => by omega)
          refine z_wVv (pc := 128) (P1 := fun H9 : Heap => ∃ (μ128 : Int → Int), W8 G o (mV o μ128) σ (zu φ 1 (Nm β n (Te β n c))) κ β ω H9 ∧ (KQ μ128 μ23) ∧ (μ128 12 = -2) ∧ (μ128 13 = Sk β n (Te β n (Te β n c))) ∧ (μ128 15 = μ23 15) ∧ (μ128 8 = μ23 8) ∧ (μ128 10 = μ23 10)) (As := [.int (iI 0)]) (rest := []) E hml hown hts (mX8_mustFw lL G o μ23 σ (zu φ 1 (Nm β n (Te β n c))) κ β ω 0 n (Te β n (Te β n c)) hb (by omega) (by omega) (by assumption)) (cwV 1 hts gX8_readsStatement_X8_must rfl rfl rfl vdX8_must ⟨Nat.le_of_ble_eq_true rfl, Nat.le_of_ble_eq_true rfl⟩) (oB.recv hK hM.1 rfl) hM hK hS (fun _ h => h) rfl hl.1 rfl dX8_readsStatement_128 hcs (Nat.le_of_ble_eq_true rfl) (fun H locs hnew hsz hoth hS => ?_)
          obtain ⟨μ128, hM, kq_128, e2_128, e3_128, e5_128, e8_128, e10_128⟩ := hnew
          have hw128 : ¬ μ128 12 = 0 := by omega
          exact z_retWv (P1 := fun H9 : Heap => ∃ (μ1 φ1 : Int → Int), W8 G o (mV o μ1) σ φ1 κ β ω H9 ∧ (KQ μ1 μ) ∧ (stX β n φ c = 0 → μ1 12 = 0 ∧ TKw β n μ1 (stC β n c) ∧ φ1 = fSt β n φ c) ∧ (¬ stX β n φ c = 0 → μ1 12 = stX β n φ c ∧ μ1 13 = stP β n φ c ∧ (0 ≤ μ1 8 ∧ μ1 8 ≤ 900) ∧ (0 ≤ μ1 10 ∧ μ1 10 ≤ 3)) ∧ (-9223372036854775808 ≤ μ1 15 ∧ μ1 15 < 9223372036854775808)) E hr ⟨μ128, (zu φ 1 (Nm β n (Te β n c))), hM, (kq_128.t (kq_23.t (kq_11.t (KQ.rf μ)))), (fun z => absurd z (by unfold stX; omega)), (fun z => And.intro (by unfold stX; omega) (And.intro (by unfold stP; omega) (by omega))), (by omega)⟩ hS hlocks dX8_readsStatement_131
        · refine z_iconst (pc := 123) E dX8_readsStatement_123 ?_
          refine lv_goto (pc := 124) (tgt := 128) E.1 E.2 dX8_readsStatement_124 (by decide) ?_
          have hbs : β (μ23 8) = β (Sk β n (Te β n (Te β n c))) := by rw [(ht23).at8]
          have hse : Sk β n (cSt β n c) = Sk β n (Te β n (Te β n c)) := by rw [eC]
          have hk3 := Kd_3 (b := β) (n := n) (c := (Te β n (Te β n c)))
          have hre : REnd β n (cSt β n c) = 0 := by rw [eC]; exact REnd_y ⟨by omega, by omega⟩
          refine z_wVv (pc := 128) (P1 := fun H9 : Heap => ∃ (μ128 : Int → Int), W8 G o (mV o μ128) σ (zu φ 1 (Nm β n (Te β n c))) κ β ω H9 ∧ (KQ μ128 μ23) ∧ (μ128 12 = 0) ∧ (TKw β n μ128 (Te β n (Te β n (Te β n c)))) ∧ (-9223372036854775808 ≤ μ128 15 ∧ μ128 15 < 9223372036854775808)) (As := [.int (iI 1)]) (rest := []) E hml hown hts (mX8_mustTw lL G o μ23 σ (zu φ 1 (Nm β n (Te β n c))) κ β ω 1 n (Te β n (Te β n c)) hb (by omega) (by omega) (by assumption)) (cwV 1 hts gX8_readsStatement_X8_must rfl rfl rfl vdX8_must ⟨Nat.le_of_ble_eq_true rfl, Nat.le_of_ble_eq_true rfl⟩) (oB.recv hK hM.1 rfl) hM hK hS (fun _ h => h) rfl hl.1 rfl dX8_readsStatement_128 hcs (Nat.le_of_ble_eq_true rfl) (fun H locs hnew hsz hoth hS => ?_)
          obtain ⟨μ128, hM, kq_128, e2_128, tk_128, rw_128⟩ := hnew
          have h7t128 := tk_128.n7
          have h9t128 := tk_128.be9
          have h8t128 := tk_128.at8
          have h10t128 := tk_128.ki10
          have hct128 := tk_128.c0
          have hst128 := tk_128.skb
          have htt128 := tk_128.teb
          have hkt128 := Kd_b β n (Te β n (Te β n (Te β n c)))
          have hnt128 := fun z : Kd β n (Te β n (Te β n (Te β n c))) = 1 => tk_128.nu z
          have hnb128 : Kd β n (Te β n (Te β n (Te β n c))) = 1 → (0 ≤ Nm β n (Te β n (Te β n (Te β n c))) ∧ Nm β n (Te β n (Te β n (Te β n c))) ≤ 9999999) := fun z => NmT_r (by omega) z
          exact z_retWv (P1 := fun H9 : Heap => ∃ (μ1 φ1 : Int → Int), W8 G o (mV o μ1) σ φ1 κ β ω H9 ∧ (KQ μ1 μ) ∧ (stX β n φ c = 0 → μ1 12 = 0 ∧ TKw β n μ1 (stC β n c) ∧ φ1 = fSt β n φ c) ∧ (¬ stX β n φ c = 0 → μ1 12 = stX β n φ c ∧ μ1 13 = stP β n φ c ∧ (0 ≤ μ1 8 ∧ μ1 8 ≤ 900) ∧ (0 ≤ μ1 10 ∧ μ1 10 ≤ 3)) ∧ (-9223372036854775808 ≤ μ1 15 ∧ μ1 15 < 9223372036854775808)) E hr ⟨μ128, (zu φ 1 (Nm β n (Te β n c))), hM, (kq_128.t (kq_23.t (kq_11.t (KQ.rf μ)))), (fun _ => And.intro (by omega) (And.intro (by unfold stC; rw [eC]; exact tk_128) (by first | (rw [eF]; done) | (rw [eF]; assumption)))), (fun z => absurd (by unfold stX; omega) z), (by omega)⟩ hS hlocks dX8_readsStatement_131
    have hy23 := y_23 hs23
    have hu23 := RNum_b β n (Te β n c) 1 99
    have hw23 : ¬ μ23 12 = 0 := by omega
    rw [if_neg hs23]
    refine z_i2l (pc := 26) E (by decide) dX8_readsStatement_26 ?_
    refine z_lastore (pc := 27) E hK hM.2.2.1 hS (Ax.at 2 (by decide)) ⟨by omega, by omega⟩ (by decide) dX8_readsStatement_27 (fun H locs hnew hoth hS => ?_)
    have hM := W8.a2 hM hnew (fun a _ h => hoth a h)
    refine lv_goto (pc := 28) (tgt := 101) E.1 E.2 dX8_readsStatement_28 (by decide) ?_
    refine lv_aload_n (pc := 101) E.1 E.2 dX8_readsStatement_101 rfl (lv_at hl 0 rfl) ?_
    refine lv_aload_n (pc := 102) E.1 E.2 dX8_readsStatement_102 rfl (lv_at hl 0 rfl) ?_
    refine g8_10 (pc := 103) E hts hin8 hown hK hM.1 (hts _ (List.mem_of_getElem? (i := 2) rfl)) dX8_readsStatement_103 ?_
    refine z_iconst (pc := 106) E dX8_readsStatement_106 ?_
    refine z_icmp_ne (pc := 107) (tgt := 127) E ⟨by omega, by omega⟩ (by decide) dX8_readsStatement_107 (by decide) (fun h107 => ?_) (fun h107 => ?_)
    · refine z_iconst (pc := 127) E dX8_readsStatement_127 ?_
      refine z_rVv (pc := 128) (As := [.int (iI 0)]) (rest := []) E hml hown hts (mX8_mustN lL G o μ23 σ (zu φ 1 0) κ β ω 0 (by omega) (by omega) (by omega)) (cwV 1 hts gX8_readsStatement_X8_must rfl rfl rfl vdX8_must ⟨Nat.le_of_ble_eq_true rfl, Nat.le_of_ble_eq_true rfl⟩) (oB.recv hK hM.1 rfl) hM hK rfl hl.1 rfl dX8_readsStatement_128 hcs (Nat.le_of_ble_eq_true rfl) ?_
      exact z_retWv (P1 := fun H9 : Heap => ∃ (μ1 φ1 : Int → Int), W8 G o (mV o μ1) σ φ1 κ β ω H9 ∧ (KQ μ1 μ) ∧ (stX β n φ c = 0 → μ1 12 = 0 ∧ TKw β n μ1 (stC β n c) ∧ φ1 = fSt β n φ c) ∧ (¬ stX β n φ c = 0 → μ1 12 = stX β n φ c ∧ μ1 13 = stP β n φ c ∧ (0 ≤ μ1 8 ∧ μ1 8 ≤ 900) ∧ (0 ≤ μ1 10 ∧ μ1 10 ≤ 3)) ∧ (-9223372036854775808 ≤ μ1 15 ∧ μ1 15 < 9223372036854775808)) E hr ⟨μ23, (zu φ 1 0), hM, (kq_23.t (kq_11.t (KQ.rf μ))), (fun z => absurd z (by unfold stX; omega)), (fun z => And.intro (by unfold stX; omega) (And.intro (by unfold stP; omega) (by omega))), (by omega)⟩ hS hlocks dX8_readsStatement_131
    · have h7q : μ23 7 = μ 7 := ((kq_23.t (kq_11.t (KQ.rf μ)))).2.2.2.1
      refine lv_aload_n (pc := 110) E.1 E.2 dX8_readsStatement_110 rfl (lv_at hl 0 rfl) ?_
      refine lv_aload_n (pc := 111) E.1 E.2 dX8_readsStatement_111 rfl (lv_at hl 0 rfl) ?_
      refine g8_8 (pc := 112) E hts hin8 hown hK hM.1 (hts _ (List.mem_of_getElem? (i := 3) rfl)) dX8_readsStatement_112 ?_
      refine z_rVi (pc := 115) (As := [.int (iI (μ23 8))]) (rest := [.ref (o 0)]) E hml hown hts (mX8_see lL G o μ23 σ (zu φ 1 0) κ β ω (μ23 8) (by omega) (by omega) (by omega)) (cwV 1 hts gX8_readsStatement_X8_see rfl rfl rfl vdX8_see ⟨Nat.le_of_ble_eq_true rfl, Nat.le_of_ble_eq_true rfl⟩) (oB.recv hK hM.1 rfl) hM hK rfl hl.1 rfl dX8_readsStatement_115 hcs (Nat.le_of_ble_eq_true rfl) ?_
      have hv115 := see_v β (μ23 7) (μ23 8)
      have hb115 := see_b (n := μ23 7) (k := μ23 8) hb (by omega) (by omega)
      refine z_bipush (pc := 118) E (by decide) dX8_readsStatement_118 ?_
      refine z_icmp_ne (pc := 120) (tgt := 127) E ⟨by omega, by omega⟩ (by decide) dX8_readsStatement_120 (by decide) (fun h120 => ?_) (fun h120 => ?_)
      · refine z_iconst (pc := 127) E dX8_readsStatement_127 ?_
        refine z_rVv (pc := 128) (As := [.int (iI 0)]) (rest := []) E hml hown hts (mX8_mustN lL G o μ23 σ (zu φ 1 0) κ β ω 0 (by omega) (by omega) (by omega)) (cwV 1 hts gX8_readsStatement_X8_must rfl rfl rfl vdX8_must ⟨Nat.le_of_ble_eq_true rfl, Nat.le_of_ble_eq_true rfl⟩) (oB.recv hK hM.1 rfl) hM hK rfl hl.1 rfl dX8_readsStatement_128 hcs (Nat.le_of_ble_eq_true rfl) ?_
        exact z_retWv (P1 := fun H9 : Heap => ∃ (μ1 φ1 : Int → Int), W8 G o (mV o μ1) σ φ1 κ β ω H9 ∧ (KQ μ1 μ) ∧ (stX β n φ c = 0 → μ1 12 = 0 ∧ TKw β n μ1 (stC β n c) ∧ φ1 = fSt β n φ c) ∧ (¬ stX β n φ c = 0 → μ1 12 = stX β n φ c ∧ μ1 13 = stP β n φ c ∧ (0 ≤ μ1 8 ∧ μ1 8 ≤ 900) ∧ (0 ≤ μ1 10 ∧ μ1 10 ≤ 3)) ∧ (-9223372036854775808 ≤ μ1 15 ∧ μ1 15 < 9223372036854775808)) E hr ⟨μ23, (zu φ 1 0), hM, (kq_23.t (kq_11.t (KQ.rf μ))), (fun z => absurd z (by unfold stX; omega)), (fun z => And.intro (by unfold stX; omega) (And.intro (by unfold stP; omega) (by omega))), (by omega)⟩ hS hlocks dX8_readsStatement_131
      · refine z_iconst (pc := 123) E dX8_readsStatement_123 ?_
        refine lv_goto (pc := 124) (tgt := 128) E.1 E.2 dX8_readsStatement_124 (by decide) ?_
        refine z_rVv (pc := 128) (As := [.int (iI 1)]) (rest := []) E hml hown hts (mX8_mustN lL G o μ23 σ (zu φ 1 0) κ β ω 1 (by omega) (by omega) (by omega)) (cwV 1 hts gX8_readsStatement_X8_must rfl rfl rfl vdX8_must ⟨Nat.le_of_ble_eq_true rfl, Nat.le_of_ble_eq_true rfl⟩) (oB.recv hK hM.1 rfl) hM hK rfl hl.1 rfl dX8_readsStatement_128 hcs (Nat.le_of_ble_eq_true rfl) ?_
        exact z_retWv (P1 := fun H9 : Heap => ∃ (μ1 φ1 : Int → Int), W8 G o (mV o μ1) σ φ1 κ β ω H9 ∧ (KQ μ1 μ) ∧ (stX β n φ c = 0 → μ1 12 = 0 ∧ TKw β n μ1 (stC β n c) ∧ φ1 = fSt β n φ c) ∧ (¬ stX β n φ c = 0 → μ1 12 = stX β n φ c ∧ μ1 13 = stP β n φ c ∧ (0 ≤ μ1 8 ∧ μ1 8 ≤ 900) ∧ (0 ≤ μ1 10 ∧ μ1 10 ≤ 3)) ∧ (-9223372036854775808 ≤ μ1 15 ∧ μ1 15 < 9223372036854775808)) E hr ⟨μ23, (zu φ 1 0), hM, (kq_23.t (kq_11.t (KQ.rf μ))), (fun z => absurd z (by unfold stX; omega)), (fun z => And.intro (by unfold stX; omega) (And.intro (by unfold stP; omega) (by omega))), (by omega)⟩ hS hlocks dX8_readsStatement_131
