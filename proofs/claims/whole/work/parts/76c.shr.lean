set_option maxHeartbeats 1000000 in
set_option maxRecDepth 100000 in
theorem mX7_share (lL : Launch) (G : GG) (o : Nat → Nat) (ν σ : Int → Int) (π : Nat → Int → Int) (δ τ ω : Int → Int) (p : Int) (k : Int) (hI : In σ) (hp : -2147483648 ≤ p ∧ p < 2147483648) (hk : -2147483648 ≤ k ∧ k < 2147483648) (hok : (kxShare σ p k) = 0) : Met lL yX7_share wsX7_share ({ frames := 3, cells := 0, slots := 0, locals := 65 } : Room) (va_Pc [.ref (o 0), .int (iI p), .int (iI k)] (fun U => QT G o ν σ π δ τ ω U.heap ∧ KK G U)) (vp_Sf (fun r => r = (shB (σ (37 + (2 * p + k))) (lmS σ 21 p k)))) 0 0 (fun _ => False) := by
  refine z_met (P := (fun H : Heap => QT G o ν σ π δ τ ω H)) (by decide) rfl (Nat.le_of_ble_eq_true rfl) (fun pp ee ss mm below meth cC E hr hml hown hts hlocks hQ hK ls hl => ?_)
  have hl : lv_has ls 4 [(0, .ref (o 0)), (1, .int (iI p)), (2, .int (iI k))] := hl
  have hcs : 0 ≤ (({ frames := 3, cells := 0, slots := 0, locals := 65 } : Room)).cells ∧ 0 ≤ (({ frames := 3, cells := 0, slots := 0, locals := 65 } : Room)).slots := ⟨Nat.zero_le _, Nat.zero_le _⟩
  have hin6 : ∀ w ∈ wsX60, w ∈ wsX7_share := fun w h => List.mem_cons_of_mem _ (List.mem_append_left _ (List.mem_append_left _ (List.mem_append_left _ (List.mem_append_left _ (List.mem_append_right _ (h))))))
  have hin7 : ∀ w ∈ wsX70, w ∈ wsX7_share := fun w h => List.mem_cons_of_mem _ (List.mem_append_left _ (List.mem_append_left _ (List.mem_append_left _ (List.mem_append_left _ (List.mem_append_left _ (List.mem_append_right _ (h)))))))
  have hF := hI.F
  have hMm := hI.M
  have hGn := hI.Gn
  have hTi := hI.ti
  have hGr := hI.gr
  have hoc := kxShare_ok hok
  refine lv_iload_n (pc := 0) E.1 E.2 dX7_share_0 rfl (lv_at hl 1 rfl) ?_
  refine lv_iload_n (pc := 1) E.1 E.2 dX7_share_1 rfl (lv_at hl 2 rfl) ?_
  refine z_rSv (pc := 2) (P := fun _ => True) (As := [.int (iI p), .int (iI k)]) (rest := []) E hml hown hts (mX7_needAccount lL G p k (by omega) (by omega) (by omega)) (va_cwS 2 hts gX7_share_X7_needAccount rfl rfl rfl vdX7_needAccount.2 ⟨Nat.le_of_ble_eq_true rfl, Nat.le_of_ble_eq_true rfl⟩) trivial hK rfl hl.1 rfl dX7_share_2 hcs (Nat.le_of_ble_eq_true rfl) ?_
  refine lv_aload_n (pc := 5) E.1 E.2 dX7_share_5 rfl (lv_at hl 0 rfl) ?_
  refine g7_0 (pc := 6) E hts hin7 hown hK hQ.ob (hts _ (List.mem_of_getElem? (i := 3) rfl)) dX7_share_6 ?_
  refine lv_iload_n (pc := 9) E.1 E.2 dX7_share_9 rfl (lv_at hl 1 rfl) ?_
  refine lv_iload_n (pc := 10) E.1 E.2 dX7_share_10 rfl (lv_at hl 2 rfl) ?_
  refine z_iconst (pc := 11) E dX7_share_11 ?_
  refine z_rVi (pc := 12) (As := [.int (iI p), .int (iI k), .int (iI 1)]) (rest := []) E hml hown hts (mX6_effectiveLimit lL G (fun k => o (1 + k)) σ p k 1 hI (by omega) (by omega) (by omega)) (cwV 3 hts gX7_share_X6_effectiveLimit rfl rfl rfl vdX6_effectiveLimit ⟨Nat.le_of_ble_eq_true rfl, Nat.le_of_ble_eq_true rfl⟩) (oB.recv hK hQ.nob rfl) hQ.now hK rfl hl.1 rfl dX7_share_12 hcs (Nat.le_of_ble_eq_true rfl) ?_
  rw [show ((lmS σ (if (1 : Int) = 0 then 5 else 21) p k : Int)) = lmS σ 21 p k from rfl]
  have hac := hI.acc (k := 2 * p + k) (by omega) (by omega)
  have hlm := hI.lmb (t := 21) (Or.inr rfl) (p := p) (k := k) (by omega) (by omega)
  refine lv_istore_n (pc := 15) (lv' := [(3, .int (iI (lmS σ 21 p k))), (0, .ref (o 0)), (1, .int (iI p)), (2, .int (iI k))]) E.1 E.2 dX7_share_15 rfl hl (by decide) rfl (fun ls hl => ?_)
  refine lv_iload_n (pc := 16) E.1 E.2 dX7_share_16 rfl (lv_at hl 0 rfl) ?_
  refine z_if_gt (pc := 17) (tgt := 31) E ⟨by omega, by omega⟩ dX7_share_17 (by decide) (fun h17 => ?_) (fun h17 => ?_)
  · refine lv_aload_n (pc := 31) E.1 E.2 dX7_share_31 rfl (lv_at hl 1 rfl) ?_
    refine g7_0 (pc := 32) E hts hin7 hown hK hQ.ob (hts _ (List.mem_of_getElem? (i := 3) rfl)) dX7_share_32 ?_
    refine g6_2 (pc := 35) E hts hin6 hown hK hQ.nob (hts _ (List.mem_of_getElem? (i := 4) rfl)) dX7_share_35 ?_
    refine lv_iload_n (pc := 38) E.1 E.2 dX7_share_38 rfl (lv_at hl 2 rfl) ?_
    refine lv_iload_n (pc := 39) E.1 E.2 dX7_share_39 rfl (lv_at hl 3 rfl) ?_
    refine z_rSi (pc := 40) (P := fun _ => True) (As := [.int (iI p), .int (iI k)]) (rest := [.ref (o 9)]) E hml hown hts (mX7_accountOf lL G p k) (va_cwS 2 hts gX7_share_X7_accountOf rfl rfl rfl vdX7_accountOf.2 ⟨Nat.le_of_ble_eq_true rfl, Nat.le_of_ble_eq_true rfl⟩) trivial hK rfl hl.1 rfl dX7_share_40 hcs (Nat.le_of_ble_eq_true rfl) ?_
    refine z_rVi (pc := 43) (As := [.int (iI (2 * p + k))]) (rest := []) E hml hown hts (mX0_amountOf lL G (fun k => o (1 + (8 + k))) σ (2 * p + k)  (by omega)) (cwV 1 hts gX7_share_X0_amountOf rfl rfl rfl vdX0_amountOf ⟨Nat.le_of_ble_eq_true rfl, Nat.le_of_ble_eq_true rfl⟩) (oB.recv hK hQ.aco rfl) hQ.now.ac hK rfl hl.1 rfl dX7_share_43 hcs (Nat.le_of_ble_eq_true rfl) ?_
    rw [show (if 0 ≤ (2 * p + k) ∧ (2 * p + k) < 16 then σ (37 + (2 * p + k)) else 0) = (σ (37 + (2 * p + k))) from (if_pos (by omega))]
    refine lv_i2f (pc := 46) E.1 E.2 dX7_share_46 ?_
    refine lv_iload_n (pc := 47) E.1 E.2 dX7_share_47 rfl (lv_at hl 0 rfl) ?_
    refine lv_i2f (pc := 48) E.1 E.2 dX7_share_48 ?_
    refine lv_fdiv (pc := 49) E.1 E.2 dX7_share_49 (shB_n (a := (σ (37 + (2 * p + k)))) (b := (lmS σ 21 p k)) ⟨by omega, by omega⟩ ⟨by omega, by omega⟩) ?_
    exact z_retRf E hr rfl hlocks dX7_share_50
  · exact absurd hok (by unfold kxShare; (repeat' split) <;> first | decide | omega | (exfalso; omega) | grind)
set_option maxHeartbeats 1000000 in
set_option maxRecDepth 100000 in
theorem mxX7_share (lL : Launch) (hst0 : lL.stackTraces = false) (G : GG) (o : Nat → Nat) (ν σ : Int → Int) (π : Nat → Int → Int) (δ τ ω : Int → Int) (p : Int) (k : Int) (hI : In σ) (hp : -2147483648 ≤ p ∧ p < 2147483648) (hk : -2147483648 ≤ k ∧ k < 2147483648) (hbad : ¬ ((kxShare σ p k) = 0)) : vx_Met lL yX7_share wsX7_share ({ frames := 9, cells := 1, slots := 6, locals := 163 } : Room) (va_Pc [.ref (o 0), .int (iI p), .int (iI k)] (fun U => QT G o ν σ π δ τ ω U.heap ∧ KK G U ∧ KX FF0 U U.heap)) (fun _ _ _ _ => False) (XCe (exq xA xN xI (kxShare σ p k))) 1 6 FF0 := by
  refine z_metX (P := (fun H : Heap => QT G o ν σ π δ τ ω H)) (by decide) rfl (Nat.le_of_ble_eq_true rfl) (fun pp ee ss mm below meth cC E hml hown hts hlocks htab hQ hK hX ls hl => ?_)
  have hl : lv_has ls 4 [(0, .ref (o 0)), (1, .int (iI p)), (2, .int (iI k))] := hl
  have hcs : 0 ≤ (({ frames := 9, cells := 1, slots := 6, locals := 163 } : Room)).cells ∧ 0 ≤ (({ frames := 9, cells := 1, slots := 6, locals := 163 } : Room)).slots := ⟨Nat.zero_le _, Nat.zero_le _⟩
  have hin6 : ∀ w ∈ wsX60, w ∈ wsX7_share := fun w h => List.mem_cons_of_mem _ (List.mem_append_left _ (List.mem_append_left _ (List.mem_append_left _ (List.mem_append_left _ (List.mem_append_right _ (h))))))
  have hin7 : ∀ w ∈ wsX70, w ∈ wsX7_share := fun w h => List.mem_cons_of_mem _ (List.mem_append_left _ (List.mem_append_left _ (List.mem_append_left _ (List.mem_append_left _ (List.mem_append_left _ (List.mem_append_right _ (h)))))))
  have hF := hI.F
  have hMm := hI.M
  have hGn := hI.Gn
  have hTi := hI.ti
  have hGr := hI.gr
  refine lv_iload_n (pc := 0) E.1 E.2 dX7_share_0 rfl (lv_at hl 1 rfl) ?_
  refine lv_iload_n (pc := 1) E.1 E.2 dX7_share_1 rfl (lv_at hl 2 rfl) ?_
  by_cases hc2 : (0 ≤ p ∧ p ≤ 7) ∧ (0 ≤ k ∧ k ≤ 1)
  · refine z_rSv (pc := 2) (P := fun _ => True) (As := [.int (iI p), .int (iI k)]) (rest := []) E hml hown hts (mX7_needAccount lL G p k (by omega) (by omega) (by omega)) (va_cwS 2 hts gX7_share_X7_needAccount rfl rfl rfl vdX7_needAccount.2 ⟨Nat.le_of_ble_eq_true rfl, Nat.le_of_ble_eq_true rfl⟩) trivial hK rfl hl.1 rfl dX7_share_2 hcs (Nat.le_of_ble_eq_true rfl) ?_
    refine lv_aload_n (pc := 5) E.1 E.2 dX7_share_5 rfl (lv_at hl 0 rfl) ?_
    refine g7_0 (pc := 6) E hts hin7 hown hK hQ.ob (hts _ (List.mem_of_getElem? (i := 3) rfl)) dX7_share_6 ?_
    refine lv_iload_n (pc := 9) E.1 E.2 dX7_share_9 rfl (lv_at hl 1 rfl) ?_
    refine lv_iload_n (pc := 10) E.1 E.2 dX7_share_10 rfl (lv_at hl 2 rfl) ?_
    refine z_iconst (pc := 11) E dX7_share_11 ?_
    refine z_rVi (pc := 12) (As := [.int (iI p), .int (iI k), .int (iI 1)]) (rest := []) E hml hown hts (mX6_effectiveLimit lL G (fun k => o (1 + k)) σ p k 1 hI (by omega) (by omega) (by omega)) (cwV 3 hts gX7_share_X6_effectiveLimit rfl rfl rfl vdX6_effectiveLimit ⟨Nat.le_of_ble_eq_true rfl, Nat.le_of_ble_eq_true rfl⟩) (oB.recv hK hQ.nob rfl) hQ.now hK rfl hl.1 rfl dX7_share_12 hcs (Nat.le_of_ble_eq_true rfl) ?_
    rw [show ((lmS σ (if (1 : Int) = 0 then 5 else 21) p k : Int)) = lmS σ 21 p k from rfl]
    have hac := hI.acc (k := 2 * p + k) (by omega) (by omega)
    have hlm := hI.lmb (t := 21) (Or.inr rfl) (p := p) (k := k) (by omega) (by omega)
    refine lv_istore_n (pc := 15) (lv' := [(3, .int (iI (lmS σ 21 p k))), (0, .ref (o 0)), (1, .int (iI p)), (2, .int (iI k))]) E.1 E.2 dX7_share_15 rfl hl (by decide) rfl (fun ls hl => ?_)
    refine lv_iload_n (pc := 16) E.1 E.2 dX7_share_16 rfl (lv_at hl 0 rfl) ?_
    refine z_if_gt (pc := 17) (tgt := 31) E ⟨by omega, by omega⟩ dX7_share_17 (by decide) (fun h17 => ?_) (fun h17 => ?_)
    · refine lv_aload_n (pc := 31) E.1 E.2 dX7_share_31 rfl (lv_at hl 1 rfl) ?_
      refine g7_0 (pc := 32) E hts hin7 hown hK hQ.ob (hts _ (List.mem_of_getElem? (i := 3) rfl)) dX7_share_32 ?_
      refine g6_2 (pc := 35) E hts hin6 hown hK hQ.nob (hts _ (List.mem_of_getElem? (i := 4) rfl)) dX7_share_35 ?_
      refine lv_iload_n (pc := 38) E.1 E.2 dX7_share_38 rfl (lv_at hl 2 rfl) ?_
      refine lv_iload_n (pc := 39) E.1 E.2 dX7_share_39 rfl (lv_at hl 3 rfl) ?_
      refine z_rSi (pc := 40) (P := fun _ => True) (As := [.int (iI p), .int (iI k)]) (rest := [.ref (o 9)]) E hml hown hts (mX7_accountOf lL G p k) (va_cwS 2 hts gX7_share_X7_accountOf rfl rfl rfl vdX7_accountOf.2 ⟨Nat.le_of_ble_eq_true rfl, Nat.le_of_ble_eq_true rfl⟩) trivial hK rfl hl.1 rfl dX7_share_40 hcs (Nat.le_of_ble_eq_true rfl) ?_
      refine z_rVi (pc := 43) (As := [.int (iI (2 * p + k))]) (rest := []) E hml hown hts (mX0_amountOf lL G (fun k => o (1 + (8 + k))) σ (2 * p + k)  (by omega)) (cwV 1 hts gX7_share_X0_amountOf rfl rfl rfl vdX0_amountOf ⟨Nat.le_of_ble_eq_true rfl, Nat.le_of_ble_eq_true rfl⟩) (oB.recv hK hQ.aco rfl) hQ.now.ac hK rfl hl.1 rfl dX7_share_43 hcs (Nat.le_of_ble_eq_true rfl) ?_
      rw [show (if 0 ≤ (2 * p + k) ∧ (2 * p + k) < 16 then σ (37 + (2 * p + k)) else 0) = (σ (37 + (2 * p + k))) from (if_pos (by omega))]
      exact absurd (show (kxShare σ p k) = 0 by (unfold kxShare; (repeat' split) <;> first | rfl | omega | (exfalso; omega) | contradiction | grind)) hbad
    · exact z_thrW_xN (pc := 20) (rest := []) (is := 336) (text := "no hard limit above 0") E hst0 hown (hts _ (List.mem_of_getElem? (i := 1) rfl)) (hts _ (List.mem_of_getElem? (i := 2) rfl)) (fun w h => hts w (List.mem_cons_of_mem _ (List.mem_append_left _ (List.mem_append_right _ (h))))) hX (List.mem_of_getElem? (i := 13) rfl) (hl.1.trans hml.symm) dX7_share_20 dX7_share_23 dX7_share_24 dX7_share_27 dX7_share_30 htab (Nat.le_of_ble_eq_true rfl) (Nat.le_of_ble_eq_true rfl) (Nat.le_of_ble_eq_true rfl) (Nat.le_of_ble_eq_true rfl) hlocks (by rw [show (kxShare σ p k) = 2 by (unfold kxShare; (repeat' split) <;> first | rfl | omega | (exfalso; omega) | contradiction | grind)]; rfl)
  exact z_badS (pc := 2) (P := fun _ => True) (As := [.int (iI p), .int (iI k)]) (rest := []) E hml hown hts (mxX7_needAccount lL hst0 G p k (by omega) (by omega) hc2) (va_cwS 2 hts gX7_share_X7_needAccount rfl rfl rfl vdX7_needAccount.2 ⟨Nat.le_of_ble_eq_true rfl, Nat.le_of_ble_eq_true rfl⟩) trivial hK hX rfl hl.1 rfl dX7_share_2 ⟨Nat.le_of_ble_eq_true rfl, Nat.le_of_ble_eq_true rfl⟩ (Nat.le_of_ble_eq_true rfl) (by rw [show (kxShare σ p k) = 1 by (unfold kxShare; (repeat' split) <;> first | rfl | omega | (exfalso; omega) | contradiction | grind)]; rfl) htab hlocks
set_option maxHeartbeats 1000000 in
set_option maxRecDepth 100000 in
theorem mX8_share (lL : Launch) (G : GG) (o : Nat → Nat) (μ σ φ κ β ω : Int → Int) (p : Int) (k : Int) (hI : In σ) (hp : -2147483648 ≤ p ∧ p < 2147483648) (hk : -2147483648 ≤ k ∧ k < 2147483648) : Met lL yX8_share wsX8_share ({ frames := 3, cells := 0, slots := 0, locals := 67 } : Room) (va_Pc [.ref (o 0), .int (iI p), .int (iI k)] (fun U => W8 G o (mV o μ) σ φ κ β ω U.heap ∧ KK G U)) (va_Qf (fun r (_ : Unit) => r = (if kxShare σ p k = 0 then shB (σ (37 + (2 * p + k))) (lmS σ 21 p k) else FP.fconst0)) (fun _ tZ => W8 G o (mV o (zu μ 4 (kxShare σ p k))) σ φ κ β ω tZ.heap) (Ax o 6)) 0 0 (Ax o 6) := by
  refine z_met (P := (fun H : Heap => W8 G o (mV o μ) σ φ κ β ω H)) (by decide) rfl (Nat.le_of_ble_eq_true rfl) (fun pp ee ss mm below meth cC E hr hml hown hts hlocks hM hK ls hl => ?_)
  have hl : lv_has ls 5 [(0, .ref (o 0)), (1, .int (iI p)), (2, .int (iI k))] := hl
  have hcs : 0 ≤ (({ frames := 3, cells := 0, slots := 0, locals := 67 } : Room)).cells ∧ 0 ≤ (({ frames := 3, cells := 0, slots := 0, locals := 67 } : Room)).slots := ⟨Nat.zero_le _, Nat.zero_le _⟩
  have hS : va_S (Ax o 6) ss.heap ss.heap [] := va_S.rf
  have hin8 : ∀ w ∈ wsX80, w ∈ wsX8_share := fun w h => List.mem_cons_of_mem _ (List.mem_append_right _ (h))
  have hF := hI.F
  have hMm := hI.M
  have hGn := hI.Gn
  have hTi := hI.ti
  have hGr := hI.gr
  refine lv_aload_n (pc := 0) E.1 E.2 dX8_share_0 rfl (lv_at hl 0 rfl) ?_
  refine lv_iload_n (pc := 1) E.1 E.2 dX8_share_1 rfl (lv_at hl 1 rfl) ?_
  refine lv_iload_n (pc := 2) E.1 E.2 dX8_share_2 rfl (lv_at hl 2 rfl) ?_
  refine z_wVi (pc := 3) (As := [.int (iI p), .int (iI k)]) (rest := []) E hml hown hts (mX8_lacks lL G o μ σ φ κ β ω p k (by omega) (by omega)) (cwV 2 hts gX8_share_X8_lacks rfl rfl rfl vdX8_lacks ⟨Nat.le_of_ble_eq_true rfl, Nat.le_of_ble_eq_true rfl⟩) (oB.recv hK hM.1 rfl) hM hK hS (fun _ h => h) rfl hl.1 rfl dX8_share_3 hcs (Nat.le_of_ble_eq_true rfl) (fun H locs hnew hsz hoth hS => ?_)
  have hM : W8 G o [.ref (o 1), .ref (o 2), .ref (o 3), .int (iI (μ 3)), .int (iI (kxPK p k)), .ref (o 4), .int (iI (μ 6)), .int (iI (μ 7)), .int (iI (μ 8)), .int (iI (μ 9)), .int (iI (μ 10)), .int (iI (μ 11)), .int (iI (μ 12)), .int (iI (μ 13)), .int (iI (μ 14)), .long (iL (μ 15)), .ref (o 5), .int (iI (μ 17))] σ φ κ β ω H := W8.eq hnew (by simp only [mV, zu, Int.reduceEq, reduceIte])
  refine z_ifb_eq (pc := 6) (tgt := 11) E dX8_share_6 (by decide) (fun h6 => ?_) (fun h6 => ?_)
  · have hz := kxPK_0 h6
    refine lv_aload_n (pc := 11) E.1 E.2 dX8_share_11 rfl (lv_at hl 0 rfl) ?_
    refine lv_iload_n (pc := 12) E.1 E.2 dX8_share_12 rfl (lv_at hl 1 rfl) ?_
    refine lv_iload_n (pc := 13) E.1 E.2 dX8_share_13 rfl (lv_at hl 2 rfl) ?_
    refine z_iconst (pc := 14) E dX8_share_14 ?_
    refine z_rVl (pc := 15) (As := [.int (iI p), .int (iI k), .int (iI 1)]) (rest := []) E hml hown hts (mX8_limitOf lL G o (zu μ 4 (kxPK p k)) σ φ κ β ω p k 1 hI (by first | omega | (simp only [zu, Int.reduceEq, reduceIte]; omega)) (by first | omega | (simp only [zu, Int.reduceEq, reduceIte]; omega)) (by first | omega | (simp only [zu, Int.reduceEq, reduceIte]; omega))) (cwV 3 hts gX8_share_X8_limitOf rfl rfl rfl vdX8_limitOf ⟨Nat.le_of_ble_eq_true rfl, Nat.le_of_ble_eq_true rfl⟩) (oB.recv hK hM.1 rfl) (W8.mu hM (by simp only [mV, zu, Int.reduceEq, reduceIte])) hK rfl hl.1 rfl dX8_share_15 hcs (Nat.le_of_ble_eq_true rfl) ?_
    rw [show ((lmS σ (if (1 : Int) = 0 then 5 else 21) p k : Int)) = lmS σ 21 p k from rfl]
    have hac := hI.acc (k := 2 * p + k) (by omega) (by omega)
    have hlm := hI.lmb (t := 21) (Or.inr rfl) (p := p) (k := k) (by omega) (by omega)
    refine lv_lstore_n (pc := 18) (lv' := [(3, .long (iL (lmS σ 21 p k))), (0, .ref (o 0)), (1, .int (iI p)), (2, .int (iI k))]) E.1 E.2 dX8_share_18 rfl hl (by decide) rfl (fun ls hl => ?_)
    refine lv_aload_n (pc := 19) E.1 E.2 dX8_share_19 rfl (lv_at hl 1 rfl) ?_
    refine lv_lload_n (pc := 20) E.1 E.2 dX8_share_20 rfl (lv_at hl 0 rfl) ?_
    refine z_lconst (pc := 21) (v := 0) E (by decide) dX8_share_21 ?_
    refine z_lcmp_gt (pc := 22) (tgt := 30) E ⟨by omega, by omega⟩ (by decide) dX8_share_22 dX8_share_23 (by decide) (fun h22 => ?_) (fun h22 => ?_)
    · refine z_iconst (pc := 30) E dX8_share_30 ?_
      refine p8_4 (pc := 31) E hts hin8 hown hK hM.1 hS (Ax.at 0 (by decide)) (hts _ (List.mem_of_getElem? (i := 1) rfl)) dX8_share_31 (fun H locs hnew hoth hS => ?_)
      have hM := W8.p hM hnew (fun a _ h => hoth a h)
      refine lv_aload_n (pc := 34) E.1 E.2 dX8_share_34 rfl (lv_at hl 1 rfl) ?_
      refine g8_4 (pc := 35) E hts hin8 hown hK hM.1 (hts _ (List.mem_of_getElem? (i := 1) rfl)) dX8_share_35 ?_
      refine z_if_le (pc := 38) (tgt := 45) E (by decide) dX8_share_38 (by decide) (fun h38 => ?_) (fun h38 => ?_)
      · refine lv_aload_n (pc := 45) E.1 E.2 dX8_share_45 rfl (lv_at hl 1 rfl) ?_
        refine lv_iload_n (pc := 46) E.1 E.2 dX8_share_46 rfl (lv_at hl 2 rfl) ?_
        refine lv_iload_n (pc := 47) E.1 E.2 dX8_share_47 rfl (lv_at hl 3 rfl) ?_
        refine z_rVl (pc := 48) (As := [.int (iI p), .int (iI k)]) (rest := []) E hml hown hts (mX8_usedOf lL G o (zu (zu μ 4 (kxPK p k)) 4 0) σ φ κ β ω p k (by first | omega | (simp only [zu, Int.reduceEq, reduceIte]; omega)) (by first | omega | (simp only [zu, Int.reduceEq, reduceIte]; omega))) (cwV 2 hts gX8_share_X8_usedOf rfl rfl rfl vdX8_usedOf ⟨Nat.le_of_ble_eq_true rfl, Nat.le_of_ble_eq_true rfl⟩) (oB.recv hK hM.1 rfl) (W8.mu hM (by simp only [mV, zu, Int.reduceEq, reduceIte])) hK rfl hl.1 rfl dX8_share_48 hcs (Nat.le_of_ble_eq_true rfl) ?_
        refine lv_l2f (pc := 51) E.1 E.2 dX8_share_51 ?_
        rw [show FP.l2f (iL (σ (37 + (2 * p + k)))) = FP.i2f (iI (σ (37 + (2 * p + k)))) from l2f_i ⟨by omega, by omega⟩]
        refine lv_lload_n (pc := 52) E.1 E.2 dX8_share_52 rfl (lv_at hl 0 rfl) ?_
        refine lv_l2f (pc := 53) E.1 E.2 dX8_share_53 ?_
        rw [show FP.l2f (iL (lmS σ 21 p k)) = FP.i2f (iI (lmS σ 21 p k)) from l2f_i ⟨by omega, by omega⟩]
        refine lv_fdiv (pc := 54) E.1 E.2 dX8_share_54 (shB_n (a := (σ (37 + (2 * p + k)))) (b := (lmS σ 21 p k)) ⟨by omega, by omega⟩ ⟨by omega, by omega⟩) ?_
        exact z_retWf E hr (by rw [show kxShare σ p k = 0 from (by unfold kxShare; rw [if_pos ⟨hz.2.1, by omega⟩]; first | exact if_pos (by omega) | exact if_neg (by omega))]; exact (if_pos rfl).symm) (W8.mu hM (by rw [show kxShare σ p k = 0 from (by unfold kxShare; rw [if_pos ⟨hz.2.1, by omega⟩]; first | exact if_pos (by omega) | exact if_neg (by omega))]; simp only [mV, zu, Int.reduceEq, reduceIte])) hS hlocks dX8_share_55
      · exact absurd h38 (by decide)
    · refine z_iconst (pc := 26) E dX8_share_26 ?_
      refine lv_goto (pc := 27) (tgt := 31) E.1 E.2 dX8_share_27 (by decide) ?_
      refine p8_4 (pc := 31) E hts hin8 hown hK hM.1 hS (Ax.at 0 (by decide)) (hts _ (List.mem_of_getElem? (i := 1) rfl)) dX8_share_31 (fun H locs hnew hoth hS => ?_)
      have hM := W8.p hM hnew (fun a _ h => hoth a h)
      refine lv_aload_n (pc := 34) E.1 E.2 dX8_share_34 rfl (lv_at hl 1 rfl) ?_
      refine g8_4 (pc := 35) E hts hin8 hown hK hM.1 (hts _ (List.mem_of_getElem? (i := 1) rfl)) dX8_share_35 ?_
      refine z_if_le (pc := 38) (tgt := 45) E (by decide) dX8_share_38 (by decide) (fun h38 => ?_) (fun h38 => ?_)
      · exact absurd h38 (by decide)
      · refine lv_fconst0 (pc := 41) E.1 E.2 dX8_share_41 ?_
        refine lv_goto (pc := 42) (tgt := 55) E.1 E.2 dX8_share_42 (by decide) ?_
        exact z_retWf E hr (by rw [show kxShare σ p k = 2 from (by unfold kxShare; rw [if_pos ⟨hz.2.1, by omega⟩]; first | exact if_pos (by omega) | exact if_neg (by omega))]; exact (if_neg (by decide)).symm) (W8.mu hM (by rw [show kxShare σ p k = 2 from (by unfold kxShare; rw [if_pos ⟨hz.2.1, by omega⟩]; first | exact if_pos (by omega) | exact if_neg (by omega))]; simp only [mV, zu, Int.reduceEq, reduceIte])) hS hlocks dX8_share_55
  · refine lv_fconst0 (pc := 9) E.1 E.2 dX8_share_9 ?_
    exact z_retWf E hr (by rw [show kxShare σ p k = 1 from (show kxShare σ p k = kxPK p k from (by unfold kxShare; rw [if_neg (kxPK_1 h6)]; exact h6.symm)).trans h6]; exact (if_neg (by decide)).symm) (W8.mu hM (by rw [show kxShare σ p k = kxPK p k from (by unfold kxShare; rw [if_neg (kxPK_1 h6)]; exact h6.symm)]; simp only [mV, zu, Int.reduceEq, reduceIte])) hS hlocks dX8_share_10
