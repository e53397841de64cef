set_option maxHeartbeats 4000000 in
set_option maxRecDepth 100000 in
theorem mX7_putAccount (lL : Launch) (G : GG) (o : Nat → Nat) (ν σ : Int → Int) (π : Nat → Int → Int) (δ τ ω : Int → Int) (p : Int) (k : Int) (hI : In σ) (hp : 0 ≤ p ∧ p ≤ 7) (hk : k = 0 ∨ k = 1) (hm : 0 ≤ ν 31 ∧ ν 31 + 30 ≤ 900) : Met lL yX7_putAccount wsX7_putAccount ({ frames := 4, cells := 0, slots := 0, locals := 112 } : Room) (va_Pc [.ref (o 0), .int (iI p), .int (iI k)] (fun U => QT G o ν σ π δ τ ω U.heap ∧ KK G U)) (va_Qv (fun _ : Unit => True) (fun _ tZ => QT G o (zu ν 31 (ν 31 + ((acL σ p k).length : Int))) σ π δ τ (ouA ω (ν 31) (acL σ p k)) tZ.heap) (Ax o 187)) 0 0 (Ax o 187) := by
  refine z_met (P := (fun H : Heap => QT G o ν σ π δ τ ω H)) (by decide) rfl (Nat.le_of_ble_eq_true rfl) (fun pp ee ss mm below meth cC E hr hml hown hts hlocks hQ hK ls hl => ?_)
  have hl : lv_has ls 5 [(0, .ref (o 0)), (1, .int (iI p)), (2, .int (iI k))] := hl
  have hcs : 0 ≤ (({ frames := 4, cells := 0, slots := 0, locals := 112 } : Room)).cells ∧ 0 ≤ (({ frames := 4, cells := 0, slots := 0, locals := 112 } : Room)).slots := ⟨Nat.zero_le _, Nat.zero_le _⟩
  have hS : va_S (Ax o 187) ss.heap ss.heap [] := va_S.rf
  have hin6 : ∀ w ∈ wsX60, w ∈ wsX7_putAccount := fun w h => List.mem_cons_of_mem _ (List.mem_append_left _ (List.mem_append_left _ (List.mem_append_left _ (List.mem_append_right _ (h)))))
  have hin7 : ∀ w ∈ wsX70, w ∈ wsX7_putAccount := fun w h => List.mem_cons_of_mem _ (List.mem_append_left _ (List.mem_append_left _ (List.mem_append_left _ (List.mem_append_left _ (List.mem_append_right _ (h))))))
  have hF := hI.F
  have hMm := hI.M
  have hGn := hI.Gn
  have hTi := hI.ti
  have hGr := hI.gr
  have hac := hI.acc (k := 2 * p + k) (by omega) (by omega)
  have hlm := hI.lmb (t := 21) (Or.inr rfl) hp hk
  have hgl := limL_b σ p k
  have hst := stS_b σ p k
  have hgs := staL_b σ p k
  refine lv_aload_n (pc := 0) E.1 E.2 dX7_putAccount_0 rfl (lv_at hl 0 rfl) ?_
  refine g7_5 (pc := 1) E hts hin7 hown hK hQ.ob (hts _ (List.mem_of_getElem? (i := 1) rfl)) dX7_putAccount_1 ?_
  refine z_bipush (pc := 4) E (by decide) dX7_putAccount_4 ?_
  refine z_wVv (pc := 6) (As := [.int (iI 32)]) (rest := []) E hml hown hts (mX1_put lL G (fun k => o (166 + k)) (ν 31) ω 32 (by omega) (by omega)) (cwV 1 hts gX7_putAccount_X1_put rfl rfl rfl vdX1_put ⟨Nat.le_of_ble_eq_true rfl, Nat.le_of_ble_eq_true rfl⟩) (oB.recv hK hQ.wro rfl) hQ.wri hK hS (Aq.up (by decide)) rfl hl.1 rfl dX7_putAccount_6 hcs (Nat.le_of_ble_eq_true rfl) (fun H locs hnew hsz hoth hS => ?_)
  have hQ : QT G o (zu ν 31 ((ν 31) + 1)) σ π δ τ (zu ω (ν 31) (sg8 32)) H := QT.upW (ν2 := (zu ν 31 ((ν 31) + 1))) hQ (by simpa only [zu, Int.reduceEq, reduceIte] using hnew) (fun q h1 h2 => hoth q h1 h2) (fun j hj => zu_n _ _ hj)
  have hQ : QT G o (zu ν 31 (ν 31 + (([32]).length : Int))) σ π δ τ (ouA ω (ν 31) ([32])) H := QT.eq hQ (by rfl; first | done | rfl) (by rw [show sg8 32 = 32 by decide]; rfl; first | done | rfl)
  have hl1 : (([32]).length : Int) = 1 := rfl
  refine lv_aload_n (pc := 9) E.1 E.2 dX7_putAccount_9 rfl (lv_at hl 0 rfl) ?_
  refine g7_5 (pc := 10) E hts hin7 hown hK hQ.ob (hts _ (List.mem_of_getElem? (i := 1) rfl)) dX7_putAccount_10 ?_
  refine lv_aload_n (pc := 13) E.1 E.2 dX7_putAccount_13 rfl (lv_at hl 0 rfl) ?_
  refine g7_0 (pc := 14) E hts hin7 hown hK hQ.ob (hts _ (List.mem_of_getElem? (i := 2) rfl)) dX7_putAccount_14 ?_
  refine g6_2 (pc := 17) E hts hin6 hown hK hQ.nob (hts _ (List.mem_of_getElem? (i := 3) rfl)) dX7_putAccount_17 ?_
  refine lv_iload_n (pc := 20) E.1 E.2 dX7_putAccount_20 rfl (lv_at hl 1 rfl) ?_
  refine lv_iload_n (pc := 21) E.1 E.2 dX7_putAccount_21 rfl (lv_at hl 2 rfl) ?_
  refine z_rSi (pc := 22) (P := fun _ => True) (As := [.int (iI p), .int (iI k)]) (rest := [.ref (o 9), .ref (o 166)]) E hml hown hts (mX7_accountOf lL G p k) (va_cwS 2 hts gX7_putAccount_X7_accountOf rfl rfl rfl vdX7_accountOf.2 ⟨Nat.le_of_ble_eq_true rfl, Nat.le_of_ble_eq_true rfl⟩) trivial hK rfl hl.1 rfl dX7_putAccount_22 hcs (Nat.le_of_ble_eq_true rfl) ?_
  refine z_rVi (pc := 25) (As := [.int (iI (2 * p + k))]) (rest := [.ref (o 166)]) E hml hown hts (mX0_amountOf lL G (fun k => o (1 + (8 + k))) σ (2 * p + k)  (by omega)) (cwV 1 hts gX7_putAccount_X0_amountOf rfl rfl rfl vdX0_amountOf ⟨Nat.le_of_ble_eq_true rfl, Nat.le_of_ble_eq_true rfl⟩) (oB.recv hK hQ.aco rfl) hQ.now.ac hK rfl hl.1 rfl dX7_putAccount_25 hcs (Nat.le_of_ble_eq_true rfl) ?_
  rw [show (if 0 ≤ (2 * p + k) ∧ (2 * p + k) < 16 then σ (37 + (2 * p + k)) else 0) = (σ (37 + (2 * p + k))) from (if_pos (by omega))]
  refine z_wVv (pc := 28) (As := [.int (iI (σ (37 + (2 * p + k))))]) (rest := []) E hml hown hts (mX1_putNumber lL G (fun k => o (166 + k)) (ν 31 + (([32]).length : Int)) (ouA ω (ν 31) ([32])) (σ (37 + (2 * p + k))) (by omega) (by omega)) (cwV 1 hts gX7_putAccount_X1_putNumber rfl rfl rfl vdX1_putNumber ⟨Nat.le_of_ble_eq_true rfl, Nat.le_of_ble_eq_true rfl⟩) (oB.recv hK hQ.wro rfl) (by simpa only [zu, Int.reduceEq, reduceIte] using hQ.wri) hK hS (Aq.up (by decide)) rfl hl.1 rfl dX7_putAccount_28 hcs (Nat.le_of_ble_eq_true rfl) (fun H locs hnew hsz hoth hS => ?_)
  have hQ : QT G o (zu ν 31 ((ν 31 + (([32]).length : Int)) + ((nuL 9 (σ (37 + (2 * p + k)))).length : Int))) σ π δ τ (ouA (ouA ω (ν 31) ([32])) (ν 31 + (([32]).length : Int)) (nuL 9 (σ (37 + (2 * p + k))))) H := QT.upW (ν2 := (zu ν 31 ((ν 31 + (([32]).length : Int)) + ((nuL 9 (σ (37 + (2 * p + k)))).length : Int)))) hQ (by simpa only [zu, Int.reduceEq, reduceIte] using hnew) (fun q h1 h2 => hoth q h1 h2) (fun j hj => (zu_n _ _ hj).trans (zu_n _ _ hj).symm)
  have hlb := nuL_b 9 (σ (37 + (2 * p + k)))
  have hQ : QT G o (zu ν 31 (ν 31 + (([32] ++ nuL 9 (σ (37 + (2 * p + k)))).length : Int))) σ π δ τ (ouA ω (ν 31) ([32] ++ nuL 9 (σ (37 + (2 * p + k))))) H := QT.eq hQ (by rw [← ouA_lN]; first | done | rfl) (by rw [ouA_app]; first | done | rfl)
  have hlL : (([32] ++ nuL 9 (σ (37 + (2 * p + k)))).length : Int) = (([32]).length : Int) + ((nuL 9 (σ (37 + (2 * p + k)))).length : Int) := by rw [List.length_append]; rfl
  refine lv_aload_n (pc := 31) E.1 E.2 dX7_putAccount_31 rfl (lv_at hl 0 rfl) ?_
  refine g7_5 (pc := 32) E hts hin7 hown hK hQ.ob (hts _ (List.mem_of_getElem? (i := 1) rfl)) dX7_putAccount_32 ?_
  refine z_bipush (pc := 35) E (by decide) dX7_putAccount_35 ?_
  refine z_wVv (pc := 37) (As := [.int (iI 47)]) (rest := []) E hml hown hts (mX1_put lL G (fun k => o (166 + k)) (ν 31 + (([32] ++ nuL 9 (σ (37 + (2 * p + k)))).length : Int)) (ouA ω (ν 31) ([32] ++ nuL 9 (σ (37 + (2 * p + k))))) 47 (by omega) (by omega)) (cwV 1 hts gX7_putAccount_X1_put rfl rfl rfl vdX1_put ⟨Nat.le_of_ble_eq_true rfl, Nat.le_of_ble_eq_true rfl⟩) (oB.recv hK hQ.wro rfl) (by simpa only [zu, Int.reduceEq, reduceIte] using hQ.wri) hK hS (Aq.up (by decide)) rfl hl.1 rfl dX7_putAccount_37 hcs (Nat.le_of_ble_eq_true rfl) (fun H locs hnew hsz hoth hS => ?_)
  have hQ : QT G o (zu ν 31 ((ν 31 + (([32] ++ nuL 9 (σ (37 + (2 * p + k)))).length : Int)) + 1)) σ π δ τ (zu (ouA ω (ν 31) ([32] ++ nuL 9 (σ (37 + (2 * p + k))))) (ν 31 + (([32] ++ nuL 9 (σ (37 + (2 * p + k)))).length : Int)) (sg8 47)) H := QT.upW (ν2 := (zu ν 31 ((ν 31 + (([32] ++ nuL 9 (σ (37 + (2 * p + k)))).length : Int)) + 1))) hQ (by simpa only [zu, Int.reduceEq, reduceIte] using hnew) (fun q h1 h2 => hoth q h1 h2) (fun j hj => (zu_n _ _ hj).trans (zu_n _ _ hj).symm)
  have hQ : QT G o (zu ν 31 (ν 31 + (([32] ++ nuL 9 (σ (37 + (2 * p + k))) ++ [47]).length : Int))) σ π δ τ (ouA ω (ν 31) ([32] ++ nuL 9 (σ (37 + (2 * p + k))) ++ [47])) H := QT.eq hQ (by rw [← ouA_l2]; first | done | rfl) (by rw [← ouA_2, show sg8 47 = 47 by decide]; first | done | rfl)
  have hlL : (([32] ++ nuL 9 (σ (37 + (2 * p + k))) ++ [47]).length : Int) = (([32] ++ nuL 9 (σ (37 + (2 * p + k)))).length : Int) + (([47]).length : Int) := by rw [List.length_append]; rfl
  have hl1 : (([47]).length : Int) = 1 := rfl
  refine lv_aload_n (pc := 40) E.1 E.2 dX7_putAccount_40 rfl (lv_at hl 0 rfl) ?_
  refine g7_0 (pc := 41) E hts hin7 hown hK hQ.ob (hts _ (List.mem_of_getElem? (i := 2) rfl)) dX7_putAccount_41 ?_
  refine lv_iload_n (pc := 44) E.1 E.2 dX7_putAccount_44 rfl (lv_at hl 1 rfl) ?_
  refine lv_iload_n (pc := 45) E.1 E.2 dX7_putAccount_45 rfl (lv_at hl 2 rfl) ?_
  refine z_iconst (pc := 46) E dX7_putAccount_46 ?_
  refine z_rVi (pc := 47) (As := [.int (iI p), .int (iI k), .int (iI 1)]) (rest := []) E hml hown hts (mX6_effectiveLimit lL G (fun k => o (1 + k)) σ p k 1 hI (by omega) (by omega) (by omega)) (cwV 3 hts gX7_putAccount_X6_effectiveLimit rfl rfl rfl vdX6_effectiveLimit ⟨Nat.le_of_ble_eq_true rfl, Nat.le_of_ble_eq_true rfl⟩) (oB.recv hK hQ.nob rfl) hQ.now hK rfl hl.1 rfl dX7_putAccount_47 hcs (Nat.le_of_ble_eq_true rfl) ?_
  rw [show ((lmS σ (if (1 : Int) = 0 then 5 else 21) p k : Int)) = lmS σ 21 p k from rfl]
  refine lv_istore_n (pc := 50) (lv' := [(3, .int (iI (lmS σ 21 p k))), (0, .ref (o 0)), (1, .int (iI p)), (2, .int (iI k))]) E.1 E.2 dX7_putAccount_50 rfl hl (by decide) rfl (fun ls hl => ?_)
  refine lv_iload_n (pc := 51) E.1 E.2 dX7_putAccount_51 rfl (lv_at hl 0 rfl) ?_
  refine z_iconst (pc := 52) E dX7_putAccount_52 ?_
  refine z_icmp_ne (pc := 53) (tgt := 68) E ⟨by omega, by omega⟩ (by decide) dX7_putAccount_53 (by decide) (fun h53 => ?_) (fun h53 => ?_)
  · have hL : limL σ p k = nuL 9 (lmS σ 21 p k) := if_neg h53
    refine lv_aload_n (pc := 68) E.1 E.2 dX7_putAccount_68 rfl (lv_at hl 1 rfl) ?_
    refine g7_5 (pc := 69) E hts hin7 hown hK hQ.ob (hts _ (List.mem_of_getElem? (i := 1) rfl)) dX7_putAccount_69 ?_
    refine lv_iload_n (pc := 72) E.1 E.2 dX7_putAccount_72 rfl (lv_at hl 0 rfl) ?_
    refine z_wVv (pc := 73) (As := [.int (iI (lmS σ 21 p k))]) (rest := []) E hml hown hts (mX1_putNumber lL G (fun k => o (166 + k)) (ν 31 + (([32] ++ nuL 9 (σ (37 + (2 * p + k))) ++ [47]).length : Int)) (ouA ω (ν 31) ([32] ++ nuL 9 (σ (37 + (2 * p + k))) ++ [47])) (lmS σ 21 p k) (by omega) (by omega)) (cwV 1 hts gX7_putAccount_X1_putNumber rfl rfl rfl vdX1_putNumber ⟨Nat.le_of_ble_eq_true rfl, Nat.le_of_ble_eq_true rfl⟩) (oB.recv hK hQ.wro rfl) (by simpa only [zu, Int.reduceEq, reduceIte] using hQ.wri) hK hS (Aq.up (by decide)) rfl hl.1 rfl dX7_putAccount_73 hcs (Nat.le_of_ble_eq_true rfl) (fun H locs hnew hsz hoth hS => ?_)
    have hQ : QT G o (zu ν 31 ((ν 31 + (([32] ++ nuL 9 (σ (37 + (2 * p + k))) ++ [47]).length : Int)) + ((nuL 9 (lmS σ 21 p k)).length : Int))) σ π δ τ (ouA (ouA ω (ν 31) ([32] ++ nuL 9 (σ (37 + (2 * p + k))) ++ [47])) (ν 31 + (([32] ++ nuL 9 (σ (37 + (2 * p + k))) ++ [47]).length : Int)) (nuL 9 (lmS σ 21 p k))) H := QT.upW (ν2 := (zu ν 31 ((ν 31 + (([32] ++ nuL 9 (σ (37 + (2 * p + k))) ++ [47]).length : Int)) + ((nuL 9 (lmS σ 21 p k)).length : Int)))) hQ (by simpa only [zu, Int.reduceEq, reduceIte] using hnew) (fun q h1 h2 => hoth q h1 h2) (fun j hj => (zu_n _ _ hj).trans (zu_n _ _ hj).symm)
    have hQ : QT G o (zu ν 31 (ν 31 + (([32] ++ nuL 9 (σ (37 + (2 * p + k))) ++ [47] ++ limL σ p k).length : Int))) σ π δ τ (ouA ω (ν 31) ([32] ++ nuL 9 (σ (37 + (2 * p + k))) ++ [47] ++ limL σ p k)) H := QT.eq hQ (by rw [hL, ← ouA_lN]; first | done | rfl) (by rw [hL, ouA_app]; first | done | rfl)
    have hlL : (([32] ++ nuL 9 (σ (37 + (2 * p + k))) ++ [47] ++ limL σ p k).length : Int) = (([32] ++ nuL 9 (σ (37 + (2 * p + k))) ++ [47]).length : Int) + ((limL σ p k).length : Int) := by rw [List.length_append]; rfl
    refine lv_aload_n (pc := 76) E.1 E.2 dX7_putAccount_76 rfl (lv_at hl 1 rfl) ?_
    refine g7_0 (pc := 77) E hts hin7 hown hK hQ.ob (hts _ (List.mem_of_getElem? (i := 2) rfl)) dX7_putAccount_77 ?_
    refine lv_iload_n (pc := 80) E.1 E.2 dX7_putAccount_80 rfl (lv_at hl 2 rfl) ?_
    refine lv_iload_n (pc := 81) E.1 E.2 dX7_putAccount_81 rfl (lv_at hl 3 rfl) ?_
    refine z_rVi (pc := 82) (As := [.int (iI p), .int (iI k)]) (rest := []) E hml hown hts (mX6_stateOf lL G (fun k => o (1 + k)) σ p k hI (by omega) (by omega)) (cwV 2 hts gX7_putAccount_X6_stateOf rfl rfl rfl vdX6_stateOf ⟨Nat.le_of_ble_eq_true rfl, Nat.le_of_ble_eq_true rfl⟩) (oB.recv hK hQ.nob rfl) hQ.now hK rfl hl.1 rfl dX7_putAccount_82 hcs (Nat.le_of_ble_eq_true rfl) ?_
    refine lv_istore (pc := 85) (lv' := [(4, .int (iI (stS σ p k))), (3, .int (iI (lmS σ 21 p k))), (0, .ref (o 0)), (1, .int (iI p)), (2, .int (iI k))]) E.1 E.2 dX7_putAccount_85 hl (by decide) rfl (fun ls hl => ?_)
    refine lv_iload (pc := 87) E.1 E.2 dX7_putAccount_87 (lv_at hl 0 rfl) ?_
    refine z_iconst (pc := 89) E dX7_putAccount_89 ?_
    refine z_icmp_ne (pc := 90) (tgt := 105) E ⟨by omega, by omega⟩ (by decide) dX7_putAccount_90 (by decide) (fun h90 => ?_) (fun h90 => ?_)
    · refine lv_iload (pc := 105) E.1 E.2 dX7_putAccount_105 (lv_at hl 0 rfl) ?_
      refine z_iconst (pc := 107) E dX7_putAccount_107 ?_
      refine z_icmp_le (pc := 108) (tgt := 120) E ⟨by omega, by omega⟩ (by decide) dX7_putAccount_108 (by decide) (fun h108 => ?_) (fun h108 => ?_)
      · have hSt : staL σ p k = [] := by unfold staL; rw [if_neg (by omega), if_neg (by omega)]
        have hQ : QT G o (zu ν 31 (ν 31 + (([32] ++ nuL 9 (σ (37 + (2 * p + k))) ++ [47] ++ limL σ p k ++ staL σ p k).length : Int))) σ π δ τ (ouA ω (ν 31) ([32] ++ nuL 9 (σ (37 + (2 * p + k))) ++ [47] ++ limL σ p k ++ staL σ p k)) H := QT.eq hQ (by rw [hSt, List.append_nil]; first | done | rfl) (by rw [hSt, List.append_nil]; first | done | rfl)
        have hlL : (([32] ++ nuL 9 (σ (37 + (2 * p + k))) ++ [47] ++ limL σ p k ++ staL σ p k).length : Int) = (([32] ++ nuL 9 (σ (37 + (2 * p + k))) ++ [47] ++ limL σ p k).length : Int) + ((staL σ p k).length : Int) := by rw [List.length_append]; rfl
        exact z_retWv E hr hQ hS hlocks dX7_putAccount_120
      · have hSt : staL σ p k = [33] := by unfold staL; rw [if_neg (by omega), if_pos (by omega)]
        refine lv_aload_n (pc := 111) E.1 E.2 dX7_putAccount_111 rfl (lv_at hl 2 rfl) ?_
        refine g7_5 (pc := 112) E hts hin7 hown hK hQ.ob (hts _ (List.mem_of_getElem? (i := 1) rfl)) dX7_putAccount_112 ?_
        refine z_bipush (pc := 115) E (by decide) dX7_putAccount_115 ?_
        refine z_wVv (pc := 117) (As := [.int (iI 33)]) (rest := []) E hml hown hts (mX1_put lL G (fun k => o (166 + k)) (ν 31 + (([32] ++ nuL 9 (σ (37 + (2 * p + k))) ++ [47] ++ limL σ p k).length : Int)) (ouA ω (ν 31) ([32] ++ nuL 9 (σ (37 + (2 * p + k))) ++ [47] ++ limL σ p k)) 33 (by omega) (by omega)) (cwV 1 hts gX7_putAccount_X1_put rfl rfl rfl vdX1_put ⟨Nat.le_of_ble_eq_true rfl, Nat.le_of_ble_eq_true rfl⟩) (oB.recv hK hQ.wro rfl) (by simpa only [zu, Int.reduceEq, reduceIte] using hQ.wri) hK hS (Aq.up (by decide)) rfl hl.1 rfl dX7_putAccount_117 hcs (Nat.le_of_ble_eq_true rfl) (fun H locs hnew hsz hoth hS => ?_)
        have hQ : QT G o (zu ν 31 ((ν 31 + (([32] ++ nuL 9 (σ (37 + (2 * p + k))) ++ [47] ++ limL σ p k).length : Int)) + 1)) σ π δ τ (zu (ouA ω (ν 31) ([32] ++ nuL 9 (σ (37 + (2 * p + k))) ++ [47] ++ limL σ p k)) (ν 31 + (([32] ++ nuL 9 (σ (37 + (2 * p + k))) ++ [47] ++ limL σ p k).length : Int)) (sg8 33)) H := QT.upW (ν2 := (zu ν 31 ((ν 31 + (([32] ++ nuL 9 (σ (37 + (2 * p + k))) ++ [47] ++ limL σ p k).length : Int)) + 1))) hQ (by simpa only [zu, Int.reduceEq, reduceIte] using hnew) (fun q h1 h2 => hoth q h1 h2) (fun j hj => (zu_n _ _ hj).trans (zu_n _ _ hj).symm)
        have hQ : QT G o (zu ν 31 (ν 31 + (([32] ++ nuL 9 (σ (37 + (2 * p + k))) ++ [47] ++ limL σ p k ++ staL σ p k).length : Int))) σ π δ τ (ouA ω (ν 31) ([32] ++ nuL 9 (σ (37 + (2 * p + k))) ++ [47] ++ limL σ p k ++ staL σ p k)) H := QT.eq hQ (by rw [hSt, ← ouA_l2]; first | done | rfl) (by rw [hSt, ← ouA_2, show sg8 33 = 33 by decide]; first | done | rfl)
        have hlL : (([32] ++ nuL 9 (σ (37 + (2 * p + k))) ++ [47] ++ limL σ p k ++ staL σ p k).length : Int) = (([32] ++ nuL 9 (σ (37 + (2 * p + k))) ++ [47] ++ limL σ p k).length : Int) + ((staL σ p k).length : Int) := by rw [List.length_append]; rfl
        exact z_retWv E hr hQ hS hlocks dX7_putAccount_120
    · have hSt : staL σ p k = [43] := by unfold staL; rw [if_pos (by omega)]
      refine lv_aload_n (pc := 93) E.1 E.2 dX7_putAccount_93 rfl (lv_at hl 2 rfl) ?_
      refine g7_5 (pc := 94) E hts hin7 hown hK hQ.ob (hts _ (List.mem_of_getElem? (i := 1) rfl)) dX7_putAccount_94 ?_
      refine z_bipush (pc := 97) E (by decide) dX7_putAccount_97 ?_
      refine z_wVv (pc := 99) (As := [.int (iI 43)]) (rest := []) E hml hown hts (mX1_put lL G (fun k => o (166 + k)) (ν 31 + (([32] ++ nuL 9 (σ (37 + (2 * p + k))) ++ [47] ++ limL σ p k).length : Int)) (ouA ω (ν 31) ([32] ++ nuL 9 (σ (37 + (2 * p + k))) ++ [47] ++ limL σ p k)) 43 (by omega) (by omega)) (cwV 1 hts gX7_putAccount_X1_put rfl rfl rfl vdX1_put ⟨Nat.le_of_ble_eq_true rfl, Nat.le_of_ble_eq_true rfl⟩) (oB.recv hK hQ.wro rfl) (by simpa only [zu, Int.reduceEq, reduceIte] using hQ.wri) hK hS (Aq.up (by decide)) rfl hl.1 rfl dX7_putAccount_99 hcs (Nat.le_of_ble_eq_true rfl) (fun H locs hnew hsz hoth hS => ?_)
      have hQ : QT G o (zu ν 31 ((ν 31 + (([32] ++ nuL 9 (σ (37 + (2 * p + k))) ++ [47] ++ limL σ p k).length : Int)) + 1)) σ π δ τ (zu (ouA ω (ν 31) ([32] ++ nuL 9 (σ (37 + (2 * p + k))) ++ [47] ++ limL σ p k)) (ν 31 + (([32] ++ nuL 9 (σ (37 + (2 * p + k))) ++ [47] ++ limL σ p k).length : Int)) (sg8 43)) H := QT.upW (ν2 := (zu ν 31 ((ν 31 + (([32] ++ nuL 9 (σ (37 + (2 * p + k))) ++ [47] ++ limL σ p k).length : Int)) + 1))) hQ (by simpa only [zu, Int.reduceEq, reduceIte] using hnew) (fun q h1 h2 => hoth q h1 h2) (fun j hj => (zu_n _ _ hj).trans (zu_n _ _ hj).symm)
      have hQ : QT G o (zu ν 31 (ν 31 + (([32] ++ nuL 9 (σ (37 + (2 * p + k))) ++ [47] ++ limL σ p k ++ staL σ p k).length : Int))) σ π δ τ (ouA ω (ν 31) ([32] ++ nuL 9 (σ (37 + (2 * p + k))) ++ [47] ++ limL σ p k ++ staL σ p k)) H := QT.eq hQ (by rw [hSt, ← ouA_l2]; first | done | rfl) (by rw [hSt, ← ouA_2, show sg8 43 = 43 by decide]; first | done | rfl)
      have hlL : (([32] ++ nuL 9 (σ (37 + (2 * p + k))) ++ [47] ++ limL σ p k ++ staL σ p k).length : Int) = (([32] ++ nuL 9 (σ (37 + (2 * p + k))) ++ [47] ++ limL σ p k).length : Int) + ((staL σ p k).length : Int) := by rw [List.length_append]; rfl
      refine lv_goto (pc := 102) (tgt := 120) E.1 E.2 dX7_putAccount_102 (by decide) ?_
      exact z_retWv E hr hQ hS hlocks dX7_putAccount_120
  · have hL : limL σ p k = [45] := if_pos h53
    refine lv_aload_n (pc := 56) E.1 E.2 dX7_putAccount_56 rfl (lv_at hl 1 rfl) ?_
    refine g7_5 (pc := 57) E hts hin7 hown hK hQ.ob (hts _ (List.mem_of_getElem? (i := 1) rfl)) dX7_putAccount_57 ?_
    refine z_bipush (pc := 60) E (by decide) dX7_putAccount_60 ?_
    refine z_wVv (pc := 62) (As := [.int (iI 45)]) (rest := []) E hml hown hts (mX1_put lL G (fun k => o (166 + k)) (ν 31 + (([32] ++ nuL 9 (σ (37 + (2 * p + k))) ++ [47]).length : Int)) (ouA ω (ν 31) ([32] ++ nuL 9 (σ (37 + (2 * p + k))) ++ [47])) 45 (by omega) (by omega)) (cwV 1 hts gX7_putAccount_X1_put rfl rfl rfl vdX1_put ⟨Nat.le_of_ble_eq_true rfl, Nat.le_of_ble_eq_true rfl⟩) (oB.recv hK hQ.wro rfl) (by simpa only [zu, Int.reduceEq, reduceIte] using hQ.wri) hK hS (Aq.up (by decide)) rfl hl.1 rfl dX7_putAccount_62 hcs (Nat.le_of_ble_eq_true rfl) (fun H locs hnew hsz hoth hS => ?_)
    have hQ : QT G o (zu ν 31 ((ν 31 + (([32] ++ nuL 9 (σ (37 + (2 * p + k))) ++ [47]).length : Int)) + 1)) σ π δ τ (zu (ouA ω (ν 31) ([32] ++ nuL 9 (σ (37 + (2 * p + k))) ++ [47])) (ν 31 + (([32] ++ nuL 9 (σ (37 + (2 * p + k))) ++ [47]).length : Int)) (sg8 45)) H := QT.upW (ν2 := (zu ν 31 ((ν 31 + (([32] ++ nuL 9 (σ (37 + (2 * p + k))) ++ [47]).length : Int)) + 1))) hQ (by simpa only [zu, Int.reduceEq, reduceIte] using hnew) (fun q h1 h2 => hoth q h1 h2) (fun j hj => (zu_n _ _ hj).trans (zu_n _ _ hj).symm)
    have hQ : QT G o (zu ν 31 (ν 31 + (([32] ++ nuL 9 (σ (37 + (2 * p + k))) ++ [47] ++ limL σ p k).length : Int))) σ π δ τ (ouA ω (ν 31) ([32] ++ nuL 9 (σ (37 + (2 * p + k))) ++ [47] ++ limL σ p k)) H := QT.eq hQ (by rw [hL, ← ouA_l2]; first | done | rfl) (by rw [hL, ← ouA_2, show sg8 45 = 45 by decide]; first | done | rfl)
    have hlL : (([32] ++ nuL 9 (σ (37 + (2 * p + k))) ++ [47] ++ limL σ p k).length : Int) = (([32] ++ nuL 9 (σ (37 + (2 * p + k))) ++ [47]).length : Int) + ((limL σ p k).length : Int) := by rw [List.length_append]; rfl
    refine lv_goto (pc := 65) (tgt := 76) E.1 E.2 dX7_putAccount_65 (by decide) ?_
    refine lv_aload_n (pc := 76) E.1 E.2 dX7_putAccount_76 rfl (lv_at hl 1 rfl) ?_
    refine g7_0 (pc := 77) E hts hin7 hown hK hQ.ob (hts _ (List.mem_of_getElem? (i := 2) rfl)) dX7_putAccount_77 ?_
    refine lv_iload_n (pc := 80) E.1 E.2 dX7_putAccount_80 rfl (lv_at hl 2 rfl) ?_
    refine lv_iload_n (pc := 81) E.1 E.2 dX7_putAccount_81 rfl (lv_at hl 3 rfl) ?_
    refine z_rVi (pc := 82) (As := [.int (iI p), .int (iI k)]) (rest := []) E hml hown hts (mX6_stateOf lL G (fun k => o (1 + k)) σ p k hI (by omega) (by omega)) (cwV 2 hts gX7_putAccount_X6_stateOf rfl rfl rfl vdX6_stateOf ⟨Nat.le_of_ble_eq_true rfl, Nat.le_of_ble_eq_true rfl⟩) (oB.recv hK hQ.nob rfl) hQ.now hK rfl hl.1 rfl dX7_putAccount_82 hcs (Nat.le_of_ble_eq_true rfl) ?_
    refine lv_istore (pc := 85) (lv' := [(4, .int (iI (stS σ p k))), (3, .int (iI (lmS σ 21 p k))), (0, .ref (o 0)), (1, .int (iI p)), (2, .int (iI k))]) E.1 E.2 dX7_putAccount_85 hl (by decide) rfl (fun ls hl => ?_)
    refine lv_iload (pc := 87) E.1 E.2 dX7_putAccount_87 (lv_at hl 0 rfl) ?_
    refine z_iconst (pc := 89) E dX7_putAccount_89 ?_
    refine z_icmp_ne (pc := 90) (tgt := 105) E ⟨by omega, by omega⟩ (by decide) dX7_putAccount_90 (by decide) (fun h90 => ?_) (fun h90 => ?_)
    · refine lv_iload (pc := 105) E.1 E.2 dX7_putAccount_105 (lv_at hl 0 rfl) ?_
      refine z_iconst (pc := 107) E dX7_putAccount_107 ?_
      refine z_icmp_le (pc := 108) (tgt := 120) E ⟨by omega, by omega⟩ (by decide) dX7_putAccount_108 (by decide) (fun h108 => ?_) (fun h108 => ?_)
      · have hSt : staL σ p k = [] := by unfold staL; rw [if_neg (by omega), if_neg (by omega)]
        have hQ : QT G o (zu ν 31 (ν 31 + (([32] ++ nuL 9 (σ (37 + (2 * p + k))) ++ [47] ++ limL σ p k ++ staL σ p k).length : Int))) σ π δ τ (ouA ω (ν 31) ([32] ++ nuL 9 (σ (37 + (2 * p + k))) ++ [47] ++ limL σ p k ++ staL σ p k)) H := QT.eq hQ (by rw [hSt, List.append_nil]; first | done | rfl) (by rw [hSt, List.append_nil]; first | done | rfl)
        have hlL : (([32] ++ nuL 9 (σ (37 + (2 * p + k))) ++ [47] ++ limL σ p k ++ staL σ p k).length : Int) = (([32] ++ nuL 9 (σ (37 + (2 * p + k))) ++ [47] ++ limL σ p k).length : Int) + ((staL σ p k).length : Int) := by rw [List.length_append]; rfl
        exact z_retWv E hr hQ hS hlocks dX7_putAccount_120
      · have hSt : staL σ p k = [33] := by unfold staL; rw [if_neg (by omega), if_pos (by omega)]
        refine lv_aload_n (pc := 111) E.1 E.2 dX7_putAccount_111 rfl (lv_at hl 2 rfl) ?_
        refine g7_5 (pc := 112) E hts hin7 hown hK hQ.ob (hts _ (List.mem_of_getElem? (i := 1) rfl)) dX7_putAccount_112 ?_
        refine z_bipush (pc := 115) E (by decide) dX7_putAccount_115 ?_
        refine z_wVv (pc := 117) (As := [.int (iI 33)]) (rest := []) E hml hown hts (mX1_put lL G (fun k => o (166 + k)) (ν 31 + (([32] ++ nuL 9 (σ (37 + (2 * p + k))) ++ [47] ++ limL σ p k).length : Int)) (ouA ω (ν 31) ([32] ++ nuL 9 (σ (37 + (2 * p + k))) ++ [47] ++ limL σ p k)) 33 (by omega) (by omega)) (cwV 1 hts gX7_putAccount_X1_put rfl rfl rfl vdX1_put ⟨Nat.le_of_ble_eq_true rfl, Nat.le_of_ble_eq_true rfl⟩) (oB.recv hK hQ.wro rfl) (by simpa only [zu, Int.reduceEq, reduceIte] using hQ.wri) hK hS (Aq.up (by decide)) rfl hl.1 rfl dX7_putAccount_117 hcs (Nat.le_of_ble_eq_true rfl) (fun H locs hnew hsz hoth hS => ?_)
        have hQ : QT G o (zu ν 31 ((ν 31 + (([32] ++ nuL 9 (σ (37 + (2 * p + k))) ++ [47] ++ limL σ p k).length : Int)) + 1)) σ π δ τ (zu (ouA ω (ν 31) ([32] ++ nuL 9 (σ (37 + (2 * p + k))) ++ [47] ++ limL σ p k)) (ν 31 + (([32] ++ nuL 9 (σ (37 + (2 * p + k))) ++ [47] ++ limL σ p k).length : Int)) (sg8 33)) H := QT.upW (ν2 := (zu ν 31 ((ν 31 + (([32] ++ nuL 9 (σ (37 + (2 * p + k))) ++ [47] ++ limL σ p k).length : Int)) + 1))) hQ (by simpa only [zu, Int.reduceEq, reduceIte] using hnew) (fun q h1 h2 => hoth q h1 h2) (fun j hj => (zu_n _ _ hj).trans (zu_n _ _ hj).symm)
        have hQ : QT G o (zu ν 31 (ν 31 + (([32] ++ nuL 9 (σ (37 + (2 * p + k))) ++ [47] ++ limL σ p k ++ staL σ p k).length : Int))) σ π δ τ (ouA ω (ν 31) ([32] ++ nuL 9 (σ (37 + (2 * p + k))) ++ [47] ++ limL σ p k ++ staL σ p k)) H := QT.eq hQ (by rw [hSt, ← ouA_l2]; first | done | rfl) (by rw [hSt, ← ouA_2, show sg8 33 = 33 by decide]; first | done | rfl)
        have hlL : (([32] ++ nuL 9 (σ (37 + (2 * p + k))) ++ [47] ++ limL σ p k ++ staL σ p k).length : Int) = (([32] ++ nuL 9 (σ (37 + (2 * p + k))) ++ [47] ++ limL σ p k).length : Int) + ((staL σ p k).length : Int) := by rw [List.length_append]; rfl
        exact z_retWv E hr hQ hS hlocks dX7_putAccount_120
    · have hSt : staL σ p k = [43] := by unfold staL; rw [if_pos (by omega)]
      refine lv_aload_n (pc := 93) E.1 E.2 dX7_putAccount_93 rfl (lv_at hl 2 rfl) ?_
      refine g7_5 (pc := 94) E hts hin7 hown hK hQ.ob (hts _ (List.mem_of_getElem? (i := 1) rfl)) dX7_putAccount_94 ?_
      refine z_bipush (pc := 97) E (by decide) dX7_putAccount_97 ?_
      refine z_wVv (pc := 99) (As := [.int (iI 43)]) (rest := []) E hml hown hts (mX1_put lL G (fun k => o (166 + k)) (ν 31 + (([32] ++ nuL 9 (σ (37 + (2 * p + k))) ++ [47] ++ limL σ p k).length : Int)) (ouA ω (ν 31) ([32] ++ nuL 9 (σ (37 + (2 * p + k))) ++ [47] ++ limL σ p k)) 43 (by omega) (by omega)) (cwV 1 hts gX7_putAccount_X1_put rfl rfl rfl vdX1_put ⟨Nat.le_of_ble_eq_true rfl, Nat.le_of_ble_eq_true rfl⟩) (oB.recv hK hQ.wro rfl) (by simpa only [zu, Int.reduceEq, reduceIte] using hQ.wri) hK hS (Aq.up (by decide)) rfl hl.1 rfl dX7_putAccount_99 hcs (Nat.le_of_ble_eq_true rfl) (fun H locs hnew hsz hoth hS => ?_)
      have hQ : QT G o (zu ν 31 ((ν 31 + (([32] ++ nuL 9 (σ (37 + (2 * p + k))) ++ [47] ++ limL σ p k).length : Int)) + 1)) σ π δ τ (zu (ouA ω (ν 31) ([32] ++ nuL 9 (σ (37 + (2 * p + k))) ++ [47] ++ limL σ p k)) (ν 31 + (([32] ++ nuL 9 (σ (37 + (2 * p + k))) ++ [47] ++ limL σ p k).length : Int)) (sg8 43)) H := QT.upW (ν2 := (zu ν 31 ((ν 31 + (([32] ++ nuL 9 (σ (37 + (2 * p + k))) ++ [47] ++ limL σ p k).length : Int)) + 1))) hQ (by simpa only [zu, Int.reduceEq, reduceIte] using hnew) (fun q h1 h2 => hoth q h1 h2) (fun j hj => (zu_n _ _ hj).trans (zu_n _ _ hj).symm)
      have hQ : QT G o (zu ν 31 (ν 31 + (([32] ++ nuL 9 (σ (37 + (2 * p + k))) ++ [47] ++ limL σ p k ++ staL σ p k).length : Int))) σ π δ τ (ouA ω (ν 31) ([32] ++ nuL 9 (σ (37 + (2 * p + k))) ++ [47] ++ limL σ p k ++ staL σ p k)) H := QT.eq hQ (by rw [hSt, ← ouA_l2]; first | done | rfl) (by rw [hSt, ← ouA_2, show sg8 43 = 43 by decide]; first | done | rfl)
      have hlL : (([32] ++ nuL 9 (σ (37 + (2 * p + k))) ++ [47] ++ limL σ p k ++ staL σ p k).length : Int) = (([32] ++ nuL 9 (σ (37 + (2 * p + k))) ++ [47] ++ limL σ p k).length : Int) + ((staL σ p k).length : Int) := by rw [List.length_append]; rfl
      refine lv_goto (pc := 102) (tgt := 120) E.1 E.2 dX7_putAccount_102 (by decide) ?_
      exact z_retWv E hr hQ hS hlocks dX7_putAccount_120
