set_option maxHeartbeats 1000000 in
set_option maxRecDepth 100000 in
theorem mX7_writeAccounts (lL : Launch) (G : GG) (o : Nat → Nat) (ν σ : Int → Int) (π : Nat → Int → Int) (δ τ ω : Int → Int) (p : Int) (hI : In σ) (hp : -2147483648 ≤ p ∧ p < 2147483648) (hok : (kxWA p) = 0) : Met lL yX7_writeAccounts wsX7_writeAccounts ({ frames := 5, cells := 0, slots := 0, locals := 136 } : Room) (va_Pc [.ref (o 0), .int (iI p)] (fun U => QT G o ν σ π δ τ ω U.heap ∧ KK G U)) (va_Qi (fun r (_ : Unit) => r = (iI ((waL σ p).length : Int))) (fun _ tZ => QT G o (zu ν 31 ((waL σ p).length : Int)) σ π δ τ (ouA ω 0 (waL σ p)) tZ.heap) (Ax o 187)) 0 0 (Ax o 187) := by
  refine z_met (P := (fun H : Heap => QT G o ν σ π δ τ ω H)) (by decide) rfl (Nat.le_of_ble_eq_true rfl) (fun pp ee ss mm below meth cC E hr hml hown hts hlocks hQ hK ls hl => ?_)
  have hl : lv_has ls 3 [(0, .ref (o 0)), (1, .int (iI p))] := hl
  have hcs : 0 ≤ (({ frames := 5, cells := 0, slots := 0, locals := 136 } : Room)).cells ∧ 0 ≤ (({ frames := 5, cells := 0, slots := 0, locals := 136 } : Room)).slots := ⟨Nat.zero_le _, Nat.zero_le _⟩
  have hS : va_S (Ax o 187) ss.heap ss.heap [] := va_S.rf
  have hin1 : ∀ w ∈ wsX10, w ∈ wsX7_writeAccounts := fun w h => List.mem_cons_of_mem _ (List.mem_append_left _ (List.mem_append_left _ (List.mem_append_left _ (List.mem_append_left _ (List.mem_append_right _ (h))))))
  have hin7 : ∀ w ∈ wsX70, w ∈ wsX7_writeAccounts := fun w h => List.mem_cons_of_mem _ (List.mem_append_left _ (List.mem_append_left _ (List.mem_append_left _ (List.mem_append_left _ (List.mem_append_left _ (List.mem_append_right _ (h)))))))
  have hF := hI.F
  have hMm := hI.M
  have hGn := hI.Gn
  have hTi := hI.ti
  have hGr := hI.gr
  have hoc := kxWA_ok hok
  refine lv_iload_n (pc := 0) E.1 E.2 dX7_writeAccounts_0 rfl (lv_at hl 1 rfl) ?_
  refine z_rSv (pc := 1) (P := fun _ => True) (As := [.int (iI p)]) (rest := []) E hml hown hts (mX7_needProject lL G p (by omega) (by omega)) (va_cwS 1 hts gX7_writeAccounts_X7_needProject rfl rfl rfl vdX7_needProject.2 ⟨Nat.le_of_ble_eq_true rfl, Nat.le_of_ble_eq_true rfl⟩) trivial hK rfl hl.1 rfl dX7_writeAccounts_1 hcs (Nat.le_of_ble_eq_true rfl) ?_
  refine lv_aload_n (pc := 4) E.1 E.2 dX7_writeAccounts_4 rfl (lv_at hl 0 rfl) ?_
  refine g7_5 (pc := 5) E hts hin7 hown hK hQ.ob (hts _ (List.mem_of_getElem? (i := 1) rfl)) dX7_writeAccounts_5 ?_
  refine z_iconst (pc := 8) E dX7_writeAccounts_8 ?_
  refine p1_1 (pc := 9) E hts hin1 hown hK hQ.wro hS (Ax.at 166 (by decide)) (hts _ (List.mem_of_getElem? (i := 2) rfl)) dX7_writeAccounts_9 (fun H locs hnew hoth hS => ?_)
  have hQ := QT.upW (ν2 := (zu ν 31 0)) hQ (BYr.p hQ.wri (V2 := [.ref (o 167), .int (iI 0)]) hnew (fun q _ h => hoth q h)) (fun q _ h => hoth q (fun z => h ⟨0, by decide, z⟩)) (fun j hj => zu_n _ _ hj)
  refine lv_aload_n (pc := 12) E.1 E.2 dX7_writeAccounts_12 rfl (lv_at hl 0 rfl) ?_
  refine g7_5 (pc := 13) E hts hin7 hown hK hQ.ob (hts _ (List.mem_of_getElem? (i := 1) rfl)) dX7_writeAccounts_13 ?_
  refine lv_iload_n (pc := 16) E.1 E.2 dX7_writeAccounts_16 rfl (lv_at hl 1 rfl) ?_
  refine z_wVv (pc := 17) (As := [.int (iI p)]) (rest := []) E hml hown hts (mX1_putNumber lL G (fun k => o (166 + k)) 0 ω p (by omega) (by omega)) (cwV 1 hts gX7_writeAccounts_X1_putNumber rfl rfl rfl vdX1_putNumber ⟨Nat.le_of_ble_eq_true rfl, Nat.le_of_ble_eq_true rfl⟩) (oB.recv hK hQ.wro rfl) (by simpa only [zu, Int.reduceEq, reduceIte] using hQ.wri) hK hS (Aq.up (by decide)) rfl hl.1 rfl dX7_writeAccounts_17 hcs (Nat.le_of_ble_eq_true rfl) (fun H locs hnew hsz hoth hS => ?_)
  have hQ : QT G o (zu ν 31 (0 + ((nuL 9 p).length : Int))) σ π δ τ (ouA ω 0 (nuL 9 p)) H := QT.upW (ν2 := (zu ν 31 (0 + ((nuL 9 p).length : Int)))) hQ (by simpa only [zu, Int.reduceEq, reduceIte] using hnew) (fun q h1 h2 => hoth q h1 h2) (fun j hj => (zu_n _ _ hj).trans (zu_n _ _ hj).symm)
  have hQ : QT G o (zu ν 31 (0 + ((nuL 0 p).length : Int))) σ π δ τ (ouA ω 0 (nuL 0 p)) H := QT.eq hQ (by rw [nuL_1 (by omega) (by omega)]; first | done | rfl) (by rw [nuL_1 (by omega) (by omega)]; first | done | rfl)
  have hlb := nuL_b 0 p
  refine lv_aload_n (pc := 20) E.1 E.2 dX7_writeAccounts_20 rfl (lv_at hl 0 rfl) ?_
  refine g7_5 (pc := 21) E hts hin7 hown hK hQ.ob (hts _ (List.mem_of_getElem? (i := 1) rfl)) dX7_writeAccounts_21 ?_
  refine z_bipush (pc := 24) E (by decide) dX7_writeAccounts_24 ?_
  refine z_wVv (pc := 26) (As := [.int (iI 58)]) (rest := []) E hml hown hts (mX1_put lL G (fun k => o (166 + k)) (0 + ((nuL 0 p).length : Int)) (ouA ω 0 (nuL 0 p)) 58 (by omega) (by omega)) (cwV 1 hts gX7_writeAccounts_X1_put rfl rfl rfl vdX1_put ⟨Nat.le_of_ble_eq_true rfl, Nat.le_of_ble_eq_true rfl⟩) (oB.recv hK hQ.wro rfl) (by simpa only [zu, Int.reduceEq, reduceIte] using hQ.wri) hK hS (Aq.up (by decide)) rfl hl.1 rfl dX7_writeAccounts_26 hcs (Nat.le_of_ble_eq_true rfl) (fun H locs hnew hsz hoth hS => ?_)
  have hQ : QT G o (zu ν 31 ((0 + ((nuL 0 p).length : Int)) + 1)) σ π δ τ (zu (ouA ω 0 (nuL 0 p)) (0 + ((nuL 0 p).length : Int)) (sg8 58)) H := QT.upW (ν2 := (zu ν 31 ((0 + ((nuL 0 p).length : Int)) + 1))) hQ (by simpa only [zu, Int.reduceEq, reduceIte] using hnew) (fun q h1 h2 => hoth q h1 h2) (fun j hj => (zu_n _ _ hj).trans (zu_n _ _ hj).symm)
  have hQ : QT G o (zu ν 31 (0 + ((nuL 0 p ++ [58]).length : Int))) σ π δ τ (ouA ω 0 (nuL 0 p ++ [58])) H := QT.eq hQ (by rw [← ouA_l2]; first | done | rfl) (by rw [← ouA_2]; rfl; first | done | rfl)
  refine z_iconst (pc := 29) E dX7_writeAccounts_29 ?_
  refine lv_istore_n (pc := 30) (lv' := [(2, .int (iI 0)), (0, .ref (o 0)), (1, .int (iI p))]) E.1 E.2 dX7_writeAccounts_30 rfl hl (by decide) rfl (fun ls hl => ?_)
  suffices L31 : ∀ (nf : Nat), ∀ (k : Int), (0 ≤ k ∧ k ≤ 2) → ((2 - k).toNat) < nf → ∀  (H : Heap) (locs : List Loc), QT G o (zu ν 31 (0 + ((waK σ p k.toNat).length : Int))) σ π δ τ (ouA ω 0 (waK σ p k.toNat)) H → va_S (Ax o 187) ss.heap H locs → ∀ ls : Array Slot, lv_has ls 3 [(2, .int (iI k)), (0, .ref (o 0)), (1, .int (iI p))] → W pp lL ee ({ frames := 5, cells := 0, slots := 0, locals := 136 } : Room) ss mm [.ref (o 0), .int (iI p)].toArray below meth cC H locs 0 0 (MQ below (va_Qi (fun r (_ : Unit) => r = (iI ((waL σ p).length : Int))) (fun _ tZ => QT G o (zu ν 31 ((waL σ p).length : Int)) σ π δ τ (ouA ω 0 (waL σ p)) tZ.heap) (Ax o 187)) [.ref (o 0), .int (iI p)].toArray ss 0 0 (Ax o 187)) (F0 mm 31 ls []) from L31 _ 0 (by omega) (Nat.lt_succ_self _)  _ _ (QT.eq hQ rfl rfl) hS ls (lv_sub hl [0, 1, 2] rfl)
  intro nfL31
  induction nfL31 with
  | zero => intro k hk hmzL31; exact absurd hmzL31 (Nat.not_lt_zero _)
  | succ nfL31 ihL31 =>
    intro k hk hmzL31  H locs hQ hS ls hl
    have hwb := waK_b σ p k.toNat (by omega)
    refine lv_iload_n (pc := 31) E.1 E.2 dX7_writeAccounts_31 rfl (lv_at hl 0 rfl) ?_
    refine z_iconst (pc := 32) E dX7_writeAccounts_32 ?_
    refine z_icmp_ge (pc := 33) (tgt := 48) E ⟨by omega, by omega⟩ (by decide) dX7_writeAccounts_33 (by decide) (fun h33 => ?_) (fun h33 => ?_)
    · refine lv_aload_n (pc := 48) E.1 E.2 dX7_writeAccounts_48 rfl (lv_at hl 1 rfl) ?_
      refine g7_5 (pc := 49) E hts hin7 hown hK hQ.ob (hts _ (List.mem_of_getElem? (i := 1) rfl)) dX7_writeAccounts_49 ?_
      refine g1_1 (pc := 52) E hts hin1 hown hK hQ.wro (hts _ (List.mem_of_getElem? (i := 2) rfl)) dX7_writeAccounts_52 ?_
      rw [show (zu ν 31 (0 + ((waK σ p k.toNat).length : Int))) 31 = 0 + ((waK σ p k.toNat).length : Int) from by simp only [zu, Int.reduceEq, reduceIte]]
      exact z_retWi E hr (congrArg iI (by (rw [Int.zero_add, show k = 2 by omega]; rfl))) (QT.eq hQ (by rw [Int.zero_add, show k = 2 by omega]; rfl) (by rw [show k = 2 by omega]; rfl)) hS hlocks dX7_writeAccounts_55
    · refine lv_aload_n (pc := 36) E.1 E.2 dX7_writeAccounts_36 rfl (lv_at hl 1 rfl) ?_
      refine lv_iload_n (pc := 37) E.1 E.2 dX7_writeAccounts_37 rfl (lv_at hl 2 rfl) ?_
      refine lv_iload_n (pc := 38) E.1 E.2 dX7_writeAccounts_38 rfl (lv_at hl 0 rfl) ?_
      refine z_wVv (pc := 39) (As := [.int (iI p), .int (iI k)]) (rest := []) E hml hown hts (mX7_putAccount lL G o (zu ν 31 (0 + ((waK σ p k.toNat).length : Int))) σ π δ τ (ouA ω 0 (waK σ p k.toNat)) p k hI (by omega) (by omega) (by simp only [zu, Int.reduceEq, reduceIte]; omega)) (cwV 2 hts gX7_writeAccounts_X7_putAccount rfl rfl rfl vdX7_putAccount ⟨Nat.le_of_ble_eq_true rfl, Nat.le_of_ble_eq_true rfl⟩) (oB.recv hK hQ.ob rfl) hQ hK hS (fun _ h => h) rfl hl.1 rfl dX7_writeAccounts_39 hcs (Nat.le_of_ble_eq_true rfl) (fun H locs hnew hsz hoth hS => ?_)
      have hQ : QT G o (zu (zu ν 31 (0 + ((waK σ p k.toNat).length : Int))) 31 ((0 + ((waK σ p k.toNat).length : Int)) + ((acL σ p k).length : Int))) σ π δ τ (ouA (ouA ω 0 (waK σ p k.toNat)) ((0 + ((waK σ p k.toNat).length : Int))) (acL σ p k)) H := hnew
      refine lv_iinc (pc := 42) (v := iI (k + 1)) (lv' := [(2, .int (iI (k + 1))), (0, .ref (o 0)), (1, .int (iI p))]) E.1 E.2 dX7_writeAccounts_42 hl (k := 0) rfl (iI_add _ _) (by decide) rfl (fun ls hl => ?_)
      refine lv_goto (pc := 45) (tgt := 31) E.1 E.2 dX7_writeAccounts_45 (by decide) ?_
      exact ihL31 (k + 1) (by omega) (by omega)  _ _ (QT.eq hQ (by rw [zu_zu, ← waK_a σ p hk.1, ← ouA_lN]; first | done | rfl) (by rw [← waK_a σ p hk.1, ouA_app]; first | done | rfl)) hS ls (lv_sub hl [0, 1, 2] rfl)
set_option maxHeartbeats 1000000 in
set_option maxRecDepth 100000 in
theorem mxX7_writeAccounts (lL : Launch) (hst0 : lL.stackTraces = false) (G : GG) (o : Nat → Nat) (ν σ : Int → Int) (π : Nat → Int → Int) (δ τ ω : Int → Int) (p : Int) (hI : In σ) (hp : -2147483648 ≤ p ∧ p < 2147483648) (hbad : ¬ ((kxWA p) = 0)) : vx_Met lL yX7_writeAccounts wsX7_writeAccounts ({ frames := 8, cells := 1, slots := 6, locals := 142 } : Room) (va_Pc [.ref (o 0), .int (iI p)] (fun U => QT G o ν σ π δ τ ω U.heap ∧ KK G U ∧ KX FF0 U U.heap)) (fun _ _ _ _ => False) (XCe (exq xA xI xI (kxWA p))) 1 6 FF0 := by
  refine z_metX (P := (fun H : Heap => QT G o ν σ π δ τ ω H)) (by decide) rfl (Nat.le_of_ble_eq_true rfl) (fun pp ee ss mm below meth cC E hml hown hts hlocks htab hQ hK hX ls hl => ?_)
  have hl : lv_has ls 3 [(0, .ref (o 0)), (1, .int (iI p))] := hl
  have hcs : 0 ≤ (({ frames := 8, cells := 1, slots := 6, locals := 142 } : Room)).cells ∧ 0 ≤ (({ frames := 8, cells := 1, slots := 6, locals := 142 } : Room)).slots := ⟨Nat.zero_le _, Nat.zero_le _⟩
  have hin7 : ∀ w ∈ wsX70, w ∈ wsX7_writeAccounts := fun w h => List.mem_cons_of_mem _ (List.mem_append_left _ (List.mem_append_left _ (List.mem_append_left _ (List.mem_append_left _ (List.mem_append_left _ (List.mem_append_right _ (h)))))))
  have hF := hI.F
  have hMm := hI.M
  have hGn := hI.Gn
  have hTi := hI.ti
  have hGr := hI.gr
  refine lv_iload_n (pc := 0) E.1 E.2 dX7_writeAccounts_0 rfl (lv_at hl 1 rfl) ?_
  by_cases hc1 : 0 ≤ p ∧ p ≤ 7
  · refine z_rSv (pc := 1) (P := fun _ => True) (As := [.int (iI p)]) (rest := []) E hml hown hts (mX7_needProject lL G p (by omega) (by omega)) (va_cwS 1 hts gX7_writeAccounts_X7_needProject rfl rfl rfl vdX7_needProject.2 ⟨Nat.le_of_ble_eq_true rfl, Nat.le_of_ble_eq_true rfl⟩) trivial hK rfl hl.1 rfl dX7_writeAccounts_1 hcs (Nat.le_of_ble_eq_true rfl) ?_
    refine lv_aload_n (pc := 4) E.1 E.2 dX7_writeAccounts_4 rfl (lv_at hl 0 rfl) ?_
    refine g7_5 (pc := 5) E hts hin7 hown hK hQ.ob (hts _ (List.mem_of_getElem? (i := 1) rfl)) dX7_writeAccounts_5 ?_
    refine z_iconst (pc := 8) E dX7_writeAccounts_8 ?_
    exact absurd (show (kxWA p) = 0 by (unfold kxWA; (repeat' split) <;> first | rfl | omega | (exfalso; omega) | contradiction | grind)) hbad
  exact z_badS (pc := 1) (P := fun _ => True) (As := [.int (iI p)]) (rest := []) E hml hown hts (mxX7_needProject lL hst0 G p (by omega) hc1) (va_cwS 1 hts gX7_writeAccounts_X7_needProject rfl rfl rfl vdX7_needProject.2 ⟨Nat.le_of_ble_eq_true rfl, Nat.le_of_ble_eq_true rfl⟩) trivial hK hX rfl hl.1 rfl dX7_writeAccounts_1 ⟨Nat.le_of_ble_eq_true rfl, Nat.le_of_ble_eq_true rfl⟩ (Nat.le_of_ble_eq_true rfl) (by rw [show (kxWA p) = 1 by (unfold kxWA; (repeat' split) <;> first | rfl | omega | (exfalso; omega) | contradiction | grind)]; rfl) htab hlocks
