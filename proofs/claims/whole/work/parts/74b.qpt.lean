set_option maxHeartbeats 1000000 in
set_option maxRecDepth 100000 in
theorem mX7_writtenByte (lL : Launch) (G : GG) (o : Nat → Nat) (ν σ : Int → Int) (π : Nat → Int → Int) (δ τ ω : Int → Int) (i : Int) (hI : In σ) (hi : -2147483648 ≤ i ∧ i < 2147483648) (hm31 : 0 ≤ ν 31 ∧ ν 31 ≤ 900) (hok : (kxWB (ν 31) i) = 0) : Met lL yX7_writtenByte wsX7_writtenByte ({ frames := 1, cells := 0, slots := 0, locals := 21 } : Room) (va_Pc [.ref (o 0), .int (iI i)] (fun U => QT G o ν σ π δ τ ω U.heap ∧ KK G U)) (vp_Si (fun r => r = (iI (ω i % 256)))) 0 0 (fun _ => False) := by
  refine z_met (P := (fun H : Heap => QT G o ν σ π δ τ ω H)) (by decide) rfl (Nat.le_of_ble_eq_true rfl) (fun pp ee ss mm below meth cC E hr hml hown hts hlocks hQ hK ls hl => ?_)
  have hl : lv_has ls 2 [(0, .ref (o 0)), (1, .int (iI i))] := hl
  have hcs : 0 ≤ (({ frames := 1, cells := 0, slots := 0, locals := 21 } : Room)).cells ∧ 0 ≤ (({ frames := 1, cells := 0, slots := 0, locals := 21 } : Room)).slots := ⟨Nat.zero_le _, Nat.zero_le _⟩
  have hin1 : ∀ w ∈ wsX10, w ∈ wsX7_writtenByte := fun w h => List.mem_cons_of_mem _ (List.mem_append_left _ (List.mem_append_right _ (h)))
  have hin7 : ∀ w ∈ wsX70, w ∈ wsX7_writtenByte := fun w h => List.mem_cons_of_mem _ (List.mem_append_left _ (List.mem_append_left _ (List.mem_append_right _ (h))))
  have hF := hI.F
  have hMm := hI.M
  have hGn := hI.Gn
  have hTi := hI.ti
  have hGr := hI.gr
  have hoc := kxWB_ok hok
  refine lv_iload_n (pc := 0) E.1 E.2 dX7_writtenByte_0 rfl (lv_at hl 1 rfl) ?_
  refine z_if_lt (pc := 1) (tgt := 15) E ⟨by omega, by omega⟩ dX7_writtenByte_1 (by decide) (fun h1 => ?_) (fun h1 => ?_)
  · exact absurd hok (by unfold kxWB; (repeat' split) <;> first | decide | omega | (exfalso; omega) | grind)
  · refine lv_iload_n (pc := 4) E.1 E.2 dX7_writtenByte_4 rfl (lv_at hl 1 rfl) ?_
    refine lv_aload_n (pc := 5) E.1 E.2 dX7_writtenByte_5 rfl (lv_at hl 0 rfl) ?_
    refine g7_5 (pc := 6) E hts hin7 hown hK hQ.ob (hts _ (List.mem_of_getElem? (i := 3) rfl)) dX7_writtenByte_6 ?_
    refine g1_1 (pc := 9) E hts hin1 hown hK hQ.wro (hts _ (List.mem_of_getElem? (i := 4) rfl)) dX7_writtenByte_9 ?_
    refine z_icmp_lt (pc := 12) (tgt := 26) E ⟨by omega, by omega⟩ ⟨by omega, by omega⟩ dX7_writtenByte_12 (by decide) (fun h12 => ?_) (fun h12 => ?_)
    · refine lv_aload_n (pc := 26) E.1 E.2 dX7_writtenByte_26 rfl (lv_at hl 0 rfl) ?_
      refine g7_5 (pc := 27) E hts hin7 hown hK hQ.ob (hts _ (List.mem_of_getElem? (i := 3) rfl)) dX7_writtenByte_27 ?_
      refine lv_iload_n (pc := 30) E.1 E.2 dX7_writtenByte_30 rfl (lv_at hl 1 rfl) ?_
      refine z_rVi (pc := 31) (As := [.int (iI i)]) (rest := []) E hml hown hts (mX1_byteAt lL G (fun k => o (166 + k)) (ν 31) ω i (by omega) (by omega)) (cwV 1 hts gX7_writtenByte_X1_byteAt rfl rfl rfl vdX1_byteAt ⟨Nat.le_of_ble_eq_true rfl, Nat.le_of_ble_eq_true rfl⟩) (oB.recv hK hQ.wro rfl) hQ.wri hK rfl hl.1 rfl dX7_writtenByte_31 hcs (Nat.le_of_ble_eq_true rfl) ?_
      exact z_retRi E hr (congrArg iI (by (rw [if_pos (by omega)]))) hlocks dX7_writtenByte_34
    · exact absurd hok (by unfold kxWB; (repeat' split) <;> first | decide | omega | (exfalso; omega) | grind)
set_option maxHeartbeats 1000000 in
set_option maxRecDepth 100000 in
theorem mxX7_writtenByte (lL : Launch) (hst0 : lL.stackTraces = false) (G : GG) (o : Nat → Nat) (ν σ : Int → Int) (π : Nat → Int → Int) (δ τ ω : Int → Int) (i : Int) (hI : In σ) (hi : -2147483648 ≤ i ∧ i < 2147483648) (hm31 : 0 ≤ ν 31 ∧ ν 31 ≤ 900) (hbad : ¬ ((kxWB (ν 31) i) = 0)) : vx_Met lL yX7_writtenByte wsX7_writtenByte ({ frames := 6, cells := 1, slots := 6, locals := 100 } : Room) (va_Pc [.ref (o 0), .int (iI i)] (fun U => QT G o ν σ π δ τ ω U.heap ∧ KK G U ∧ KX FF0 U U.heap)) (fun _ _ _ _ => False) (XCe (exq xI xI xI (kxWB (ν 31) i))) 1 6 FF0 := by
  refine z_metX (P := (fun H : Heap => QT G o ν σ π δ τ ω H)) (by decide) rfl (Nat.le_of_ble_eq_true rfl) (fun pp ee ss mm below meth cC E hml hown hts hlocks htab hQ hK hX ls hl => ?_)
  have hl : lv_has ls 2 [(0, .ref (o 0)), (1, .int (iI i))] := hl
  have hcs : 0 ≤ (({ frames := 6, cells := 1, slots := 6, locals := 100 } : Room)).cells ∧ 0 ≤ (({ frames := 6, cells := 1, slots := 6, locals := 100 } : Room)).slots := ⟨Nat.zero_le _, Nat.zero_le _⟩
  have hin1 : ∀ w ∈ wsX10, w ∈ wsX7_writtenByte := fun w h => List.mem_cons_of_mem _ (List.mem_append_left _ (List.mem_append_right _ (h)))
  have hin7 : ∀ w ∈ wsX70, w ∈ wsX7_writtenByte := fun w h => List.mem_cons_of_mem _ (List.mem_append_left _ (List.mem_append_left _ (List.mem_append_right _ (h))))
  have hF := hI.F
  have hMm := hI.M
  have hGn := hI.Gn
  have hTi := hI.ti
  have hGr := hI.gr
  refine lv_iload_n (pc := 0) E.1 E.2 dX7_writtenByte_0 rfl (lv_at hl 1 rfl) ?_
  refine z_if_lt (pc := 1) (tgt := 15) E ⟨by omega, by omega⟩ dX7_writtenByte_1 (by decide) (fun h1 => ?_) (fun h1 => ?_)
  · exact z_thrW_xI (pc := 15) (rest := []) (is := 395) (text := "no such byte") E hst0 hown (hts _ (List.mem_of_getElem? (i := 1) rfl)) (hts _ (List.mem_of_getElem? (i := 2) rfl)) (fun w h => hts w (List.mem_cons_of_mem _ (List.mem_append_right _ (h)))) hX (List.mem_of_getElem? (i := 18) rfl) (hl.1.trans hml.symm) dX7_writtenByte_15 dX7_writtenByte_18 dX7_writtenByte_19 dX7_writtenByte_22 dX7_writtenByte_25 htab (Nat.le_of_ble_eq_true rfl) (Nat.le_of_ble_eq_true rfl) (Nat.le_of_ble_eq_true rfl) (Nat.le_of_ble_eq_true rfl) hlocks (by rw [show (kxWB (ν 31) i) = 1 by (unfold kxWB; (repeat' split) <;> first | rfl | omega | (exfalso; omega) | contradiction | grind)]; rfl)
  · refine lv_iload_n (pc := 4) E.1 E.2 dX7_writtenByte_4 rfl (lv_at hl 1 rfl) ?_
    refine lv_aload_n (pc := 5) E.1 E.2 dX7_writtenByte_5 rfl (lv_at hl 0 rfl) ?_
    refine g7_5 (pc := 6) E hts hin7 hown hK hQ.ob (hts _ (List.mem_of_getElem? (i := 3) rfl)) dX7_writtenByte_6 ?_
    refine g1_1 (pc := 9) E hts hin1 hown hK hQ.wro (hts _ (List.mem_of_getElem? (i := 4) rfl)) dX7_writtenByte_9 ?_
    refine z_icmp_lt (pc := 12) (tgt := 26) E ⟨by omega, by omega⟩ ⟨by omega, by omega⟩ dX7_writtenByte_12 (by decide) (fun h12 => ?_) (fun h12 => ?_)
    · refine lv_aload_n (pc := 26) E.1 E.2 dX7_writtenByte_26 rfl (lv_at hl 0 rfl) ?_
      refine g7_5 (pc := 27) E hts hin7 hown hK hQ.ob (hts _ (List.mem_of_getElem? (i := 3) rfl)) dX7_writtenByte_27 ?_
      refine lv_iload_n (pc := 30) E.1 E.2 dX7_writtenByte_30 rfl (lv_at hl 1 rfl) ?_
      refine z_rVi (pc := 31) (As := [.int (iI i)]) (rest := []) E hml hown hts (mX1_byteAt lL G (fun k => o (166 + k)) (ν 31) ω i (by omega) (by omega)) (cwV 1 hts gX7_writtenByte_X1_byteAt rfl rfl rfl vdX1_byteAt ⟨Nat.le_of_ble_eq_true rfl, Nat.le_of_ble_eq_true rfl⟩) (oB.recv hK hQ.wro rfl) hQ.wri hK rfl hl.1 rfl dX7_writtenByte_31 hcs (Nat.le_of_ble_eq_true rfl) ?_
      exact absurd (show (kxWB (ν 31) i) = 0 by (unfold kxWB; (repeat' split) <;> first | rfl | omega | (exfalso; omega) | contradiction | grind)) hbad
    · exact z_thrW_xI (pc := 15) (rest := []) (is := 395) (text := "no such byte") E hst0 hown (hts _ (List.mem_of_getElem? (i := 1) rfl)) (hts _ (List.mem_of_getElem? (i := 2) rfl)) (fun w h => hts w (List.mem_cons_of_mem _ (List.mem_append_right _ (h)))) hX (List.mem_of_getElem? (i := 18) rfl) (hl.1.trans hml.symm) dX7_writtenByte_15 dX7_writtenByte_18 dX7_writtenByte_19 dX7_writtenByte_22 dX7_writtenByte_25 htab (Nat.le_of_ble_eq_true rfl) (Nat.le_of_ble_eq_true rfl) (Nat.le_of_ble_eq_true rfl) (Nat.le_of_ble_eq_true rfl) hlocks (by rw [show (kxWB (ν 31) i) = 1 by (unfold kxWB; (repeat' split) <;> first | rfl | omega | (exfalso; omega) | contradiction | grind)]; rfl)
set_option maxHeartbeats 1000000 in
set_option maxRecDepth 100000 in
theorem mX7_writePath (lL : Launch) (G : GG) (o : Nat → Nat) (ν σ : Int → Int) (π : Nat → Int → Int) (δ τ ω : Int → Int) (f : Int) (hI : In σ) (hf : -2147483648 ≤ f ∧ f < 2147483648) (hok : (kxFo σ f) = 0) : Met lL yX7_writePath wsX7_writePath ({ frames := 3, cells := 0, slots := 0, locals := 66 } : Room) (va_Pc [.ref (o 0), .int (iI f)] (fun U => QT G o ν σ π δ τ ω U.heap ∧ KK G U)) (va_Qi (fun r (_ : Unit) => r = (iI ((paL σ 39 f).length : Int))) (fun _ tZ => QT G o (zu ν 31 ((paL σ 39 f).length : Int)) σ π δ τ (ouA ω 0 (paL σ 39 f)) tZ.heap) (Ax o 187)) 0 0 (Ax o 187) := by
  refine z_met (P := (fun H : Heap => QT G o ν σ π δ τ ω H)) (by decide) rfl (Nat.le_of_ble_eq_true rfl) (fun pp ee ss mm below meth cC E hr hml hown hts hlocks hQ hK ls hl => ?_)
  have hl : lv_has ls 3 [(0, .ref (o 0)), (1, .int (iI f))] := hl
  have hcs : 0 ≤ (({ frames := 3, cells := 0, slots := 0, locals := 66 } : Room)).cells ∧ 0 ≤ (({ frames := 3, cells := 0, slots := 0, locals := 66 } : Room)).slots := ⟨Nat.zero_le _, Nat.zero_le _⟩
  have hS : va_S (Ax o 187) ss.heap ss.heap [] := va_S.rf
  have hin1 : ∀ w ∈ wsX10, w ∈ wsX7_writePath := fun w h => List.mem_cons_of_mem _ (List.mem_append_left _ (List.mem_append_left _ (List.mem_append_left _ (List.mem_append_right _ (h)))))
  have hin6 : ∀ w ∈ wsX60, w ∈ wsX7_writePath := fun w h => List.mem_cons_of_mem _ (List.mem_append_left _ (List.mem_append_left _ (List.mem_append_right _ (h))))
  have hin7 : ∀ w ∈ wsX70, w ∈ wsX7_writePath := fun w h => List.mem_cons_of_mem _ (List.mem_append_left _ (List.mem_append_left _ (List.mem_append_left _ (List.mem_append_left _ (List.mem_append_right _ (h))))))
  have hF := hI.F
  have hMm := hI.M
  have hGn := hI.Gn
  have hTi := hI.ti
  have hGr := hI.gr
  have hoc := kxFo_ok hok
  have hdd := dpF_s hI.cs hoc.1 hoc.2
  have hd40 := dpF_bd40 hI hoc
  have hdp := dpF_bd σ (σ (69 + f))
  refine lv_aload_n (pc := 0) E.1 E.2 dX7_writePath_0 rfl (lv_at hl 0 rfl) ?_
  refine lv_iload_n (pc := 1) E.1 E.2 dX7_writePath_1 rfl (lv_at hl 1 rfl) ?_
  refine z_rVv (pc := 2) (As := [.int (iI f)]) (rest := []) E hml hown hts (mX7_needFolder lL G o ν σ π δ τ ω f hI (by omega) (by omega)) (cwV 1 hts gX7_writePath_X7_needFolder rfl rfl rfl vdX7_needFolder ⟨Nat.le_of_ble_eq_true rfl, Nat.le_of_ble_eq_true rfl⟩) (oB.recv hK hQ.ob rfl) hQ hK rfl hl.1 rfl dX7_writePath_2 hcs (Nat.le_of_ble_eq_true rfl) ?_
  refine lv_aload_n (pc := 5) E.1 E.2 dX7_writePath_5 rfl (lv_at hl 0 rfl) ?_
  refine g7_5 (pc := 6) E hts hin7 hown hK hQ.ob (hts _ (List.mem_of_getElem? (i := 1) rfl)) dX7_writePath_6 ?_
  refine z_iconst (pc := 9) E dX7_writePath_9 ?_
  refine p1_1 (pc := 10) E hts hin1 hown hK hQ.wro hS (Ax.at 166 (by decide)) (hts _ (List.mem_of_getElem? (i := 2) rfl)) dX7_writePath_10 (fun H locs hnew hoth hS => ?_)
  have hQ := QT.upW (ν2 := (zu ν 31 0)) hQ (BYr.p hQ.wri (V2 := [.ref (o 167), .int (iI 0)]) hnew (fun q _ h => hoth q h)) (fun q _ h => hoth q (fun z => h ⟨0, by decide, z⟩)) (fun j hj => zu_n _ _ hj)
  refine lv_aload_n (pc := 13) E.1 E.2 dX7_writePath_13 rfl (lv_at hl 0 rfl) ?_
  refine g7_0 (pc := 14) E hts hin7 hown hK hQ.ob (hts _ (List.mem_of_getElem? (i := 3) rfl)) dX7_writePath_14 ?_
  refine g6_0 (pc := 17) E hts hin6 hown hK hQ.nob (hts _ (List.mem_of_getElem? (i := 4) rfl)) dX7_writePath_17 ?_
  refine lv_iload_n (pc := 20) E.1 E.2 dX7_writePath_20 rfl (lv_at hl 1 rfl) ?_
  refine z_rVi (pc := 21) (As := [.int (iI f)]) (rest := []) E hml hown hts (mX3_depthOf lL G (fun k => o (1 + (1 + k))) σ f hI (by omega)) (cwV 1 hts gX7_writePath_X3_depthOf rfl rfl rfl vdX3_depthOf ⟨Nat.le_of_ble_eq_true rfl, Nat.le_of_ble_eq_true rfl⟩) (oB.recv hK hQ.foo rfl) hQ.now.fo hK rfl hl.1 rfl dX7_writePath_21 hcs (Nat.le_of_ble_eq_true rfl) ?_
  refine lv_istore_n (pc := 24) (lv' := [(2, .int (iI (dpF σ (σ (69 + f))))), (0, .ref (o 0)), (1, .int (iI f))]) E.1 E.2 dX7_writePath_24 rfl hl (by decide) rfl (fun ls hl => ?_)
  suffices L25 : ∀ (nf : Nat), ∀ (s : Int), (-1 ≤ s ∧ s ≤ dpF σ (σ (69 + f))) → ((s + 1).toNat) < nf → ∀  (H : Heap) (locs : List Loc), QT G o (zu ν 31 (0 + ((LPa σ f s).length : Int))) σ π δ τ (ouA ω 0 (LPa σ f s)) H → va_S (Ax o 187) ss.heap H locs → ∀ ls : Array Slot, lv_has ls 3 [(2, .int (iI s)), (0, .ref (o 0)), (1, .int (iI f))] → W pp lL ee ({ frames := 3, cells := 0, slots := 0, locals := 66 } : Room) ss mm [.ref (o 0), .int (iI f)].toArray below meth cC H locs 0 0 (MQ below (va_Qi (fun r (_ : Unit) => r = (iI ((paL σ 39 f).length : Int))) (fun _ tZ => QT G o (zu ν 31 ((paL σ 39 f).length : Int)) σ π δ τ (ouA ω 0 (paL σ 39 f)) tZ.heap) (Ax o 187)) [.ref (o 0), .int (iI f)].toArray ss 0 0 (Ax o 187)) (F0 mm 25 ls []) from L25 _ (dpF σ (σ (69 + f))) (by omega) (Nat.lt_succ_self _)  _ _ (QT.eq hQ (by rw [LPa_0]; rfl) (by rw [LPa_0]; rfl)) hS ls (lv_sub hl [0, 1, 2] rfl)
  intro nfL25
  induction nfL25 with
  | zero => intro s hs hmzL25; exact absurd hmzL25 (Nat.not_lt_zero _)
  | succ nfL25 ihL25 =>
    intro s hs hmzL25  H locs hQ hS ls hl
    have hlp := LPa_b σ f s
    refine lv_iload_n (pc := 25) E.1 E.2 dX7_writePath_25 rfl (lv_at hl 0 rfl) ?_
    refine z_if_lt (pc := 26) (tgt := 77) E ⟨by omega, by omega⟩ dX7_writePath_26 (by decide) (fun h26 => ?_) (fun h26 => ?_)
    · have hse : LPa σ f s = paL σ 39 f := by rw [show s = 0 + -1 by omega]; exact LPa_z σ f
      have hsl : ((LPa σ f s).length : Int) = ((paL σ 39 f).length : Int) := by rw [hse]
      refine lv_aload_n (pc := 77) E.1 E.2 dX7_writePath_77 rfl (lv_at hl 1 rfl) ?_
      refine g7_5 (pc := 78) E hts hin7 hown hK hQ.ob (hts _ (List.mem_of_getElem? (i := 1) rfl)) dX7_writePath_78 ?_
      refine g1_1 (pc := 81) E hts hin1 hown hK hQ.wro (hts _ (List.mem_of_getElem? (i := 2) rfl)) dX7_writePath_81 ?_
      rw [show (zu ν 31 (0 + ((LPa σ f s).length : Int))) 31 = 0 + ((LPa σ f s).length : Int) from by simp only [zu, Int.reduceEq, reduceIte]]
      exact z_retWi E hr (congrArg iI (by omega)) (QT.eq hQ (by rw [Int.zero_add, hse]) (by rw [hse])) hS hlocks dX7_writePath_84
    · have han := anS_d hI hoc s.toNat (by omega)
      have hnm := hI.nam han.1.1 han.1.2
      have hpb := paL_b σ 39 (anS σ s.toNat f)
      refine lv_aload_n (pc := 29) E.1 E.2 dX7_writePath_29 rfl (lv_at hl 1 rfl) ?_
      refine g7_5 (pc := 30) E hts hin7 hown hK hQ.ob (hts _ (List.mem_of_getElem? (i := 1) rfl)) dX7_writePath_30 ?_
      refine lv_aload_n (pc := 33) E.1 E.2 dX7_writePath_33 rfl (lv_at hl 1 rfl) ?_
      refine g7_0 (pc := 34) E hts hin7 hown hK hQ.ob (hts _ (List.mem_of_getElem? (i := 3) rfl)) dX7_writePath_34 ?_
      refine g6_0 (pc := 37) E hts hin6 hown hK hQ.nob (hts _ (List.mem_of_getElem? (i := 4) rfl)) dX7_writePath_37 ?_
      refine lv_aload_n (pc := 40) E.1 E.2 dX7_writePath_40 rfl (lv_at hl 1 rfl) ?_
      refine g7_0 (pc := 41) E hts hin7 hown hK hQ.ob (hts _ (List.mem_of_getElem? (i := 3) rfl)) dX7_writePath_41 ?_
      refine g6_0 (pc := 44) E hts hin6 hown hK hQ.nob (hts _ (List.mem_of_getElem? (i := 4) rfl)) dX7_writePath_44 ?_
      refine lv_iload_n (pc := 47) E.1 E.2 dX7_writePath_47 rfl (lv_at hl 2 rfl) ?_
      refine lv_iload_n (pc := 48) E.1 E.2 dX7_writePath_48 rfl (lv_at hl 0 rfl) ?_
      refine z_rVi (pc := 49) (As := [.int (iI f), .int (iI s)]) (rest := [.ref (o 2), .ref (o 166)]) E hml hown hts (mX3_ancestorOf lL G (fun k => o (1 + (1 + k))) σ f s hI (by omega) (by omega)) (cwV 2 hts gX7_writePath_X3_ancestorOf rfl rfl rfl vdX3_ancestorOf ⟨Nat.le_of_ble_eq_true rfl, Nat.le_of_ble_eq_true rfl⟩) (oB.recv hK hQ.foo rfl) hQ.now.fo hK rfl hl.1 rfl dX7_writePath_49 hcs (Nat.le_of_ble_eq_true rfl) ?_
      refine z_rVl (pc := 52) (As := [.int (iI (anS σ s.toNat f))]) (rest := [.ref (o 166)]) E hml hown hts (mX3_nameOf lL G (fun k => o (1 + (1 + k))) σ (anS σ s.toNat f) hI (by omega)) (cwV 1 hts gX7_writePath_X3_nameOf rfl rfl rfl vdX3_nameOf ⟨Nat.le_of_ble_eq_true rfl, Nat.le_of_ble_eq_true rfl⟩) (oB.recv hK hQ.foo rfl) hQ.now.fo hK rfl hl.1 rfl dX7_writePath_52 hcs (Nat.le_of_ble_eq_true rfl) ?_
      rw [show (if 0 ≤ (anS σ s.toNat f) ∧ (anS σ s.toNat f) < σ 2 then σ (149 + (anS σ s.toNat f)) else 0) = (σ (149 + anS σ s.toNat f)) from (if_pos han.1)]
      refine z_wVv (pc := 55) (As := [.long (iL (σ (149 + anS σ s.toNat f)))]) (rest := []) E hml hown hts (mX1_putName lL G (fun k => o (166 + k)) (0 + ((LPa σ f s).length : Int)) (ouA ω 0 (LPa σ f s)) (σ (149 + anS σ s.toNat f)) hnm (by omega)) (cwV 1 hts gX7_writePath_X1_putName rfl rfl rfl vdX1_putName ⟨Nat.le_of_ble_eq_true rfl, Nat.le_of_ble_eq_true rfl⟩) (oB.recv hK hQ.wro rfl) (by simpa only [zu, Int.reduceEq, reduceIte] using hQ.wri) hK hS (Aq.up (by decide)) rfl hl.1 rfl dX7_writePath_55 hcs (Nat.le_of_ble_eq_true rfl) (fun H locs hnew hsz hoth hS => ?_)
      have hQ : QT G o (zu ν 31 ((0 + ((LPa σ f s).length : Int)) + ((naL 7 (σ (149 + anS σ s.toNat f))).length : Int))) σ π δ τ (ouA (ouA ω 0 (LPa σ f s)) (0 + ((LPa σ f s).length : Int)) (naL 7 (σ (149 + anS σ s.toNat f)))) H := QT.upW (ν2 := (zu ν 31 ((0 + ((LPa σ f s).length : Int)) + ((naL 7 (σ (149 + anS σ s.toNat f))).length : Int)))) hQ (by simpa only [zu, Int.reduceEq, reduceIte] using hnew) (fun q h1 h2 => hoth q h1 h2) (fun j hj => (zu_n _ _ hj).trans (zu_n _ _ hj).symm)
      have hQ : QT G o (zu ν 31 (0 + ((paL σ 39 (anS σ s.toNat f)).length : Int))) σ π δ τ (ouA ω 0 (paL σ 39 (anS σ s.toNat f))) H := QT.eq hQ (by rw [← LPa_s hI hoc ⟨by omega, by omega⟩, ← ouA_lN]; first | done | rfl) (by rw [← LPa_s hI hoc ⟨by omega, by omega⟩, ouA_app]; first | done | rfl)
      refine lv_iload_n (pc := 58) E.1 E.2 dX7_writePath_58 rfl (lv_at hl 0 rfl) ?_
      refine z_if_le (pc := 59) (tgt := 71) E ⟨by omega, by omega⟩ dX7_writePath_59 (by decide) (fun h59 => ?_) (fun h59 => ?_)
      · refine lv_iinc (pc := 71) (v := iI (s + (-1))) (lv' := [(2, .int (iI (s + (-1)))), (0, .ref (o 0)), (1, .int (iI f))]) E.1 E.2 dX7_writePath_71 hl (k := 0) rfl (iI_add _ _) (by decide) rfl (fun ls hl => ?_)
        refine lv_goto (pc := 74) (tgt := 25) E.1 E.2 dX7_writePath_74 (by decide) ?_
        exact ihL25 (s + (-1)) (by omega) (by omega)  _ _ (QT.eq hQ (by rw [show s = 0 by omega, LPa_z]; rfl) (by rw [show s = 0 by omega, LPa_z]; rfl)) hS ls (lv_sub hl [0, 1, 2] rfl)
      · refine lv_aload_n (pc := 62) E.1 E.2 dX7_writePath_62 rfl (lv_at hl 1 rfl) ?_
        refine g7_5 (pc := 63) E hts hin7 hown hK hQ.ob (hts _ (List.mem_of_getElem? (i := 1) rfl)) dX7_writePath_63 ?_
        refine z_bipush (pc := 66) E (by decide) dX7_writePath_66 ?_
        refine z_wVv (pc := 68) (As := [.int (iI 47)]) (rest := []) E hml hown hts (mX1_put lL G (fun k => o (166 + k)) (0 + ((paL σ 39 (anS σ s.toNat f)).length : Int)) (ouA ω 0 (paL σ 39 (anS σ s.toNat f))) 47 (by omega) (by omega)) (cwV 1 hts gX7_writePath_X1_put rfl rfl rfl vdX1_put ⟨Nat.le_of_ble_eq_true rfl, Nat.le_of_ble_eq_true rfl⟩) (oB.recv hK hQ.wro rfl) (by simpa only [zu, Int.reduceEq, reduceIte] using hQ.wri) hK hS (Aq.up (by decide)) rfl hl.1 rfl dX7_writePath_68 hcs (Nat.le_of_ble_eq_true rfl) (fun H locs hnew hsz hoth hS => ?_)
        have hQ : QT G o (zu ν 31 ((0 + ((paL σ 39 (anS σ s.toNat f)).length : Int)) + 1)) σ π δ τ (zu (ouA ω 0 (paL σ 39 (anS σ s.toNat f))) (0 + ((paL σ 39 (anS σ s.toNat f)).length : Int)) (sg8 47)) H := QT.upW (ν2 := (zu ν 31 ((0 + ((paL σ 39 (anS σ s.toNat f)).length : Int)) + 1))) hQ (by simpa only [zu, Int.reduceEq, reduceIte] using hnew) (fun q h1 h2 => hoth q h1 h2) (fun j hj => (zu_n _ _ hj).trans (zu_n _ _ hj).symm)
        have hQ : QT G o (zu ν 31 (0 + ((paL σ 39 (anS σ s.toNat f) ++ [47]).length : Int))) σ π δ τ (ouA ω 0 (paL σ 39 (anS σ s.toNat f) ++ [47])) H := QT.eq hQ (by rw [← ouA_l2]; first | done | rfl) (by rw [← ouA_2]; rfl; first | done | rfl)
        refine lv_iinc (pc := 71) (v := iI (s + (-1))) (lv' := [(2, .int (iI (s + (-1)))), (0, .ref (o 0)), (1, .int (iI f))]) E.1 E.2 dX7_writePath_71 hl (k := 0) rfl (iI_add _ _) (by decide) rfl (fun ls hl => ?_)
        refine lv_goto (pc := 74) (tgt := 25) E.1 E.2 dX7_writePath_74 (by decide) ?_
        exact ihL25 (s + (-1)) (by omega) (by omega)  _ _ (QT.eq hQ (by rw [LPa_p σ f (by omega)]) (by rw [LPa_p σ f (by omega)])) hS ls (lv_sub hl [0, 1, 2] rfl)
set_option maxHeartbeats 1000000 in
set_option maxRecDepth 100000 in
theorem mxX7_writePath (lL : Launch) (hst0 : lL.stackTraces = false) (G : GG) (o : Nat → Nat) (ν σ : Int → Int) (π : Nat → Int → Int) (δ τ ω : Int → Int) (f : Int) (hI : In σ) (hf : -2147483648 ≤ f ∧ f < 2147483648) (hbad : ¬ ((kxFo σ f) = 0)) : vx_Met lL yX7_writePath wsX7_writePath ({ frames := 7, cells := 1, slots := 6, locals := 121 } : Room) (va_Pc [.ref (o 0), .int (iI f)] (fun U => QT G o ν σ π δ τ ω U.heap ∧ KK G U ∧ KX FF0 U U.heap)) (fun _ _ _ _ => False) (XCe (exq xI xI xI (kxFo σ f))) 1 6 FF0 := by
  refine z_metX (P := (fun H : Heap => QT G o ν σ π δ τ ω H)) (by decide) rfl (Nat.le_of_ble_eq_true rfl) (fun pp ee ss mm below meth cC E hml hown hts hlocks htab hQ hK hX ls hl => ?_)
  have hl : lv_has ls 3 [(0, .ref (o 0)), (1, .int (iI f))] := hl
  have hcs : 0 ≤ (({ frames := 7, cells := 1, slots := 6, locals := 121 } : Room)).cells ∧ 0 ≤ (({ frames := 7, cells := 1, slots := 6, locals := 121 } : Room)).slots := ⟨Nat.zero_le _, Nat.zero_le _⟩
  have hin7 : ∀ w ∈ wsX70, w ∈ wsX7_writePath := fun w h => List.mem_cons_of_mem _ (List.mem_append_left _ (List.mem_append_left _ (List.mem_append_left _ (List.mem_append_left _ (List.mem_append_right _ (h))))))
  have hF := hI.F
  have hMm := hI.M
  have hGn := hI.Gn
  have hTi := hI.ti
  have hGr := hI.gr
  refine lv_aload_n (pc := 0) E.1 E.2 dX7_writePath_0 rfl (lv_at hl 0 rfl) ?_
  refine lv_iload_n (pc := 1) E.1 E.2 dX7_writePath_1 rfl (lv_at hl 1 rfl) ?_
  by_cases hc2 : 0 ≤ f ∧ f < σ 2
  · refine z_rVv (pc := 2) (As := [.int (iI f)]) (rest := []) E hml hown hts (mX7_needFolder lL G o ν σ π δ τ ω f hI (by omega) (by omega)) (cwV 1 hts gX7_writePath_X7_needFolder rfl rfl rfl vdX7_needFolder ⟨Nat.le_of_ble_eq_true rfl, Nat.le_of_ble_eq_true rfl⟩) (oB.recv hK hQ.ob rfl) hQ hK rfl hl.1 rfl dX7_writePath_2 hcs (Nat.le_of_ble_eq_true rfl) ?_
    refine lv_aload_n (pc := 5) E.1 E.2 dX7_writePath_5 rfl (lv_at hl 0 rfl) ?_
    refine g7_5 (pc := 6) E hts hin7 hown hK hQ.ob (hts _ (List.mem_of_getElem? (i := 1) rfl)) dX7_writePath_6 ?_
    refine z_iconst (pc := 9) E dX7_writePath_9 ?_
    exact absurd (show (kxFo σ f) = 0 by (unfold kxFo; (repeat' split) <;> first | rfl | omega | (exfalso; omega) | contradiction | grind)) hbad
  exact z_badV (pc := 2) (As := [.int (iI f)]) (rest := []) E hml hown hts (mxX7_needFolder lL hst0 G o ν σ π δ τ ω f hI (by omega) hc2) (cwV 1 hts gX7_writePath_X7_needFolder rfl rfl rfl vdX7_needFolder ⟨Nat.le_of_ble_eq_true rfl, Nat.le_of_ble_eq_true rfl⟩) (oB.recv hK hQ.ob rfl) hQ hK hX rfl hl.1 rfl dX7_writePath_2 ⟨Nat.le_of_ble_eq_true rfl, Nat.le_of_ble_eq_true rfl⟩ (Nat.le_of_ble_eq_true rfl) (by rw [show (kxFo σ f) = 1 by (unfold kxFo; (repeat' split) <;> first | rfl | omega | (exfalso; omega) | contradiction | grind)]; rfl) htab hlocks
