set_option maxHeartbeats 1000000 in
set_option maxRecDepth 100000 in
theorem mX8_saysPath0 (lL : Launch) (G : GG) (o : Nat → Nat) (μ σ φ κ β ω : Int → Int) (f : Int) (hI : In σ) (hf : 0 ≤ f ∧ f < σ 2) (hd : dpF σ f ≤ 1) (hm : 0 ≤ μ 17 ∧ μ 17 + 9 ≤ 400) : Met lL yX8_saysPath wsX8_saysPath ({ frames := 9, cells := 0, slots := 0, locals := 197 } : Room) (va_Pc [.ref (o 0), .int (iI f)] (fun U => W8 G o (mV o μ) σ φ κ β ω U.heap ∧ KK G U)) (va_Qv (fun _ : Unit => True) (fun _ tZ => W8 G o (mV o (zu μ 17 (μ 17 + ((paL σ 0 f).length : Int)))) σ φ κ β (ouA ω (μ 17) (paL σ 0 f)) tZ.heap) (Ax o 6)) 0 0 (Ax o 6) := by
  refine z_met (P := (fun H : Heap => W8 G o (mV o μ) σ φ κ β ω H)) (by decide) rfl (Nat.le_of_ble_eq_true rfl) (fun pp ee ss mm below meth cC E hr hml hown hts hlocks hM hK ls hl => ?_)
  have hl : lv_has ls 2 [(0, .ref (o 0)), (1, .int (iI f))] := hl
  have hcs : 0 ≤ (({ frames := 9, cells := 0, slots := 0, locals := 197 } : Room)).cells ∧ 0 ≤ (({ frames := 9, cells := 0, slots := 0, locals := 197 } : Room)).slots := ⟨Nat.zero_le _, Nat.zero_le _⟩
  have hS : va_S (Ax o 6) ss.heap ss.heap [] := va_S.rf
  have hin8 : ∀ w ∈ wsX80, w ∈ wsX8_saysPath := fun w h => List.mem_cons_of_mem _ (List.mem_append_right _ (h))
  have hF := hI.F
  have hMm := hI.M
  have hGn := hI.Gn
  have hnk := nmk_b (hI.nam hf.1 hf.2)
  have e9 := dpF_s hI.cs hf.1 hf.2
  refine lv_iload_n (pc := 0) E.1 E.2 dX8_saysPath_0 rfl (lv_at hl 1 rfl) ?_
  refine z_if_le (pc := 1) (tgt := 19) E ⟨by omega, by omega⟩ dX8_saysPath_1 (by decide) (fun h1 => ?_) (fun h1 => ?_)
  · refine lv_aload_n (pc := 19) E.1 E.2 dX8_saysPath_19 rfl (lv_at hl 0 rfl) ?_
    refine lv_aload_n (pc := 20) E.1 E.2 dX8_saysPath_20 rfl (lv_at hl 0 rfl) ?_
    refine g8_0 (pc := 21) E hts hin8 hown hK hM.1 (hts _ (List.mem_of_getElem? (i := 1) rfl)) dX8_saysPath_21 ?_
    refine z_sipush (pc := 24) E (by decide) dX8_saysPath_24 ?_
    refine lv_iload_n (pc := 27) E.1 E.2 dX8_saysPath_27 rfl (lv_at hl 1 rfl) ?_
    refine z_iadd (pc := 28) E dX8_saysPath_28 ?_
    refine z_laload (pc := 29) E hK hM.2.1 ⟨by omega, by omega⟩ (by decide) dX8_saysPath_29 ?_
    have hb29 := hI.bd (149 + f)
    refine z_wVv (pc := 30) (As := [.long (iL (σ (149 + f)))]) (rest := []) E hml hown hts (mX8_saysName7 lL G o μ σ φ κ β ω (σ (149 + f)) (by omega) (by omega)) (cwV 1 hts gX8_saysPath_X8_saysName rfl rfl rfl vdX8_saysName ⟨Nat.le_of_ble_eq_true rfl, Nat.le_of_ble_eq_true rfl⟩) (oB.recv hK hM.1 rfl) hM hK hS (fun _ h => h) rfl hl.1 rfl dX8_saysPath_30 hcs (Nat.le_of_ble_eq_true rfl) (fun H locs hnew hsz hoth hS => ?_)
    have hM : W8 G o [.ref (o 1), .ref (o 2), .ref (o 3), .int (iI (μ 3)), .int (iI (μ 4)), .ref (o 4), .int (iI (μ 6)), .int (iI (μ 7)), .int (iI (μ 8)), .int (iI (μ 9)), .int (iI (μ 10)), .int (iI (μ 11)), .int (iI (μ 12)), .int (iI (μ 13)), .int (iI (μ 14)), .long (iL (μ 15)), .ref (o 5), .int (iI (μ 17 + ((naL 7 (σ (149 + f))).length : Int)))] σ φ κ β (ouA ω (μ 17) (naL 7 (σ (149 + f)))) H := W8.eq hnew (by simp only [mV, zu, Int.reduceEq, reduceIte])
    exact z_retWv E hr (by rw [show paL σ 0 f = naL 7 (σ (149 + f)) from rfl]; exact W8.mu hM (by simp only [mV, zu, Int.reduceEq, reduceIte])) hS hlocks dX8_saysPath_33
  · have hp1 := hI.par1 (f := f) (by omega) hf.2
    exfalso; have q1 := hI.par1 (f := f) (by omega) hf.2; have q2 := dpF_s hI.cs (f := σ (69 + f)) (by omega) (by omega); have q3 := dpF_bd σ (σ (69 + σ (69 + f))); omega
set_option maxHeartbeats 1000000 in
set_option maxRecDepth 100000 in
theorem mX8_saysPath1 (lL : Launch) (G : GG) (o : Nat → Nat) (μ σ φ κ β ω : Int → Int) (f : Int) (hI : In σ) (hf : 0 ≤ f ∧ f < σ 2) (hd : dpF σ f ≤ 2) (hm : 0 ≤ μ 17 ∧ μ 17 + 18 ≤ 400) : Met lL yX8_saysPath wsX8_saysPath ({ frames := 10, cells := 0, slots := 0, locals := 218 } : Room) (va_Pc [.ref (o 0), .int (iI f)] (fun U => W8 G o (mV o μ) σ φ κ β ω U.heap ∧ KK G U)) (va_Qv (fun _ : Unit => True) (fun _ tZ => W8 G o (mV o (zu μ 17 (μ 17 + ((paL σ 1 f).length : Int)))) σ φ κ β (ouA ω (μ 17) (paL σ 1 f)) tZ.heap) (Ax o 6)) 0 0 (Ax o 6) := by
  refine z_met (P := (fun H : Heap => W8 G o (mV o μ) σ φ κ β ω H)) (by decide) rfl (Nat.le_of_ble_eq_true rfl) (fun pp ee ss mm below meth cC E hr hml hown hts hlocks hM hK ls hl => ?_)
  have hl : lv_has ls 2 [(0, .ref (o 0)), (1, .int (iI f))] := hl
  have hcs : 0 ≤ (({ frames := 10, cells := 0, slots := 0, locals := 218 } : Room)).cells ∧ 0 ≤ (({ frames := 10, cells := 0, slots := 0, locals := 218 } : Room)).slots := ⟨Nat.zero_le _, Nat.zero_le _⟩
  have hS : va_S (Ax o 6) ss.heap ss.heap [] := va_S.rf
  have hin8 : ∀ w ∈ wsX80, w ∈ wsX8_saysPath := fun w h => List.mem_cons_of_mem _ (List.mem_append_right _ (h))
  have hF := hI.F
  have hMm := hI.M
  have hGn := hI.Gn
  have hnk := nmk_b (hI.nam hf.1 hf.2)
  have e9 := dpF_s hI.cs hf.1 hf.2
  refine lv_iload_n (pc := 0) E.1 E.2 dX8_saysPath_0 rfl (lv_at hl 1 rfl) ?_
  refine z_if_le (pc := 1) (tgt := 19) E ⟨by omega, by omega⟩ dX8_saysPath_1 (by decide) (fun h1 => ?_) (fun h1 => ?_)
  · refine lv_aload_n (pc := 19) E.1 E.2 dX8_saysPath_19 rfl (lv_at hl 0 rfl) ?_
    refine lv_aload_n (pc := 20) E.1 E.2 dX8_saysPath_20 rfl (lv_at hl 0 rfl) ?_
    refine g8_0 (pc := 21) E hts hin8 hown hK hM.1 (hts _ (List.mem_of_getElem? (i := 1) rfl)) dX8_saysPath_21 ?_
    refine z_sipush (pc := 24) E (by decide) dX8_saysPath_24 ?_
    refine lv_iload_n (pc := 27) E.1 E.2 dX8_saysPath_27 rfl (lv_at hl 1 rfl) ?_
    refine z_iadd (pc := 28) E dX8_saysPath_28 ?_
    refine z_laload (pc := 29) E hK hM.2.1 ⟨by omega, by omega⟩ (by decide) dX8_saysPath_29 ?_
    have hb29 := hI.bd (149 + f)
    refine z_wVv (pc := 30) (As := [.long (iL (σ (149 + f)))]) (rest := []) E hml hown hts (mX8_saysName7 lL G o μ σ φ κ β ω (σ (149 + f)) (by omega) (by omega)) (cwV 1 hts gX8_saysPath_X8_saysName rfl rfl rfl vdX8_saysName ⟨Nat.le_of_ble_eq_true rfl, Nat.le_of_ble_eq_true rfl⟩) (oB.recv hK hM.1 rfl) hM hK hS (fun _ h => h) rfl hl.1 rfl dX8_saysPath_30 hcs (Nat.le_of_ble_eq_true rfl) (fun H locs hnew hsz hoth hS => ?_)
    have hM : W8 G o [.ref (o 1), .ref (o 2), .ref (o 3), .int (iI (μ 3)), .int (iI (μ 4)), .ref (o 4), .int (iI (μ 6)), .int (iI (μ 7)), .int (iI (μ 8)), .int (iI (μ 9)), .int (iI (μ 10)), .int (iI (μ 11)), .int (iI (μ 12)), .int (iI (μ 13)), .int (iI (μ 14)), .long (iL (μ 15)), .ref (o 5), .int (iI (μ 17 + ((naL 7 (σ (149 + f))).length : Int)))] σ φ κ β (ouA ω (μ 17) (naL 7 (σ (149 + f)))) H := W8.eq hnew (by simp only [mV, zu, Int.reduceEq, reduceIte])
    exact z_retWv E hr (by rw [show paL σ 1 f = naL 7 (σ (149 + f)) from if_neg (by omega)]; exact W8.mu hM (by simp only [mV, zu, Int.reduceEq, reduceIte])) hS hlocks dX8_saysPath_33
  · have hp1 := hI.par1 (f := f) (by omega) hf.2
    refine lv_aload_n (pc := 4) E.1 E.2 dX8_saysPath_4 rfl (lv_at hl 0 rfl) ?_
    refine lv_aload_n (pc := 5) E.1 E.2 dX8_saysPath_5 rfl (lv_at hl 0 rfl) ?_
    refine lv_iload_n (pc := 6) E.1 E.2 dX8_saysPath_6 rfl (lv_at hl 1 rfl) ?_
    refine z_rVi (pc := 7) (As := [.int (iI f)]) (rest := [.ref (o 0)]) E hml hown hts (mX8_parentOf lL G o μ σ φ κ β ω f (by omega)) (cwV 1 hts gX8_saysPath_X8_parentOf rfl rfl rfl vdX8_parentOf ⟨Nat.le_of_ble_eq_true rfl, Nat.le_of_ble_eq_true rfl⟩) (oB.recv hK hM.1 rfl) hM hK rfl hl.1 rfl dX8_saysPath_7 hcs (Nat.le_of_ble_eq_true rfl) ?_
    refine z_wVv (pc := 10) (As := [.int (iI (σ (69 + f)))]) (rest := []) E hml hown hts (mX8_saysPath0 lL G o μ σ φ κ β ω (σ (69 + f)) hI (by omega) (by omega) (by omega)) (cwV 1 hts gX8_saysPath_X8_saysPath rfl rfl rfl vdX8_saysPath ⟨Nat.le_of_ble_eq_true rfl, Nat.le_of_ble_eq_true rfl⟩) (oB.recv hK hM.1 rfl) hM hK hS (fun _ h => h) rfl hl.1 rfl dX8_saysPath_10 hcs (Nat.le_of_ble_eq_true rfl) (fun H locs hnew hsz hoth hS => ?_)
    have hM : W8 G o [.ref (o 1), .ref (o 2), .ref (o 3), .int (iI (μ 3)), .int (iI (μ 4)), .ref (o 4), .int (iI (μ 6)), .int (iI (μ 7)), .int (iI (μ 8)), .int (iI (μ 9)), .int (iI (μ 10)), .int (iI (μ 11)), .int (iI (μ 12)), .int (iI (μ 13)), .int (iI (μ 14)), .long (iL (μ 15)), .ref (o 5), .int (iI (μ 17 + ((paL σ 0 (σ (69 + f))).length : Int)))] σ φ κ β (ouA ω (μ 17) (paL σ 0 (σ (69 + f)))) H := W8.eq hnew (by simp only [mV, zu, Int.reduceEq, reduceIte])
    have hlb := paL_b σ 0 (σ (69 + f))
    refine lv_aload_n (pc := 13) E.1 E.2 dX8_saysPath_13 rfl (lv_at hl 0 rfl) ?_
    refine z_bipush (pc := 14) E (by decide) dX8_saysPath_14 ?_
    refine z_wVv (pc := 16) (As := [.int (iI 47)]) (rest := []) E hml hown hts (mX8_says lL G o (zu μ 17 (μ 17 + ((paL σ 0 (σ (69 + f))).length : Int))) σ φ κ β (ouA ω (μ 17) (paL σ 0 (σ (69 + f)))) 47 (by first | omega | (simp only [zu, Int.reduceEq, reduceIte]; omega)) (by first | omega | (simp only [zu, Int.reduceEq, reduceIte]; omega))) (cwV 1 hts gX8_saysPath_X8_says rfl rfl rfl vdX8_says ⟨Nat.le_of_ble_eq_true rfl, Nat.le_of_ble_eq_true rfl⟩) (oB.recv hK hM.1 rfl) (W8.mu hM (by simp only [mV, zu, Int.reduceEq, reduceIte])) hK hS (fun _ h => h) rfl hl.1 rfl dX8_saysPath_16 hcs (Nat.le_of_ble_eq_true rfl) (fun H locs hnew hsz hoth hS => ?_)
    have hM : W8 G o [.ref (o 1), .ref (o 2), .ref (o 3), .int (iI (μ 3)), .int (iI (μ 4)), .ref (o 4), .int (iI (μ 6)), .int (iI (μ 7)), .int (iI (μ 8)), .int (iI (μ 9)), .int (iI (μ 10)), .int (iI (μ 11)), .int (iI (μ 12)), .int (iI (μ 13)), .int (iI (μ 14)), .long (iL (μ 15)), .ref (o 5), .int (iI ((μ 17 + ((paL σ 0 (σ (69 + f))).length : Int)) + 1))] σ φ κ β (zu (ouA ω (μ 17) (paL σ 0 (σ (69 + f)))) ((μ 17 + ((paL σ 0 (σ (69 + f))).length : Int))) 47) H := W8.eq hnew (by simp only [mV, zu, Int.reduceEq, reduceIte])
    refine lv_aload_n (pc := 19) E.1 E.2 dX8_saysPath_19 rfl (lv_at hl 0 rfl) ?_
    refine lv_aload_n (pc := 20) E.1 E.2 dX8_saysPath_20 rfl (lv_at hl 0 rfl) ?_
    refine g8_0 (pc := 21) E hts hin8 hown hK hM.1 (hts _ (List.mem_of_getElem? (i := 1) rfl)) dX8_saysPath_21 ?_
    refine z_sipush (pc := 24) E (by decide) dX8_saysPath_24 ?_
    refine lv_iload_n (pc := 27) E.1 E.2 dX8_saysPath_27 rfl (lv_at hl 1 rfl) ?_
    refine z_iadd (pc := 28) E dX8_saysPath_28 ?_
    refine z_laload (pc := 29) E hK hM.2.1 ⟨by omega, by omega⟩ (by decide) dX8_saysPath_29 ?_
    have hb29 := hI.bd (149 + f)
    refine z_wVv (pc := 30) (As := [.long (iL (σ (149 + f)))]) (rest := []) E hml hown hts (mX8_saysName7 lL G o (zu (zu μ 17 (μ 17 + ((paL σ 0 (σ (69 + f))).length : Int))) 17 ((μ 17 + ((paL σ 0 (σ (69 + f))).length : Int)) + 1)) σ φ κ β (zu (ouA ω (μ 17) (paL σ 0 (σ (69 + f)))) ((μ 17 + ((paL σ 0 (σ (69 + f))).length : Int))) 47) (σ (149 + f)) (by first | omega | (simp only [zu, Int.reduceEq, reduceIte]; omega)) (by first | omega | (simp only [zu, Int.reduceEq, reduceIte]; omega))) (cwV 1 hts gX8_saysPath_X8_saysName rfl rfl rfl vdX8_saysName ⟨Nat.le_of_ble_eq_true rfl, Nat.le_of_ble_eq_true rfl⟩) (oB.recv hK hM.1 rfl) (W8.mu hM (by simp only [mV, zu, Int.reduceEq, reduceIte])) hK hS (fun _ h => h) rfl hl.1 rfl dX8_saysPath_30 hcs (Nat.le_of_ble_eq_true rfl) (fun H locs hnew hsz hoth hS => ?_)
    have hM : W8 G o [.ref (o 1), .ref (o 2), .ref (o 3), .int (iI (μ 3)), .int (iI (μ 4)), .ref (o 4), .int (iI (μ 6)), .int (iI (μ 7)), .int (iI (μ 8)), .int (iI (μ 9)), .int (iI (μ 10)), .int (iI (μ 11)), .int (iI (μ 12)), .int (iI (μ 13)), .int (iI (μ 14)), .long (iL (μ 15)), .ref (o 5), .int (iI (((μ 17 + ((paL σ 0 (σ (69 + f))).length : Int)) + 1) + ((naL 7 (σ (149 + f))).length : Int)))] σ φ κ β (ouA (zu (ouA ω (μ 17) (paL σ 0 (σ (69 + f)))) ((μ 17 + ((paL σ 0 (σ (69 + f))).length : Int))) 47) (((μ 17 + ((paL σ 0 (σ (69 + f))).length : Int)) + 1)) (naL 7 (σ (149 + f)))) H := W8.eq hnew (by simp only [mV, zu, Int.reduceEq, reduceIte])
    exact z_retWv E hr (by rw [show paL σ 1 f = paL σ 0 (σ (69 + f)) ++ [47] ++ naL 7 (σ (149 + f)) from if_pos (by omega), ← ouA_3]; exact W8.mu hM (by rw [← ouA_l3]; simp only [mV, zu, Int.reduceEq, reduceIte])) hS hlocks dX8_saysPath_33
set_option maxHeartbeats 1000000 in
set_option maxRecDepth 100000 in
theorem mX8_saysPath2 (lL : Launch) (G : GG) (o : Nat → Nat) (μ σ φ κ β ω : Int → Int) (f : Int) (hI : In σ) (hf : 0 ≤ f ∧ f < σ 2) (hd : dpF σ f ≤ 3) (hm : 0 ≤ μ 17 ∧ μ 17 + 27 ≤ 400) : Met lL yX8_saysPath wsX8_saysPath ({ frames := 11, cells := 0, slots := 0, locals := 239 } : Room) (va_Pc [.ref (o 0), .int (iI f)] (fun U => W8 G o (mV o μ) σ φ κ β ω U.heap ∧ KK G U)) (va_Qv (fun _ : Unit => True) (fun _ tZ => W8 G o (mV o (zu μ 17 (μ 17 + ((paL σ 2 f).length : Int)))) σ φ κ β (ouA ω (μ 17) (paL σ 2 f)) tZ.heap) (Ax o 6)) 0 0 (Ax o 6) := by
  refine z_met (P := (fun H : Heap => W8 G o (mV o μ) σ φ κ β ω H)) (by decide) rfl (Nat.le_of_ble_eq_true rfl) (fun pp ee ss mm below meth cC E hr hml hown hts hlocks hM hK ls hl => ?_)
  have hl : lv_has ls 2 [(0, .ref (o 0)), (1, .int (iI f))] := hl
  have hcs : 0 ≤ (({ frames := 11, cells := 0, slots := 0, locals := 239 } : Room)).cells ∧ 0 ≤ (({ frames := 11, cells := 0, slots := 0, locals := 239 } : Room)).slots := ⟨Nat.zero_le _, Nat.zero_le _⟩
  have hS : va_S (Ax o 6) ss.heap ss.heap [] := va_S.rf
  have hin8 : ∀ w ∈ wsX80, w ∈ wsX8_saysPath := fun w h => List.mem_cons_of_mem _ (List.mem_append_right _ (h))
  have hF := hI.F
  have hMm := hI.M
  have hGn := hI.Gn
  have hnk := nmk_b (hI.nam hf.1 hf.2)
  have e9 := dpF_s hI.cs hf.1 hf.2
  refine lv_iload_n (pc := 0) E.1 E.2 dX8_saysPath_0 rfl (lv_at hl 1 rfl) ?_
  refine z_if_le (pc := 1) (tgt := 19) E ⟨by omega, by omega⟩ dX8_saysPath_1 (by decide) (fun h1 => ?_) (fun h1 => ?_)
  · refine lv_aload_n (pc := 19) E.1 E.2 dX8_saysPath_19 rfl (lv_at hl 0 rfl) ?_
    refine lv_aload_n (pc := 20) E.1 E.2 dX8_saysPath_20 rfl (lv_at hl 0 rfl) ?_
    refine g8_0 (pc := 21) E hts hin8 hown hK hM.1 (hts _ (List.mem_of_getElem? (i := 1) rfl)) dX8_saysPath_21 ?_
    refine z_sipush (pc := 24) E (by decide) dX8_saysPath_24 ?_
    refine lv_iload_n (pc := 27) E.1 E.2 dX8_saysPath_27 rfl (lv_at hl 1 rfl) ?_
    refine z_iadd (pc := 28) E dX8_saysPath_28 ?_
    refine z_laload (pc := 29) E hK hM.2.1 ⟨by omega, by omega⟩ (by decide) dX8_saysPath_29 ?_
    have hb29 := hI.bd (149 + f)
    refine z_wVv (pc := 30) (As := [.long (iL (σ (149 + f)))]) (rest := []) E hml hown hts (mX8_saysName7 lL G o μ σ φ κ β ω (σ (149 + f)) (by omega) (by omega)) (cwV 1 hts gX8_saysPath_X8_saysName rfl rfl rfl vdX8_saysName ⟨Nat.le_of_ble_eq_true rfl, Nat.le_of_ble_eq_true rfl⟩) (oB.recv hK hM.1 rfl) hM hK hS (fun _ h => h) rfl hl.1 rfl dX8_saysPath_30 hcs (Nat.le_of_ble_eq_true rfl) (fun H locs hnew hsz hoth hS => ?_)
    have hM : W8 G o [.ref (o 1), .ref (o 2), .ref (o 3), .int (iI (μ 3)), .int (iI (μ 4)), .ref (o 4), .int (iI (μ 6)), .int (iI (μ 7)), .int (iI (μ 8)), .int (iI (μ 9)), .int (iI (μ 10)), .int (iI (μ 11)), .int (iI (μ 12)), .int (iI (μ 13)), .int (iI (μ 14)), .long (iL (μ 15)), .ref (o 5), .int (iI (μ 17 + ((naL 7 (σ (149 + f))).length : Int)))] σ φ κ β (ouA ω (μ 17) (naL 7 (σ (149 + f)))) H := W8.eq hnew (by simp only [mV, zu, Int.reduceEq, reduceIte])
    exact z_retWv E hr (by rw [show paL σ 2 f = naL 7 (σ (149 + f)) from if_neg (by omega)]; exact W8.mu hM (by simp only [mV, zu, Int.reduceEq, reduceIte])) hS hlocks dX8_saysPath_33
  · have hp1 := hI.par1 (f := f) (by omega) hf.2
    refine lv_aload_n (pc := 4) E.1 E.2 dX8_saysPath_4 rfl (lv_at hl 0 rfl) ?_
    refine lv_aload_n (pc := 5) E.1 E.2 dX8_saysPath_5 rfl (lv_at hl 0 rfl) ?_
    refine lv_iload_n (pc := 6) E.1 E.2 dX8_saysPath_6 rfl (lv_at hl 1 rfl) ?_
    refine z_rVi (pc := 7) (As := [.int (iI f)]) (rest := [.ref (o 0)]) E hml hown hts (mX8_parentOf lL G o μ σ φ κ β ω f (by omega)) (cwV 1 hts gX8_saysPath_X8_parentOf rfl rfl rfl vdX8_parentOf ⟨Nat.le_of_ble_eq_true rfl, Nat.le_of_ble_eq_true rfl⟩) (oB.recv hK hM.1 rfl) hM hK rfl hl.1 rfl dX8_saysPath_7 hcs (Nat.le_of_ble_eq_true rfl) ?_
    refine z_wVv (pc := 10) (As := [.int (iI (σ (69 + f)))]) (rest := []) E hml hown hts (mX8_saysPath1 lL G o μ σ φ κ β ω (σ (69 + f)) hI (by omega) (by omega) (by omega)) (cwV 1 hts gX8_saysPath_X8_saysPath rfl rfl rfl vdX8_saysPath ⟨Nat.le_of_ble_eq_true rfl, Nat.le_of_ble_eq_true rfl⟩) (oB.recv hK hM.1 rfl) hM hK hS (fun _ h => h) rfl hl.1 rfl dX8_saysPath_10 hcs (Nat.le_of_ble_eq_true rfl) (fun H locs hnew hsz hoth hS => ?_)
    have hM : W8 G o [.ref (o 1), .ref (o 2), .ref (o 3), .int (iI (μ 3)), .int (iI (μ 4)), .ref (o 4), .int (iI (μ 6)), .int (iI (μ 7)), .int (iI (μ 8)), .int (iI (μ 9)), .int (iI (μ 10)), .int (iI (μ 11)), .int (iI (μ 12)), .int (iI (μ 13)), .int (iI (μ 14)), .long (iL (μ 15)), .ref (o 5), .int (iI (μ 17 + ((paL σ 1 (σ (69 + f))).length : Int)))] σ φ κ β (ouA ω (μ 17) (paL σ 1 (σ (69 + f)))) H := W8.eq hnew (by simp only [mV, zu, Int.reduceEq, reduceIte])
    have hlb := paL_b σ 1 (σ (69 + f))
    refine lv_aload_n (pc := 13) E.1 E.2 dX8_saysPath_13 rfl (lv_at hl 0 rfl) ?_
    refine z_bipush (pc := 14) E (by decide) dX8_saysPath_14 ?_
    refine z_wVv (pc := 16) (As := [.int (iI 47)]) (rest := []) E hml hown hts (mX8_says lL G o (zu μ 17 (μ 17 + ((paL σ 1 (σ (69 + f))).length : Int))) σ φ κ β (ouA ω (μ 17) (paL σ 1 (σ (69 + f)))) 47 (by first | omega | (simp only [zu, Int.reduceEq, reduceIte]; omega)) (by first | omega | (simp only [zu, Int.reduceEq, reduceIte]; omega))) (cwV 1 hts gX8_saysPath_X8_says rfl rfl rfl vdX8_says ⟨Nat.le_of_ble_eq_true rfl, Nat.le_of_ble_eq_true rfl⟩) (oB.recv hK hM.1 rfl) (W8.mu hM (by simp only [mV, zu, Int.reduceEq, reduceIte])) hK hS (fun _ h => h) rfl hl.1 rfl dX8_saysPath_16 hcs (Nat.le_of_ble_eq_true rfl) (fun H locs hnew hsz hoth hS => ?_)
    have hM : W8 G o [.ref (o 1), .ref (o 2), .ref (o 3), .int (iI (μ 3)), .int (iI (μ 4)), .ref (o 4), .int (iI (μ 6)), .int (iI (μ 7)), .int (iI (μ 8)), .int (iI (μ 9)), .int (iI (μ 10)), .int (iI (μ 11)), .int (iI (μ 12)), .int (iI (μ 13)), .int (iI (μ 14)), .long (iL (μ 15)), .ref (o 5), .int (iI ((μ 17 + ((paL σ 1 (σ (69 + f))).length : Int)) + 1))] σ φ κ β (zu (ouA ω (μ 17) (paL σ 1 (σ (69 + f)))) ((μ 17 + ((paL σ 1 (σ (69 + f))).length : Int))) 47) H := W8.eq hnew (by simp only [mV, zu, Int.reduceEq, reduceIte])
    refine lv_aload_n (pc := 19) E.1 E.2 dX8_saysPath_19 rfl (lv_at hl 0 rfl) ?_
    refine lv_aload_n (pc := 20) E.1 E.2 dX8_saysPath_20 rfl (lv_at hl 0 rfl) ?_
    refine g8_0 (pc := 21) E hts hin8 hown hK hM.1 (hts _ (List.mem_of_getElem? (i := 1) rfl)) dX8_saysPath_21 ?_
    refine z_sipush (pc := 24) E (by decide) dX8_saysPath_24 ?_
    refine lv_iload_n (pc := 27) E.1 E.2 dX8_saysPath_27 rfl (lv_at hl 1 rfl) ?_
    refine z_iadd (pc := 28) E dX8_saysPath_28 ?_
    refine z_laload (pc := 29) E hK hM.2.1 ⟨by omega, by omega⟩ (by decide) dX8_saysPath_29 ?_
    have hb29 := hI.bd (149 + f)
    refine z_wVv (pc := 30) (As := [.long (iL (σ (149 + f)))]) (rest := []) E hml hown hts (mX8_saysName7 lL G o (zu (zu μ 17 (μ 17 + ((paL σ 1 (σ (69 + f))).length : Int))) 17 ((μ 17 + ((paL σ 1 (σ (69 + f))).length : Int)) + 1)) σ φ κ β (zu (ouA ω (μ 17) (paL σ 1 (σ (69 + f)))) ((μ 17 + ((paL σ 1 (σ (69 + f))).length : Int))) 47) (σ (149 + f)) (by first | omega | (simp only [zu, Int.reduceEq, reduceIte]; omega)) (by first | omega | (simp only [zu, Int.reduceEq, reduceIte]; omega))) (cwV 1 hts gX8_saysPath_X8_saysName rfl rfl rfl vdX8_saysName ⟨Nat.le_of_ble_eq_true rfl, Nat.le_of_ble_eq_true rfl⟩) (oB.recv hK hM.1 rfl) (W8.mu hM (by simp only [mV, zu, Int.reduceEq, reduceIte])) hK hS (fun _ h => h) rfl hl.1 rfl dX8_saysPath_30 hcs (Nat.le_of_ble_eq_true rfl) (fun H locs hnew hsz hoth hS => ?_)
    have hM : W8 G o [.ref (o 1), .ref (o 2), .ref (o 3), .int (iI (μ 3)), .int (iI (μ 4)), .ref (o 4), .int (iI (μ 6)), .int (iI (μ 7)), .int (iI (μ 8)), .int (iI (μ 9)), .int (iI (μ 10)), .int (iI (μ 11)), .int (iI (μ 12)), .int (iI (μ 13)), .int (iI (μ 14)), .long (iL (μ 15)), .ref (o 5), .int (iI (((μ 17 + ((paL σ 1 (σ (69 + f))).length : Int)) + 1) + ((naL 7 (σ (149 + f))).length : Int)))] σ φ κ β (ouA (zu (ouA ω (μ 17) (paL σ 1 (σ (69 + f)))) ((μ 17 + ((paL σ 1 (σ (69 + f))).length : Int))) 47) (((μ 17 + ((paL σ 1 (σ (69 + f))).length : Int)) + 1)) (naL 7 (σ (149 + f)))) H := W8.eq hnew (by simp only [mV, zu, Int.reduceEq, reduceIte])
    exact z_retWv E hr (by rw [show paL σ 2 f = paL σ 1 (σ (69 + f)) ++ [47] ++ naL 7 (σ (149 + f)) from if_pos (by omega), ← ouA_3]; exact W8.mu hM (by rw [← ouA_l3]; simp only [mV, zu, Int.reduceEq, reduceIte])) hS hlocks dX8_saysPath_33
set_option maxHeartbeats 1000000 in
set_option maxRecDepth 100000 in
theorem mX8_saysPath3 (lL : Launch) (G : GG) (o : Nat → Nat) (μ σ φ κ β ω : Int → Int) (f : Int) (hI : In σ) (hf : 0 ≤ f ∧ f < σ 2) (hd : dpF σ f ≤ 4) (hm : 0 ≤ μ 17 ∧ μ 17 + 36 ≤ 400) : Met lL yX8_saysPath wsX8_saysPath ({ frames := 12, cells := 0, slots := 0, locals := 260 } : Room) (va_Pc [.ref (o 0), .int (iI f)] (fun U => W8 G o (mV o μ) σ φ κ β ω U.heap ∧ KK G U)) (va_Qv (fun _ : Unit => True) (fun _ tZ => W8 G o (mV o (zu μ 17 (μ 17 + ((paL σ 3 f).length : Int)))) σ φ κ β (ouA ω (μ 17) (paL σ 3 f)) tZ.heap) (Ax o 6)) 0 0 (Ax o 6) := by
  refine z_met (P := (fun H : Heap => W8 G o (mV o μ) σ φ κ β ω H)) (by decide) rfl (Nat.le_of_ble_eq_true rfl) (fun pp ee ss mm below meth cC E hr hml hown hts hlocks hM hK ls hl => ?_)
  have hl : lv_has ls 2 [(0, .ref (o 0)), (1, .int (iI f))] := hl
  have hcs : 0 ≤ (({ frames := 12, cells := 0, slots := 0, locals := 260 } : Room)).cells ∧ 0 ≤ (({ frames := 12, cells := 0, slots := 0, locals := 260 } : Room)).slots := ⟨Nat.zero_le _, Nat.zero_le _⟩
  have hS : va_S (Ax o 6) ss.heap ss.heap [] := va_S.rf
  have hin8 : ∀ w ∈ wsX80, w ∈ wsX8_saysPath := fun w h => List.mem_cons_of_mem _ (List.mem_append_right _ (h))
  have hF := hI.F
  have hMm := hI.M
  have hGn := hI.Gn
  have hnk := nmk_b (hI.nam hf.1 hf.2)
  have e9 := dpF_s hI.cs hf.1 hf.2
  refine lv_iload_n (pc := 0) E.1 E.2 dX8_saysPath_0 rfl (lv_at hl 1 rfl) ?_
  refine z_if_le (pc := 1) (tgt := 19) E ⟨by omega, by omega⟩ dX8_saysPath_1 (by decide) (fun h1 => ?_) (fun h1 => ?_)
  · refine lv_aload_n (pc := 19) E.1 E.2 dX8_saysPath_19 rfl (lv_at hl 0 rfl) ?_
    refine lv_aload_n (pc := 20) E.1 E.2 dX8_saysPath_20 rfl (lv_at hl 0 rfl) ?_
    refine g8_0 (pc := 21) E hts hin8 hown hK hM.1 (hts _ (List.mem_of_getElem? (i := 1) rfl)) dX8_saysPath_21 ?_
    refine z_sipush (pc := 24) E (by decide) dX8_saysPath_24 ?_
    refine lv_iload_n (pc := 27) E.1 E.2 dX8_saysPath_27 rfl (lv_at hl 1 rfl) ?_
    refine z_iadd (pc := 28) E dX8_saysPath_28 ?_
    refine z_laload (pc := 29) E hK hM.2.1 ⟨by omega, by omega⟩ (by decide) dX8_saysPath_29 ?_
    have hb29 := hI.bd (149 + f)
    refine z_wVv (pc := 30) (As := [.long (iL (σ (149 + f)))]) (rest := []) E hml hown hts (mX8_saysName7 lL G o μ σ φ κ β ω (σ (149 + f)) (by omega) (by omega)) (cwV 1 hts gX8_saysPath_X8_saysName rfl rfl rfl vdX8_saysName ⟨Nat.le_of_ble_eq_true rfl, Nat.le_of_ble_eq_true rfl⟩) (oB.recv hK hM.1 rfl) hM hK hS (fun _ h => h) rfl hl.1 rfl dX8_saysPath_30 hcs (Nat.le_of_ble_eq_true rfl) (fun H locs hnew hsz hoth hS => ?_)
    have hM : W8 G o [.ref (o 1), .ref (o 2), .ref (o 3), .int (iI (μ 3)), .int (iI (μ 4)), .ref (o 4), .int (iI (μ 6)), .int (iI (μ 7)), .int (iI (μ 8)), .int (iI (μ 9)), .int (iI (μ 10)), .int (iI (μ 11)), .int (iI (μ 12)), .int (iI (μ 13)), .int (iI (μ 14)), .long (iL (μ 15)), .ref (o 5), .int (iI (μ 17 + ((naL 7 (σ (149 + f))).length : Int)))] σ φ κ β (ouA ω (μ 17) (naL 7 (σ (149 + f)))) H := W8.eq hnew (by simp only [mV, zu, Int.reduceEq, reduceIte])
    exact z_retWv E hr (by rw [show paL σ 3 f = naL 7 (σ (149 + f)) from if_neg (by omega)]; exact W8.mu hM (by simp only [mV, zu, Int.reduceEq, reduceIte])) hS hlocks dX8_saysPath_33
  · have hp1 := hI.par1 (f := f) (by omega) hf.2
    refine lv_aload_n (pc := 4) E.1 E.2 dX8_saysPath_4 rfl (lv_at hl 0 rfl) ?_
    refine lv_aload_n (pc := 5) E.1 E.2 dX8_saysPath_5 rfl (lv_at hl 0 rfl) ?_
    refine lv_iload_n (pc := 6) E.1 E.2 dX8_saysPath_6 rfl (lv_at hl 1 rfl) ?_
    refine z_rVi (pc := 7) (As := [.int (iI f)]) (rest := [.ref (o 0)]) E hml hown hts (mX8_parentOf lL G o μ σ φ κ β ω f (by omega)) (cwV 1 hts gX8_saysPath_X8_parentOf rfl rfl rfl vdX8_parentOf ⟨Nat.le_of_ble_eq_true rfl, Nat.le_of_ble_eq_true rfl⟩) (oB.recv hK hM.1 rfl) hM hK rfl hl.1 rfl dX8_saysPath_7 hcs (Nat.le_of_ble_eq_true rfl) ?_
    refine z_wVv (pc := 10) (As := [.int (iI (σ (69 + f)))]) (rest := []) E hml hown hts (mX8_saysPath2 lL G o μ σ φ κ β ω (σ (69 + f)) hI (by omega) (by omega) (by omega)) (cwV 1 hts gX8_saysPath_X8_saysPath rfl rfl rfl vdX8_saysPath ⟨Nat.le_of_ble_eq_true rfl, Nat.le_of_ble_eq_true rfl⟩) (oB.recv hK hM.1 rfl) hM hK hS (fun _ h => h) rfl hl.1 rfl dX8_saysPath_10 hcs (Nat.le_of_ble_eq_true rfl) (fun H locs hnew hsz hoth hS => ?_)
    have hM : W8 G o [.ref (o 1), .ref (o 2), .ref (o 3), .int (iI (μ 3)), .int (iI (μ 4)), .ref (o 4), .int (iI (μ 6)), .int (iI (μ 7)), .int (iI (μ 8)), .int (iI (μ 9)), .int (iI (μ 10)), .int (iI (μ 11)), .int (iI (μ 12)), .int (iI (μ 13)), .int (iI (μ 14)), .long (iL (μ 15)), .ref (o 5), .int (iI (μ 17 + ((paL σ 2 (σ (69 + f))).length : Int)))] σ φ κ β (ouA ω (μ 17) (paL σ 2 (σ (69 + f)))) H := W8.eq hnew (by simp only [mV, zu, Int.reduceEq, reduceIte])
    have hlb := paL_b σ 2 (σ (69 + f))
    refine lv_aload_n (pc := 13) E.1 E.2 dX8_saysPath_13 rfl (lv_at hl 0 rfl) ?_
    refine z_bipush (pc := 14) E (by decide) dX8_saysPath_14 ?_
    refine z_wVv (pc := 16) (As := [.int (iI 47)]) (rest := []) E hml hown hts (mX8_says lL G o (zu μ 17 (μ 17 + ((paL σ 2 (σ (69 + f))).length : Int))) σ φ κ β (ouA ω (μ 17) (paL σ 2 (σ (69 + f)))) 47 (by first | omega | (simp only [zu, Int.reduceEq, reduceIte]; omega)) (by first | omega | (simp only [zu, Int.reduceEq, reduceIte]; omega))) (cwV 1 hts gX8_saysPath_X8_says rfl rfl rfl vdX8_says ⟨Nat.le_of_ble_eq_true rfl, Nat.le_of_ble_eq_true rfl⟩) (oB.recv hK hM.1 rfl) (W8.mu hM (by simp only [mV, zu, Int.reduceEq, reduceIte])) hK hS (fun _ h => h) rfl hl.1 rfl dX8_saysPath_16 hcs (Nat.le_of_ble_eq_true rfl) (fun H locs hnew hsz hoth hS => ?_)
    have hM : W8 G o [.ref (o 1), .ref (o 2), .ref (o 3), .int (iI (μ 3)), .int (iI (μ 4)), .ref (o 4), .int (iI (μ 6)), .int (iI (μ 7)), .int (iI (μ 8)), .int (iI (μ 9)), .int (iI (μ 10)), .int (iI (μ 11)), .int (iI (μ 12)), .int (iI (μ 13)), .int (iI (μ 14)), .long (iL (μ 15)), .ref (o 5), .int (iI ((μ 17 + ((paL σ 2 (σ (69 + f))).length : Int)) + 1))] σ φ κ β (zu (ouA ω (μ 17) (paL σ 2 (σ (69 + f)))) ((μ 17 + ((paL σ 2 (σ (69 + f))).length : Int))) 47) H := W8.eq hnew (by simp only [mV, zu, Int.reduceEq, reduceIte])
    refine lv_aload_n (pc := 19) E.1 E.2 dX8_saysPath_19 rfl (lv_at hl 0 rfl) ?_
    refine lv_aload_n (pc := 20) E.1 E.2 dX8_saysPath_20 rfl (lv_at hl 0 rfl) ?_
    refine g8_0 (pc := 21) E hts hin8 hown hK hM.1 (hts _ (List.mem_of_getElem? (i := 1) rfl)) dX8_saysPath_21 ?_
    refine z_sipush (pc := 24) E (by decide) dX8_saysPath_24 ?_
    refine lv_iload_n (pc := 27) E.1 E.2 dX8_saysPath_27 rfl (lv_at hl 1 rfl) ?_
    refine z_iadd (pc := 28) E dX8_saysPath_28 ?_
    refine z_laload (pc := 29) E hK hM.2.1 ⟨by omega, by omega⟩ (by decide) dX8_saysPath_29 ?_
    have hb29 := hI.bd (149 + f)
    refine z_wVv (pc := 30) (As := [.long (iL (σ (149 + f)))]) (rest := []) E hml hown hts (mX8_saysName7 lL G o (zu (zu μ 17 (μ 17 + ((paL σ 2 (σ (69 + f))).length : Int))) 17 ((μ 17 + ((paL σ 2 (σ (69 + f))).length : Int)) + 1)) σ φ κ β (zu (ouA ω (μ 17) (paL σ 2 (σ (69 + f)))) ((μ 17 + ((paL σ 2 (σ (69 + f))).length : Int))) 47) (σ (149 + f)) (by first | omega | (simp only [zu, Int.reduceEq, reduceIte]; omega)) (by first | omega | (simp only [zu, Int.reduceEq, reduceIte]; omega))) (cwV 1 hts gX8_saysPath_X8_saysName rfl rfl rfl vdX8_saysName ⟨Nat.le_of_ble_eq_true rfl, Nat.le_of_ble_eq_true rfl⟩) (oB.recv hK hM.1 rfl) (W8.mu hM (by simp only [mV, zu, Int.reduceEq, reduceIte])) hK hS (fun _ h => h) rfl hl.1 rfl dX8_saysPath_30 hcs (Nat.le_of_ble_eq_true rfl) (fun H locs hnew hsz hoth hS => ?_)
    have hM : W8 G o [.ref (o 1), .ref (o 2), .ref (o 3), .int (iI (μ 3)), .int (iI (μ 4)), .ref (o 4), .int (iI (μ 6)), .int (iI (μ 7)), .int (iI (μ 8)), .int (iI (μ 9)), .int (iI (μ 10)), .int (iI (μ 11)), .int (iI (μ 12)), .int (iI (μ 13)), .int (iI (μ 14)), .long (iL (μ 15)), .ref (o 5), .int (iI (((μ 17 + ((paL σ 2 (σ (69 + f))).length : Int)) + 1) + ((naL 7 (σ (149 + f))).length : Int)))] σ φ κ β (ouA (zu (ouA ω (μ 17) (paL σ 2 (σ (69 + f)))) ((μ 17 + ((paL σ 2 (σ (69 + f))).length : Int))) 47) (((μ 17 + ((paL σ 2 (σ (69 + f))).length : Int)) + 1)) (naL 7 (σ (149 + f)))) H := W8.eq hnew (by simp only [mV, zu, Int.reduceEq, reduceIte])
    exact z_retWv E hr (by rw [show paL σ 3 f = paL σ 2 (σ (69 + f)) ++ [47] ++ naL 7 (σ (149 + f)) from if_pos (by omega), ← ouA_3]; exact W8.mu hM (by rw [← ouA_l3]; simp only [mV, zu, Int.reduceEq, reduceIte])) hS hlocks dX8_saysPath_33
set_option maxHeartbeats 1000000 in
set_option maxRecDepth 100000 in
theorem mX8_saysPath4 (lL : Launch) (G : GG) (o : Nat → Nat) (μ σ φ κ β ω : Int → Int) (f : Int) (hI : In σ) (hf : 0 ≤ f ∧ f < σ 2) (hd : dpF σ f ≤ 5) (hm : 0 ≤ μ 17 ∧ μ 17 + 45 ≤ 400) : Met lL yX8_saysPath wsX8_saysPath ({ frames := 13, cells := 0, slots := 0, locals := 281 } : Room) (va_Pc [.ref (o 0), .int (iI f)] (fun U => W8 G o (mV o μ) σ φ κ β ω U.heap ∧ KK G U)) (va_Qv (fun _ : Unit => True) (fun _ tZ => W8 G o (mV o (zu μ 17 (μ 17 + ((paL σ 4 f).length : Int)))) σ φ κ β (ouA ω (μ 17) (paL σ 4 f)) tZ.heap) (Ax o 6)) 0 0 (Ax o 6) := by
  refine z_met (P := (fun H : Heap => W8 G o (mV o μ) σ φ κ β ω H)) (by decide) rfl (Nat.le_of_ble_eq_true rfl) (fun pp ee ss mm below meth cC E hr hml hown hts hlocks hM hK ls hl => ?_)
  have hl : lv_has ls 2 [(0, .ref (o 0)), (1, .int (iI f))] := hl
  have hcs : 0 ≤ (({ frames := 13, cells := 0, slots := 0, locals := 281 } : Room)).cells ∧ 0 ≤ (({ frames := 13, cells := 0, slots := 0, locals := 281 } : Room)).slots := ⟨Nat.zero_le _, Nat.zero_le _⟩
  have hS : va_S (Ax o 6) ss.heap ss.heap [] := va_S.rf
  have hin8 : ∀ w ∈ wsX80, w ∈ wsX8_saysPath := fun w h => List.mem_cons_of_mem _ (List.mem_append_right _ (h))
  have hF := hI.F
  have hMm := hI.M
  have hGn := hI.Gn
  have hnk := nmk_b (hI.nam hf.1 hf.2)
  have e9 := dpF_s hI.cs hf.1 hf.2
  refine lv_iload_n (pc := 0) E.1 E.2 dX8_saysPath_0 rfl (lv_at hl 1 rfl) ?_
  refine z_if_le (pc := 1) (tgt := 19) E ⟨by omega, by omega⟩ dX8_saysPath_1 (by decide) (fun h1 => ?_) (fun h1 => ?_)
  · refine lv_aload_n (pc := 19) E.1 E.2 dX8_saysPath_19 rfl (lv_at hl 0 rfl) ?_
    refine lv_aload_n (pc := 20) E.1 E.2 dX8_saysPath_20 rfl (lv_at hl 0 rfl) ?_
    refine g8_0 (pc := 21) E hts hin8 hown hK hM.1 (hts _ (List.mem_of_getElem? (i := 1) rfl)) dX8_saysPath_21 ?_
    refine z_sipush (pc := 24) E (by decide) dX8_saysPath_24 ?_
    refine lv_iload_n (pc := 27) E.1 E.2 dX8_saysPath_27 rfl (lv_at hl 1 rfl) ?_
    refine z_iadd (pc := 28) E dX8_saysPath_28 ?_
    refine z_laload (pc := 29) E hK hM.2.1 ⟨by omega, by omega⟩ (by decide) dX8_saysPath_29 ?_
    have hb29 := hI.bd (149 + f)
    refine z_wVv (pc := 30) (As := [.long (iL (σ (149 + f)))]) (rest := []) E hml hown hts (mX8_saysName7 lL G o μ σ φ κ β ω (σ (149 + f)) (by omega) (by omega)) (cwV 1 hts gX8_saysPath_X8_saysName rfl rfl rfl vdX8_saysName ⟨Nat.le_of_ble_eq_true rfl, Nat.le_of_ble_eq_true rfl⟩) (oB.recv hK hM.1 rfl) hM hK hS (fun _ h => h) rfl hl.1 rfl dX8_saysPath_30 hcs (Nat.le_of_ble_eq_true rfl) (fun H locs hnew hsz hoth hS => ?_)
    have hM : W8 G o [.ref (o 1), .ref (o 2), .ref (o 3), .int (iI (μ 3)), .int (iI (μ 4)), .ref (o 4), .int (iI (μ 6)), .int (iI (μ 7)), .int (iI (μ 8)), .int (iI (μ 9)), .int (iI (μ 10)), .int (iI (μ 11)), .int (iI (μ 12)), .int (iI (μ 13)), .int (iI (μ 14)), .long (iL (μ 15)), .ref (o 5), .int (iI (μ 17 + ((naL 7 (σ (149 + f))).length : Int)))] σ φ κ β (ouA ω (μ 17) (naL 7 (σ (149 + f)))) H := W8.eq hnew (by simp only [mV, zu, Int.reduceEq, reduceIte])
    exact z_retWv E hr (by rw [show paL σ 4 f = naL 7 (σ (149 + f)) from if_neg (by omega)]; exact W8.mu hM (by simp only [mV, zu, Int.reduceEq, reduceIte])) hS hlocks dX8_saysPath_33
  · have hp1 := hI.par1 (f := f) (by omega) hf.2
    refine lv_aload_n (pc := 4) E.1 E.2 dX8_saysPath_4 rfl (lv_at hl 0 rfl) ?_
    refine lv_aload_n (pc := 5) E.1 E.2 dX8_saysPath_5 rfl (lv_at hl 0 rfl) ?_
    refine lv_iload_n (pc := 6) E.1 E.2 dX8_saysPath_6 rfl (lv_at hl 1 rfl) ?_
    refine z_rVi (pc := 7) (As := [.int (iI f)]) (rest := [.ref (o 0)]) E hml hown hts (mX8_parentOf lL G o μ σ φ κ β ω f (by omega)) (cwV 1 hts gX8_saysPath_X8_parentOf rfl rfl rfl vdX8_parentOf ⟨Nat.le_of_ble_eq_true rfl, Nat.le_of_ble_eq_true rfl⟩) (oB.recv hK hM.1 rfl) hM hK rfl hl.1 rfl dX8_saysPath_7 hcs (Nat.le_of_ble_eq_true rfl) ?_
    refine z_wVv (pc := 10) (As := [.int (iI (σ (69 + f)))]) (rest := []) E hml hown hts (mX8_saysPath3 lL G o μ σ φ κ β ω (σ (69 + f)) hI (by omega) (by omega) (by omega)) (cwV 1 hts gX8_saysPath_X8_saysPath rfl rfl rfl vdX8_saysPath ⟨Nat.le_of_ble_eq_true rfl, Nat.le_of_ble_eq_true rfl⟩) (oB.recv hK hM.1 rfl) hM hK hS (fun _ h => h) rfl hl.1 rfl dX8_saysPath_10 hcs (Nat.le_of_ble_eq_true rfl) (fun H locs hnew hsz hoth hS => ?_)
    have hM : W8 G o [.ref (o 1), .ref (o 2), .ref (o 3), .int (iI (μ 3)), .int (iI (μ 4)), .ref (o 4), .int (iI (μ 6)), .int (iI (μ 7)), .int (iI (μ 8)), .int (iI (μ 9)), .int (iI (μ 10)), .int (iI (μ 11)), .int (iI (μ 12)), .int (iI (μ 13)), .int (iI (μ 14)), .long (iL (μ 15)), .ref (o 5), .int (iI (μ 17 + ((paL σ 3 (σ (69 + f))).length : Int)))] σ φ κ β (ouA ω (μ 17) (paL σ 3 (σ (69 + f)))) H := W8.eq hnew (by simp only [mV, zu, Int.reduceEq, reduceIte])
    have hlb := paL_b σ 3 (σ (69 + f))
    refine lv_aload_n (pc := 13) E.1 E.2 dX8_saysPath_13 rfl (lv_at hl 0 rfl) ?_
    refine z_bipush (pc := 14) E (by decide) dX8_saysPath_14 ?_
    refine z_wVv (pc := 16) (As := [.int (iI 47)]) (rest := []) E hml hown hts (mX8_says lL G o (zu μ 17 (μ 17 + ((paL σ 3 (σ (69 + f))).length : Int))) σ φ κ β (ouA ω (μ 17) (paL σ 3 (σ (69 + f)))) 47 (by first | omega | (simp only [zu, Int.reduceEq, reduceIte]; omega)) (by first | omega | (simp only [zu, Int.reduceEq, reduceIte]; omega))) (cwV 1 hts gX8_saysPath_X8_says rfl rfl rfl vdX8_says ⟨Nat.le_of_ble_eq_true rfl, Nat.le_of_ble_eq_true rfl⟩) (oB.recv hK hM.1 rfl) (W8.mu hM (by simp only [mV, zu, Int.reduceEq, reduceIte])) hK hS (fun _ h => h) rfl hl.1 rfl dX8_saysPath_16 hcs (Nat.le_of_ble_eq_true rfl) (fun H locs hnew hsz hoth hS => ?_)
    have hM : W8 G o [.ref (o 1), .ref (o 2), .ref (o 3), .int (iI (μ 3)), .int (iI (μ 4)), .ref (o 4), .int (iI (μ 6)), .int (iI (μ 7)), .int (iI (μ 8)), .int (iI (μ 9)), .int (iI (μ 10)), .int (iI (μ 11)), .int (iI (μ 12)), .int (iI (μ 13)), .int (iI (μ 14)), .long (iL (μ 15)), .ref (o 5), .int (iI ((μ 17 + ((paL σ 3 (σ (69 + f))).length : Int)) + 1))] σ φ κ β (zu (ouA ω (μ 17) (paL σ 3 (σ (69 + f)))) ((μ 17 + ((paL σ 3 (σ (69 + f))).length : Int))) 47) H := W8.eq hnew (by simp only [mV, zu, Int.reduceEq, reduceIte])
    refine lv_aload_n (pc := 19) E.1 E.2 dX8_saysPath_19 rfl (lv_at hl 0 rfl) ?_
    refine lv_aload_n (pc := 20) E.1 E.2 dX8_saysPath_20 rfl (lv_at hl 0 rfl) ?_
    refine g8_0 (pc := 21) E hts hin8 hown hK hM.1 (hts _ (List.mem_of_getElem? (i := 1) rfl)) dX8_saysPath_21 ?_
    refine z_sipush (pc := 24) E (by decide) dX8_saysPath_24 ?_
    refine lv_iload_n (pc := 27) E.1 E.2 dX8_saysPath_27 rfl (lv_at hl 1 rfl) ?_
    refine z_iadd (pc := 28) E dX8_saysPath_28 ?_
    refine z_laload (pc := 29) E hK hM.2.1 ⟨by omega, by omega⟩ (by decide) dX8_saysPath_29 ?_
    have hb29 := hI.bd (149 + f)
    refine z_wVv (pc := 30) (As := [.long (iL (σ (149 + f)))]) (rest := []) E hml hown hts (mX8_saysName7 lL G o (zu (zu μ 17 (μ 17 + ((paL σ 3 (σ (69 + f))).length : Int))) 17 ((μ 17 + ((paL σ 3 (σ (69 + f))).length : Int)) + 1)) σ φ κ β (zu (ouA ω (μ 17) (paL σ 3 (σ (69 + f)))) ((μ 17 + ((paL σ 3 (σ (69 + f))).length : Int))) 47) (σ (149 + f)) (by first | omega | (simp only [zu, Int.reduceEq, reduceIte]; omega)) (by first | omega | (simp only [zu, Int.reduceEq, reduceIte]; omega))) (cwV 1 hts gX8_saysPath_X8_saysName rfl rfl rfl vdX8_saysName ⟨Nat.le_of_ble_eq_true rfl, Nat.le_of_ble_eq_true rfl⟩) (oB.recv hK hM.1 rfl) (W8.mu hM (by simp only [mV, zu, Int.reduceEq, reduceIte])) hK hS (fun _ h => h) rfl hl.1 rfl dX8_saysPath_30 hcs (Nat.le_of_ble_eq_true rfl) (fun H locs hnew hsz hoth hS => ?_)
    have hM : W8 G o [.ref (o 1), .ref (o 2), .ref (o 3), .int (iI (μ 3)), .int (iI (μ 4)), .ref (o 4), .int (iI (μ 6)), .int (iI (μ 7)), .int (iI (μ 8)), .int (iI (μ 9)), .int (iI (μ 10)), .int (iI (μ 11)), .int (iI (μ 12)), .int (iI (μ 13)), .int (iI (μ 14)), .long (iL (μ 15)), .ref (o 5), .int (iI (((μ 17 + ((paL σ 3 (σ (69 + f))).length : Int)) + 1) + ((naL 7 (σ (149 + f))).length : Int)))] σ φ κ β (ouA (zu (ouA ω (μ 17) (paL σ 3 (σ (69 + f)))) ((μ 17 + ((paL σ 3 (σ (69 + f))).length : Int))) 47) (((μ 17 + ((paL σ 3 (σ (69 + f))).length : Int)) + 1)) (naL 7 (σ (149 + f)))) H := W8.eq hnew (by simp only [mV, zu, Int.reduceEq, reduceIte])
    exact z_retWv E hr (by rw [show paL σ 4 f = paL σ 3 (σ (69 + f)) ++ [47] ++ naL 7 (σ (149 + f)) from if_pos (by omega), ← ouA_3]; exact W8.mu hM (by rw [← ouA_l3]; simp only [mV, zu, Int.reduceEq, reduceIte])) hS hlocks dX8_saysPath_33
set_option maxHeartbeats 1000000 in
set_option maxRecDepth 100000 in
theorem mX8_saysPath5 (lL : Launch) (G : GG) (o : Nat → Nat) (μ σ φ κ β ω : Int → Int) (f : Int) (hI : In σ) (hf : 0 ≤ f ∧ f < σ 2) (hd : dpF σ f ≤ 6) (hm : 0 ≤ μ 17 ∧ μ 17 + 54 ≤ 400) : Met lL yX8_saysPath wsX8_saysPath ({ frames := 14, cells := 0, slots := 0, locals := 302 } : Room) (va_Pc [.ref (o 0), .int (iI f)] (fun U => W8 G o (mV o μ) σ φ κ β ω U.heap ∧ KK G U)) (va_Qv (fun _ : Unit => True) (fun _ tZ => W8 G o (mV o (zu μ 17 (μ 17 + ((paL σ 5 f).length : Int)))) σ φ κ β (ouA ω (μ 17) (paL σ 5 f)) tZ.heap) (Ax o 6)) 0 0 (Ax o 6) := by
  refine z_met (P := (fun H : Heap => W8 G o (mV o μ) σ φ κ β ω H)) (by decide) rfl (Nat.le_of_ble_eq_true rfl) (fun pp ee ss mm below meth cC E hr hml hown hts hlocks hM hK ls hl => ?_)
  have hl : lv_has ls 2 [(0, .ref (o 0)), (1, .int (iI f))] := hl
  have hcs : 0 ≤ (({ frames := 14, cells := 0, slots := 0, locals := 302 } : Room)).cells ∧ 0 ≤ (({ frames := 14, cells := 0, slots := 0, locals := 302 } : Room)).slots := ⟨Nat.zero_le _, Nat.zero_le _⟩
  have hS : va_S (Ax o 6) ss.heap ss.heap [] := va_S.rf
  have hin8 : ∀ w ∈ wsX80, w ∈ wsX8_saysPath := fun w h => List.mem_cons_of_mem _ (List.mem_append_right _ (h))
  have hF := hI.F
  have hMm := hI.M
  have hGn := hI.Gn
  have hnk := nmk_b (hI.nam hf.1 hf.2)
  have e9 := dpF_s hI.cs hf.1 hf.2
  refine lv_iload_n (pc := 0) E.1 E.2 dX8_saysPath_0 rfl (lv_at hl 1 rfl) ?_
  refine z_if_le (pc := 1) (tgt := 19) E ⟨by omega, by omega⟩ dX8_saysPath_1 (by decide) (fun h1 => ?_) (fun h1 => ?_)
  · refine lv_aload_n (pc := 19) E.1 E.2 dX8_saysPath_19 rfl (lv_at hl 0 rfl) ?_
    refine lv_aload_n (pc := 20) E.1 E.2 dX8_saysPath_20 rfl (lv_at hl 0 rfl) ?_
    refine g8_0 (pc := 21) E hts hin8 hown hK hM.1 (hts _ (List.mem_of_getElem? (i := 1) rfl)) dX8_saysPath_21 ?_
    refine z_sipush (pc := 24) E (by decide) dX8_saysPath_24 ?_
    refine lv_iload_n (pc := 27) E.1 E.2 dX8_saysPath_27 rfl (lv_at hl 1 rfl) ?_
    refine z_iadd (pc := 28) E dX8_saysPath_28 ?_
    refine z_laload (pc := 29) E hK hM.2.1 ⟨by omega, by omega⟩ (by decide) dX8_saysPath_29 ?_
    have hb29 := hI.bd (149 + f)
    refine z_wVv (pc := 30) (As := [.long (iL (σ (149 + f)))]) (rest := []) E hml hown hts (mX8_saysName7 lL G o μ σ φ κ β ω (σ (149 + f)) (by omega) (by omega)) (cwV 1 hts gX8_saysPath_X8_saysName rfl rfl rfl vdX8_saysName ⟨Nat.le_of_ble_eq_true rfl, Nat.le_of_ble_eq_true rfl⟩) (oB.recv hK hM.1 rfl) hM hK hS (fun _ h => h) rfl hl.1 rfl dX8_saysPath_30 hcs (Nat.le_of_ble_eq_true rfl) (fun H locs hnew hsz hoth hS => ?_)
    have hM : W8 G o [.ref (o 1), .ref (o 2), .ref (o 3), .int (iI (μ 3)), .int (iI (μ 4)), .ref (o 4), .int (iI (μ 6)), .int (iI (μ 7)), .int (iI (μ 8)), .int (iI (μ 9)), .int (iI (μ 10)), .int (iI (μ 11)), .int (iI (μ 12)), .int (iI (μ 13)), .int (iI (μ 14)), .long (iL (μ 15)), .ref (o 5), .int (iI (μ 17 + ((naL 7 (σ (149 + f))).length : Int)))] σ φ κ β (ouA ω (μ 17) (naL 7 (σ (149 + f)))) H := W8.eq hnew (by simp only [mV, zu, Int.reduceEq, reduceIte])
    exact z_retWv E hr (by rw [show paL σ 5 f = naL 7 (σ (149 + f)) from if_neg (by omega)]; exact W8.mu hM (by simp only [mV, zu, Int.reduceEq, reduceIte])) hS hlocks dX8_saysPath_33
  · have hp1 := hI.par1 (f := f) (by omega) hf.2
    refine lv_aload_n (pc := 4) E.1 E.2 dX8_saysPath_4 rfl (lv_at hl 0 rfl) ?_
    refine lv_aload_n (pc := 5) E.1 E.2 dX8_saysPath_5 rfl (lv_at hl 0 rfl) ?_
    refine lv_iload_n (pc := 6) E.1 E.2 dX8_saysPath_6 rfl (lv_at hl 1 rfl) ?_
    refine z_rVi (pc := 7) (As := [.int (iI f)]) (rest := [.ref (o 0)]) E hml hown hts (mX8_parentOf lL G o μ σ φ κ β ω f (by omega)) (cwV 1 hts gX8_saysPath_X8_parentOf rfl rfl rfl vdX8_parentOf ⟨Nat.le_of_ble_eq_true rfl, Nat.le_of_ble_eq_true rfl⟩) (oB.recv hK hM.1 rfl) hM hK rfl hl.1 rfl dX8_saysPath_7 hcs (Nat.le_of_ble_eq_true rfl) ?_
    refine z_wVv (pc := 10) (As := [.int (iI (σ (69 + f)))]) (rest := []) E hml hown hts (mX8_saysPath4 lL G o μ σ φ κ β ω (σ (69 + f)) hI (by omega) (by omega) (by omega)) (cwV 1 hts gX8_saysPath_X8_saysPath rfl rfl rfl vdX8_saysPath ⟨Nat.le_of_ble_eq_true rfl, Nat.le_of_ble_eq_true rfl⟩) (oB.recv hK hM.1 rfl) hM hK hS (fun _ h => h) rfl hl.1 rfl dX8_saysPath_10 hcs (Nat.le_of_ble_eq_true rfl) (fun H locs hnew hsz hoth hS => ?_)
    have hM : W8 G o [.ref (o 1), .ref (o 2), .ref (o 3), .int (iI (μ 3)), .int (iI (μ 4)), .ref (o 4), .int (iI (μ 6)), .int (iI (μ 7)), .int (iI (μ 8)), .int (iI (μ 9)), .int (iI (μ 10)), .int (iI (μ 11)), .int (iI (μ 12)), .int (iI (μ 13)), .int (iI (μ 14)), .long (iL (μ 15)), .ref (o 5), .int (iI (μ 17 + ((paL σ 4 (σ (69 + f))).length : Int)))] σ φ κ β (ouA ω (μ 17) (paL σ 4 (σ (69 + f)))) H := W8.eq hnew (by simp only [mV, zu, Int.reduceEq, reduceIte])
    have hlb := paL_b σ 4 (σ (69 + f))
    refine lv_aload_n (pc := 13) E.1 E.2 dX8_saysPath_13 rfl (lv_at hl 0 rfl) ?_
    refine z_bipush (pc := 14) E (by decide) dX8_saysPath_14 ?_
    refine z_wVv (pc := 16) (As := [.int (iI 47)]) (rest := []) E hml hown hts (mX8_says lL G o (zu μ 17 (μ 17 + ((paL σ 4 (σ (69 + f))).length : Int))) σ φ κ β (ouA ω (μ 17) (paL σ 4 (σ (69 + f)))) 47 (by first | omega | (simp only [zu, Int.reduceEq, reduceIte]; omega)) (by first | omega | (simp only [zu, Int.reduceEq, reduceIte]; omega))) (cwV 1 hts gX8_saysPath_X8_says rfl rfl rfl vdX8_says ⟨Nat.le_of_ble_eq_true rfl, Nat.le_of_ble_eq_true rfl⟩) (oB.recv hK hM.1 rfl) (W8.mu hM (by simp only [mV, zu, Int.reduceEq, reduceIte])) hK hS (fun _ h => h) rfl hl.1 rfl dX8_saysPath_16 hcs (Nat.le_of_ble_eq_true rfl) (fun H locs hnew hsz hoth hS => ?_)
    have hM : W8 G o [.ref (o 1), .ref (o 2), .ref (o 3), .int (iI (μ 3)), .int (iI (μ 4)), .ref (o 4), .int (iI (μ 6)), .int (iI (μ 7)), .int (iI (μ 8)), .int (iI (μ 9)), .int (iI (μ 10)), .int (iI (μ 11)), .int (iI (μ 12)), .int (iI (μ 13)), .int (iI (μ 14)), .long (iL (μ 15)), .ref (o 5), .int (iI ((μ 17 + ((paL σ 4 (σ (69 + f))).length : Int)) + 1))] σ φ κ β (zu (ouA ω (μ 17) (paL σ 4 (σ (69 + f)))) ((μ 17 + ((paL σ 4 (σ (69 + f))).length : Int))) 47) H := W8.eq hnew (by simp only [mV, zu, Int.reduceEq, reduceIte])
    refine lv_aload_n (pc := 19) E.1 E.2 dX8_saysPath_19 rfl (lv_at hl 0 rfl) ?_
    refine lv_aload_n (pc := 20) E.1 E.2 dX8_saysPath_20 rfl (lv_at hl 0 rfl) ?_
    refine g8_0 (pc := 21) E hts hin8 hown hK hM.1 (hts _ (List.mem_of_getElem? (i := 1) rfl)) dX8_saysPath_21 ?_
    refine z_sipush (pc := 24) E (by decide) dX8_saysPath_24 ?_
    refine lv_iload_n (pc := 27) E.1 E.2 dX8_saysPath_27 rfl (lv_at hl 1 rfl) ?_
    refine z_iadd (pc := 28) E dX8_saysPath_28 ?_
    refine z_laload (pc := 29) E hK hM.2.1 ⟨by omega, by omega⟩ (by decide) dX8_saysPath_29 ?_
    have hb29 := hI.bd (149 + f)
    refine z_wVv (pc := 30) (As := [.long (iL (σ (149 + f)))]) (rest := []) E hml hown hts (mX8_saysName7 lL G o (zu (zu μ 17 (μ 17 + ((paL σ 4 (σ (69 + f))).length : Int))) 17 ((μ 17 + ((paL σ 4 (σ (69 + f))).length : Int)) + 1)) σ φ κ β (zu (ouA ω (μ 17) (paL σ 4 (σ (69 + f)))) ((μ 17 + ((paL σ 4 (σ (69 + f))).length : Int))) 47) (σ (149 + f)) (by first | omega | (simp only [zu, Int.reduceEq, reduceIte]; omega)) (by first | omega | (simp only [zu, Int.reduceEq, reduceIte]; omega))) (cwV 1 hts gX8_saysPath_X8_saysName rfl rfl rfl vdX8_saysName ⟨Nat.le_of_ble_eq_true rfl, Nat.le_of_ble_eq_true rfl⟩) (oB.recv hK hM.1 rfl) (W8.mu hM (by simp only [mV, zu, Int.reduceEq, reduceIte])) hK hS (fun _ h => h) rfl hl.1 rfl dX8_saysPath_30 hcs (Nat.le_of_ble_eq_true rfl) (fun H locs hnew hsz hoth hS => ?_)
    have hM : W8 G o [.ref (o 1), .ref (o 2), .ref (o 3), .int (iI (μ 3)), .int (iI (μ 4)), .ref (o 4), .int (iI (μ 6)), .int (iI (μ 7)), .int (iI (μ 8)), .int (iI (μ 9)), .int (iI (μ 10)), .int (iI (μ 11)), .int (iI (μ 12)), .int (iI (μ 13)), .int (iI (μ 14)), .long (iL (μ 15)), .ref (o 5), .int (iI (((μ 17 + ((paL σ 4 (σ (69 + f))).length : Int)) + 1) + ((naL 7 (σ (149 + f))).length : Int)))] σ φ κ β (ouA (zu (ouA ω (μ 17) (paL σ 4 (σ (69 + f)))) ((μ 17 + ((paL σ 4 (σ (69 + f))).length : Int))) 47) (((μ 17 + ((paL σ 4 (σ (69 + f))).length : Int)) + 1)) (naL 7 (σ (149 + f)))) H := W8.eq hnew (by simp only [mV, zu, Int.reduceEq, reduceIte])
    exact z_retWv E hr (by rw [show paL σ 5 f = paL σ 4 (σ (69 + f)) ++ [47] ++ naL 7 (σ (149 + f)) from if_pos (by omega), ← ouA_3]; exact W8.mu hM (by rw [← ouA_l3]; simp only [mV, zu, Int.reduceEq, reduceIte])) hS hlocks dX8_saysPath_33
set_option maxHeartbeats 1000000 in
set_option maxRecDepth 100000 in
theorem mX8_saysPath6 (lL : Launch) (G : GG) (o : Nat → Nat) (μ σ φ κ β ω : Int → Int) (f : Int) (hI : In σ) (hf : 0 ≤ f ∧ f < σ 2) (hd : dpF σ f ≤ 7) (hm : 0 ≤ μ 17 ∧ μ 17 + 63 ≤ 400) : Met lL yX8_saysPath wsX8_saysPath ({ frames := 15, cells := 0, slots := 0, locals := 323 } : Room) (va_Pc [.ref (o 0), .int (iI f)] (fun U => W8 G o (mV o μ) σ φ κ β ω U.heap ∧ KK G U)) (va_Qv (fun _ : Unit => True) (fun _ tZ => W8 G o (mV o (zu μ 17 (μ 17 + ((paL σ 6 f).length : Int)))) σ φ κ β (ouA ω (μ 17) (paL σ 6 f)) tZ.heap) (Ax o 6)) 0 0 (Ax o 6) := by
  refine z_met (P := (fun H : Heap => W8 G o (mV o μ) σ φ κ β ω H)) (by decide) rfl (Nat.le_of_ble_eq_true rfl) (fun pp ee ss mm below meth cC E hr hml hown hts hlocks hM hK ls hl => ?_)
  have hl : lv_has ls 2 [(0, .ref (o 0)), (1, .int (iI f))] := hl
  have hcs : 0 ≤ (({ frames := 15, cells := 0, slots := 0, locals := 323 } : Room)).cells ∧ 0 ≤ (({ frames := 15, cells := 0, slots := 0, locals := 323 } : Room)).slots := ⟨Nat.zero_le _, Nat.zero_le _⟩
  have hS : va_S (Ax o 6) ss.heap ss.heap [] := va_S.rf
  have hin8 : ∀ w ∈ wsX80, w ∈ wsX8_saysPath := fun w h => List.mem_cons_of_mem _ (List.mem_append_right _ (h))
  have hF := hI.F
  have hMm := hI.M
  have hGn := hI.Gn
  have hnk := nmk_b (hI.nam hf.1 hf.2)
  have e9 := dpF_s hI.cs hf.1 hf.2
  refine lv_iload_n (pc := 0) E.1 E.2 dX8_saysPath_0 rfl (lv_at hl 1 rfl) ?_
  refine z_if_le (pc := 1) (tgt := 19) E ⟨by omega, by omega⟩ dX8_saysPath_1 (by decide) (fun h1 => ?_) (fun h1 => ?_)
  · refine lv_aload_n (pc := 19) E.1 E.2 dX8_saysPath_19 rfl (lv_at hl 0 rfl) ?_
    refine lv_aload_n (pc := 20) E.1 E.2 dX8_saysPath_20 rfl (lv_at hl 0 rfl) ?_
    refine g8_0 (pc := 21) E hts hin8 hown hK hM.1 (hts _ (List.mem_of_getElem? (i := 1) rfl)) dX8_saysPath_21 ?_
    refine z_sipush (pc := 24) E (by decide) dX8_saysPath_24 ?_
    refine lv_iload_n (pc := 27) E.1 E.2 dX8_saysPath_27 rfl (lv_at hl 1 rfl) ?_
    refine z_iadd (pc := 28) E dX8_saysPath_28 ?_
    refine z_laload (pc := 29) E hK hM.2.1 ⟨by omega, by omega⟩ (by decide) dX8_saysPath_29 ?_
    have hb29 := hI.bd (149 + f)
    refine z_wVv (pc := 30) (As := [.long (iL (σ (149 + f)))]) (rest := []) E hml hown hts (mX8_saysName7 lL G o μ σ φ κ β ω (σ (149 + f)) (by omega) (by omega)) (cwV 1 hts gX8_saysPath_X8_saysName rfl rfl rfl vdX8_saysName ⟨Nat.le_of_ble_eq_true rfl, Nat.le_of_ble_eq_true rfl⟩) (oB.recv hK hM.1 rfl) hM hK hS (fun _ h => h) rfl hl.1 rfl dX8_saysPath_30 hcs (Nat.le_of_ble_eq_true rfl) (fun H locs hnew hsz hoth hS => ?_)
    have hM : W8 G o [.ref (o 1), .ref (o 2), .ref (o 3), .int (iI (μ 3)), .int (iI (μ 4)), .ref (o 4), .int (iI (μ 6)), .int (iI (μ 7)), .int (iI (μ 8)), .int (iI (μ 9)), .int (iI (μ 10)), .int (iI (μ 11)), .int (iI (μ 12)), .int (iI (μ 13)), .int (iI (μ 14)), .long (iL (μ 15)), .ref (o 5), .int (iI (μ 17 + ((naL 7 (σ (149 + f))).length : Int)))] σ φ κ β (ouA ω (μ 17) (naL 7 (σ (149 + f)))) H := W8.eq hnew (by simp only [mV, zu, Int.reduceEq, reduceIte])
    exact z_retWv E hr (by rw [show paL σ 6 f = naL 7 (σ (149 + f)) from if_neg (by omega)]; exact W8.mu hM (by simp only [mV, zu, Int.reduceEq, reduceIte])) hS hlocks dX8_saysPath_33
  · have hp1 := hI.par1 (f := f) (by omega) hf.2
    refine lv_aload_n (pc := 4) E.1 E.2 dX8_saysPath_4 rfl (lv_at hl 0 rfl) ?_
    refine lv_aload_n (pc := 5) E.1 E.2 dX8_saysPath_5 rfl (lv_at hl 0 rfl) ?_
    refine lv_iload_n (pc := 6) E.1 E.2 dX8_saysPath_6 rfl (lv_at hl 1 rfl) ?_
    refine z_rVi (pc := 7) (As := [.int (iI f)]) (rest := [.ref (o 0)]) E hml hown hts (mX8_parentOf lL G o μ σ φ κ β ω f (by omega)) (cwV 1 hts gX8_saysPath_X8_parentOf rfl rfl rfl vdX8_parentOf ⟨Nat.le_of_ble_eq_true rfl, Nat.le_of_ble_eq_true rfl⟩) (oB.recv hK hM.1 rfl) hM hK rfl hl.1 rfl dX8_saysPath_7 hcs (Nat.le_of_ble_eq_true rfl) ?_
    refine z_wVv (pc := 10) (As := [.int (iI (σ (69 + f)))]) (rest := []) E hml hown hts (mX8_saysPath5 lL G o μ σ φ κ β ω (σ (69 + f)) hI (by omega) (by omega) (by omega)) (cwV 1 hts gX8_saysPath_X8_saysPath rfl rfl rfl vdX8_saysPath ⟨Nat.le_of_ble_eq_true rfl, Nat.le_of_ble_eq_true rfl⟩) (oB.recv hK hM.1 rfl) hM hK hS (fun _ h => h) rfl hl.1 rfl dX8_saysPath_10 hcs (Nat.le_of_ble_eq_true rfl) (fun H locs hnew hsz hoth hS => ?_)
    have hM : W8 G o [.ref (o 1), .ref (o 2), .ref (o 3), .int (iI (μ 3)), .int (iI (μ 4)), .ref (o 4), .int (iI (μ 6)), .int (iI (μ 7)), .int (iI (μ 8)), .int (iI (μ 9)), .int (iI (μ 10)), .int (iI (μ 11)), .int (iI (μ 12)), .int (iI (μ 13)), .int (iI (μ 14)), .long (iL (μ 15)), .ref (o 5), .int (iI (μ 17 + ((paL σ 5 (σ (69 + f))).length : Int)))] σ φ κ β (ouA ω (μ 17) (paL σ 5 (σ (69 + f)))) H := W8.eq hnew (by simp only [mV, zu, Int.reduceEq, reduceIte])
    have hlb := paL_b σ 5 (σ (69 + f))
    refine lv_aload_n (pc := 13) E.1 E.2 dX8_saysPath_13 rfl (lv_at hl 0 rfl) ?_
    refine z_bipush (pc := 14) E (by decide) dX8_saysPath_14 ?_
    refine z_wVv (pc := 16) (As := [.int (iI 47)]) (rest := []) E hml hown hts (mX8_says lL G o (zu μ 17 (μ 17 + ((paL σ 5 (σ (69 + f))).length : Int))) σ φ κ β (ouA ω (μ 17) (paL σ 5 (σ (69 + f)))) 47 (by first | omega | (simp only [zu, Int.reduceEq, reduceIte]; omega)) (by first | omega | (simp only [zu, Int.reduceEq, reduceIte]; omega))) (cwV 1 hts gX8_saysPath_X8_says rfl rfl rfl vdX8_says ⟨Nat.le_of_ble_eq_true rfl, Nat.le_of_ble_eq_true rfl⟩) (oB.recv hK hM.1 rfl) (W8.mu hM (by simp only [mV, zu, Int.reduceEq, reduceIte])) hK hS (fun _ h => h) rfl hl.1 rfl dX8_saysPath_16 hcs (Nat.le_of_ble_eq_true rfl) (fun H locs hnew hsz hoth hS => ?_)
    have hM : W8 G o [.ref (o 1), .ref (o 2), .ref (o 3), .int (iI (μ 3)), .int (iI (μ 4)), .ref (o 4), .int (iI (μ 6)), .int (iI (μ 7)), .int (iI (μ 8)), .int (iI (μ 9)), .int (iI (μ 10)), .int (iI (μ 11)), .int (iI (μ 12)), .int (iI (μ 13)), .int (iI (μ 14)), .long (iL (μ 15)), .ref (o 5), .int (iI ((μ 17 + ((paL σ 5 (σ (69 + f))).length : Int)) + 1))] σ φ κ β (zu (ouA ω (μ 17) (paL σ 5 (σ (69 + f)))) ((μ 17 + ((paL σ 5 (σ (69 + f))).length : Int))) 47) H := W8.eq hnew (by simp only [mV, zu, Int.reduceEq, reduceIte])
    refine lv_aload_n (pc := 19) E.1 E.2 dX8_saysPath_19 rfl (lv_at hl 0 rfl) ?_
    refine lv_aload_n (pc := 20) E.1 E.2 dX8_saysPath_20 rfl (lv_at hl 0 rfl) ?_
    refine g8_0 (pc := 21) E hts hin8 hown hK hM.1 (hts _ (List.mem_of_getElem? (i := 1) rfl)) dX8_saysPath_21 ?_
    refine z_sipush (pc := 24) E (by decide) dX8_saysPath_24 ?_
    refine lv_iload_n (pc := 27) E.1 E.2 dX8_saysPath_27 rfl (lv_at hl 1 rfl) ?_
    refine z_iadd (pc := 28) E dX8_saysPath_28 ?_
    refine z_laload (pc := 29) E hK hM.2.1 ⟨by omega, by omega⟩ (by decide) dX8_saysPath_29 ?_
    have hb29 := hI.bd (149 + f)
    refine z_wVv (pc := 30) (As := [.long (iL (σ (149 + f)))]) (rest := []) E hml hown hts (mX8_saysName7 lL G o (zu (zu μ 17 (μ 17 + ((paL σ 5 (σ (69 + f))).length : Int))) 17 ((μ 17 + ((paL σ 5 (σ (69 + f))).length : Int)) + 1)) σ φ κ β (zu (ouA ω (μ 17) (paL σ 5 (σ (69 + f)))) ((μ 17 + ((paL σ 5 (σ (69 + f))).length : Int))) 47) (σ (149 + f)) (by first | omega | (simp only [zu, Int.reduceEq, reduceIte]; omega)) (by first | omega | (simp only [zu, Int.reduceEq, reduceIte]; omega))) (cwV 1 hts gX8_saysPath_X8_saysName rfl rfl rfl vdX8_saysName ⟨Nat.le_of_ble_eq_true rfl, Nat.le_of_ble_eq_true rfl⟩) (oB.recv hK hM.1 rfl) (W8.mu hM (by simp only [mV, zu, Int.reduceEq, reduceIte])) hK hS (fun _ h => h) rfl hl.1 rfl dX8_saysPath_30 hcs (Nat.le_of_ble_eq_true rfl) (fun H locs hnew hsz hoth hS => ?_)
    have hM : W8 G o [.ref (o 1), .ref (o 2), .ref (o 3), .int (iI (μ 3)), .int (iI (μ 4)), .ref (o 4), .int (iI (μ 6)), .int (iI (μ 7)), .int (iI (μ 8)), .int (iI (μ 9)), .int (iI (μ 10)), .int (iI (μ 11)), .int (iI (μ 12)), .int (iI (μ 13)), .int (iI (μ 14)), .long (iL (μ 15)), .ref (o 5), .int (iI (((μ 17 + ((paL σ 5 (σ (69 + f))).length : Int)) + 1) + ((naL 7 (σ (149 + f))).length : Int)))] σ φ κ β (ouA (zu (ouA ω (μ 17) (paL σ 5 (σ (69 + f)))) ((μ 17 + ((paL σ 5 (σ (69 + f))).length : Int))) 47) (((μ 17 + ((paL σ 5 (σ (69 + f))).length : Int)) + 1)) (naL 7 (σ (149 + f)))) H := W8.eq hnew (by simp only [mV, zu, Int.reduceEq, reduceIte])
    exact z_retWv E hr (by rw [show paL σ 6 f = paL σ 5 (σ (69 + f)) ++ [47] ++ naL 7 (σ (149 + f)) from if_pos (by omega), ← ouA_3]; exact W8.mu hM (by rw [← ouA_l3]; simp only [mV, zu, Int.reduceEq, reduceIte])) hS hlocks dX8_saysPath_33
set_option maxHeartbeats 1000000 in
set_option maxRecDepth 100000 in
theorem mX8_saysPath7 (lL : Launch) (G : GG) (o : Nat → Nat) (μ σ φ κ β ω : Int → Int) (f : Int) (hI : In σ) (hf : 0 ≤ f ∧ f < σ 2) (hd : dpF σ f ≤ 8) (hm : 0 ≤ μ 17 ∧ μ 17 + 72 ≤ 400) : Met lL yX8_saysPath wsX8_saysPath ({ frames := 16, cells := 0, slots := 0, locals := 344 } : Room) (va_Pc [.ref (o 0), .int (iI f)] (fun U => W8 G o (mV o μ) σ φ κ β ω U.heap ∧ KK G U)) (va_Qv (fun _ : Unit => True) (fun _ tZ => W8 G o (mV o (zu μ 17 (μ 17 + ((paL σ 7 f).length : Int)))) σ φ κ β (ouA ω (μ 17) (paL σ 7 f)) tZ.heap) (Ax o 6)) 0 0 (Ax o 6) := by
  refine z_met (P := (fun H : Heap => W8 G o (mV o μ) σ φ κ β ω H)) (by decide) rfl (Nat.le_of_ble_eq_true rfl) (fun pp ee ss mm below meth cC E hr hml hown hts hlocks hM hK ls hl => ?_)
  have hl : lv_has ls 2 [(0, .ref (o 0)), (1, .int (iI f))] := hl
  have hcs : 0 ≤ (({ frames := 16, cells := 0, slots := 0, locals := 344 } : Room)).cells ∧ 0 ≤ (({ frames := 16, cells := 0, slots := 0, locals := 344 } : Room)).slots := ⟨Nat.zero_le _, Nat.zero_le _⟩
  have hS : va_S (Ax o 6) ss.heap ss.heap [] := va_S.rf
  have hin8 : ∀ w ∈ wsX80, w ∈ wsX8_saysPath := fun w h => List.mem_cons_of_mem _ (List.mem_append_right _ (h))
  have hF := hI.F
  have hMm := hI.M
  have hGn := hI.Gn
  have hnk := nmk_b (hI.nam hf.1 hf.2)
  have e9 := dpF_s hI.cs hf.1 hf.2
  refine lv_iload_n (pc := 0) E.1 E.2 dX8_saysPath_0 rfl (lv_at hl 1 rfl) ?_
  refine z_if_le (pc := 1) (tgt := 19) E ⟨by omega, by omega⟩ dX8_saysPath_1 (by decide) (fun h1 => ?_) (fun h1 => ?_)
  · refine lv_aload_n (pc := 19) E.1 E.2 dX8_saysPath_19 rfl (lv_at hl 0 rfl) ?_
    refine lv_aload_n (pc := 20) E.1 E.2 dX8_saysPath_20 rfl (lv_at hl 0 rfl) ?_
    refine g8_0 (pc := 21) E hts hin8 hown hK hM.1 (hts _ (List.mem_of_getElem? (i := 1) rfl)) dX8_saysPath_21 ?_
    refine z_sipush (pc := 24) E (by decide) dX8_saysPath_24 ?_
    refine lv_iload_n (pc := 27) E.1 E.2 dX8_saysPath_27 rfl (lv_at hl 1 rfl) ?_
    refine z_iadd (pc := 28) E dX8_saysPath_28 ?_
    refine z_laload (pc := 29) E hK hM.2.1 ⟨by omega, by omega⟩ (by decide) dX8_saysPath_29 ?_
    have hb29 := hI.bd (149 + f)
    refine z_wVv (pc := 30) (As := [.long (iL (σ (149 + f)))]) (rest := []) E hml hown hts (mX8_saysName7 lL G o μ σ φ κ β ω (σ (149 + f)) (by omega) (by omega)) (cwV 1 hts gX8_saysPath_X8_saysName rfl rfl rfl vdX8_saysName ⟨Nat.le_of_ble_eq_true rfl, Nat.le_of_ble_eq_true rfl⟩) (oB.recv hK hM.1 rfl) hM hK hS (fun _ h => h) rfl hl.1 rfl dX8_saysPath_30 hcs (Nat.le_of_ble_eq_true rfl) (fun H locs hnew hsz hoth hS => ?_)
    have hM : W8 G o [.ref (o 1), .ref (o 2), .ref (o 3), .int (iI (μ 3)), .int (iI (μ 4)), .ref (o 4), .int (iI (μ 6)), .int (iI (μ 7)), .int (iI (μ 8)), .int (iI (μ 9)), .int (iI (μ 10)), .int (iI (μ 11)), .int (iI (μ 12)), .int (iI (μ 13)), .int (iI (μ 14)), .long (iL (μ 15)), .ref (o 5), .int (iI (μ 17 + ((naL 7 (σ (149 + f))).length : Int)))] σ φ κ β (ouA ω (μ 17) (naL 7 (σ (149 + f)))) H := W8.eq hnew (by simp only [mV, zu, Int.reduceEq, reduceIte])
    exact z_retWv E hr (by rw [show paL σ 7 f = naL 7 (σ (149 + f)) from if_neg (by omega)]; exact W8.mu hM (by simp only [mV, zu, Int.reduceEq, reduceIte])) hS hlocks dX8_saysPath_33
  · have hp1 := hI.par1 (f := f) (by omega) hf.2
    refine lv_aload_n (pc := 4) E.1 E.2 dX8_saysPath_4 rfl (lv_at hl 0 rfl) ?_
    refine lv_aload_n (pc := 5) E.1 E.2 dX8_saysPath_5 rfl (lv_at hl 0 rfl) ?_
    refine lv_iload_n (pc := 6) E.1 E.2 dX8_saysPath_6 rfl (lv_at hl 1 rfl) ?_
    refine z_rVi (pc := 7) (As := [.int (iI f)]) (rest := [.ref (o 0)]) E hml hown hts (mX8_parentOf lL G o μ σ φ κ β ω f (by omega)) (cwV 1 hts gX8_saysPath_X8_parentOf rfl rfl rfl vdX8_parentOf ⟨Nat.le_of_ble_eq_true rfl, Nat.le_of_ble_eq_true rfl⟩) (oB.recv hK hM.1 rfl) hM hK rfl hl.1 rfl dX8_saysPath_7 hcs (Nat.le_of_ble_eq_true rfl) ?_
    refine z_wVv (pc := 10) (As := [.int (iI (σ (69 + f)))]) (rest := []) E hml hown hts (mX8_saysPath6 lL G o μ σ φ κ β ω (σ (69 + f)) hI (by omega) (by omega) (by omega)) (cwV 1 hts gX8_saysPath_X8_saysPath rfl rfl rfl vdX8_saysPath ⟨Nat.le_of_ble_eq_true rfl, Nat.le_of_ble_eq_true rfl⟩) (oB.recv hK hM.1 rfl) hM hK hS (fun _ h => h) rfl hl.1 rfl dX8_saysPath_10 hcs (Nat.le_of_ble_eq_true rfl) (fun H locs hnew hsz hoth hS => ?_)
    have hM : W8 G o [.ref (o 1), .ref (o 2), .ref (o 3), .int (iI (μ 3)), .int (iI (μ 4)), .ref (o 4), .int (iI (μ 6)), .int (iI (μ 7)), .int (iI (μ 8)), .int (iI (μ 9)), .int (iI (μ 10)), .int (iI (μ 11)), .int (iI (μ 12)), .int (iI (μ 13)), .int (iI (μ 14)), .long (iL (μ 15)), .ref (o 5), .int (iI (μ 17 + ((paL σ 6 (σ (69 + f))).length : Int)))] σ φ κ β (ouA ω (μ 17) (paL σ 6 (σ (69 + f)))) H := W8.eq hnew (by simp only [mV, zu, Int.reduceEq, reduceIte])
    have hlb := paL_b σ 6 (σ (69 + f))
    refine lv_aload_n (pc := 13) E.1 E.2 dX8_saysPath_13 rfl (lv_at hl 0 rfl) ?_
    refine z_bipush (pc := 14) E (by decide) dX8_saysPath_14 ?_
    refine z_wVv (pc := 16) (As := [.int (iI 47)]) (rest := []) E hml hown hts (mX8_says lL G o (zu μ 17 (μ 17 + ((paL σ 6 (σ (69 + f))).length : Int))) σ φ κ β (ouA ω (μ 17) (paL σ 6 (σ (69 + f)))) 47 (by first | omega | (simp only [zu, Int.reduceEq, reduceIte]; omega)) (by first | omega | (simp only [zu, Int.reduceEq, reduceIte]; omega))) (cwV 1 hts gX8_saysPath_X8_says rfl rfl rfl vdX8_says ⟨Nat.le_of_ble_eq_true rfl, Nat.le_of_ble_eq_true rfl⟩) (oB.recv hK hM.1 rfl) (W8.mu hM (by simp only [mV, zu, Int.reduceEq, reduceIte])) hK hS (fun _ h => h) rfl hl.1 rfl dX8_saysPath_16 hcs (Nat.le_of_ble_eq_true rfl) (fun H locs hnew hsz hoth hS => ?_)
    have hM : W8 G o [.ref (o 1), .ref (o 2), .ref (o 3), .int (iI (μ 3)), .int (iI (μ 4)), .ref (o 4), .int (iI (μ 6)), .int (iI (μ 7)), .int (iI (μ 8)), .int (iI (μ 9)), .int (iI (μ 10)), .int (iI (μ 11)), .int (iI (μ 12)), .int (iI (μ 13)), .int (iI (μ 14)), .long (iL (μ 15)), .ref (o 5), .int (iI ((μ 17 + ((paL σ 6 (σ (69 + f))).length : Int)) + 1))] σ φ κ β (zu (ouA ω (μ 17) (paL σ 6 (σ (69 + f)))) ((μ 17 + ((paL σ 6 (σ (69 + f))).length : Int))) 47) H := W8.eq hnew (by simp only [mV, zu, Int.reduceEq, reduceIte])
    refine lv_aload_n (pc := 19) E.1 E.2 dX8_saysPath_19 rfl (lv_at hl 0 rfl) ?_
    refine lv_aload_n (pc := 20) E.1 E.2 dX8_saysPath_20 rfl (lv_at hl 0 rfl) ?_
    refine g8_0 (pc := 21) E hts hin8 hown hK hM.1 (hts _ (List.mem_of_getElem? (i := 1) rfl)) dX8_saysPath_21 ?_
    refine z_sipush (pc := 24) E (by decide) dX8_saysPath_24 ?_
    refine lv_iload_n (pc := 27) E.1 E.2 dX8_saysPath_27 rfl (lv_at hl 1 rfl) ?_
    refine z_iadd (pc := 28) E dX8_saysPath_28 ?_
    refine z_laload (pc := 29) E hK hM.2.1 ⟨by omega, by omega⟩ (by decide) dX8_saysPath_29 ?_
    have hb29 := hI.bd (149 + f)
    refine z_wVv (pc := 30) (As := [.long (iL (σ (149 + f)))]) (rest := []) E hml hown hts (mX8_saysName7 lL G o (zu (zu μ 17 (μ 17 + ((paL σ 6 (σ (69 + f))).length : Int))) 17 ((μ 17 + ((paL σ 6 (σ (69 + f))).length : Int)) + 1)) σ φ κ β (zu (ouA ω (μ 17) (paL σ 6 (σ (69 + f)))) ((μ 17 + ((paL σ 6 (σ (69 + f))).length : Int))) 47) (σ (149 + f)) (by first | omega | (simp only [zu, Int.reduceEq, reduceIte]; omega)) (by first | omega | (simp only [zu, Int.reduceEq, reduceIte]; omega))) (cwV 1 hts gX8_saysPath_X8_saysName rfl rfl rfl vdX8_saysName ⟨Nat.le_of_ble_eq_true rfl, Nat.le_of_ble_eq_true rfl⟩) (oB.recv hK hM.1 rfl) (W8.mu hM (by simp only [mV, zu, Int.reduceEq, reduceIte])) hK hS (fun _ h => h) rfl hl.1 rfl dX8_saysPath_30 hcs (Nat.le_of_ble_eq_true rfl) (fun H locs hnew hsz hoth hS => ?_)
    have hM : W8 G o [.ref (o 1), .ref (o 2), .ref (o 3), .int (iI (μ 3)), .int (iI (μ 4)), .ref (o 4), .int (iI (μ 6)), .int (iI (μ 7)), .int (iI (μ 8)), .int (iI (μ 9)), .int (iI (μ 10)), .int (iI (μ 11)), .int (iI (μ 12)), .int (iI (μ 13)), .int (iI (μ 14)), .long (iL (μ 15)), .ref (o 5), .int (iI (((μ 17 + ((paL σ 6 (σ (69 + f))).length : Int)) + 1) + ((naL 7 (σ (149 + f))).length : Int)))] σ φ κ β (ouA (zu (ouA ω (μ 17) (paL σ 6 (σ (69 + f)))) ((μ 17 + ((paL σ 6 (σ (69 + f))).length : Int))) 47) (((μ 17 + ((paL σ 6 (σ (69 + f))).length : Int)) + 1)) (naL 7 (σ (149 + f)))) H := W8.eq hnew (by simp only [mV, zu, Int.reduceEq, reduceIte])
    exact z_retWv E hr (by rw [show paL σ 7 f = paL σ 6 (σ (69 + f)) ++ [47] ++ naL 7 (σ (149 + f)) from if_pos (by omega), ← ouA_3]; exact W8.mu hM (by rw [← ouA_l3]; simp only [mV, zu, Int.reduceEq, reduceIte])) hS hlocks dX8_saysPath_33
set_option maxHeartbeats 1000000 in
set_option maxRecDepth 100000 in
theorem mX8_saysPath8 (lL : Launch) (G : GG) (o : Nat → Nat) (μ σ φ κ β ω : Int → Int) (f : Int) (hI : In σ) (hf : 0 ≤ f ∧ f < σ 2) (hd : dpF σ f ≤ 9) (hm : 0 ≤ μ 17 ∧ μ 17 + 81 ≤ 400) : Met lL yX8_saysPath wsX8_saysPath ({ frames := 17, cells := 0, slots := 0, locals := 365 } : Room) (va_Pc [.ref (o 0), .int (iI f)] (fun U => W8 G o (mV o μ) σ φ κ β ω U.heap ∧ KK G U)) (va_Qv (fun _ : Unit => True) (fun _ tZ => W8 G o (mV o (zu μ 17 (μ 17 + ((paL σ 8 f).length : Int)))) σ φ κ β (ouA ω (μ 17) (paL σ 8 f)) tZ.heap) (Ax o 6)) 0 0 (Ax o 6) := by
  refine z_met (P := (fun H : Heap => W8 G o (mV o μ) σ φ κ β ω H)) (by decide) rfl (Nat.le_of_ble_eq_true rfl) (fun pp ee ss mm below meth cC E hr hml hown hts hlocks hM hK ls hl => ?_)
  have hl : lv_has ls 2 [(0, .ref (o 0)), (1, .int (iI f))] := hl
  have hcs : 0 ≤ (({ frames := 17, cells := 0, slots := 0, locals := 365 } : Room)).cells ∧ 0 ≤ (({ frames := 17, cells := 0, slots := 0, locals := 365 } : Room)).slots := ⟨Nat.zero_le _, Nat.zero_le _⟩
  have hS : va_S (Ax o 6) ss.heap ss.heap [] := va_S.rf
  have hin8 : ∀ w ∈ wsX80, w ∈ wsX8_saysPath := fun w h => List.mem_cons_of_mem _ (List.mem_append_right _ (h))
  have hF := hI.F
  have hMm := hI.M
  have hGn := hI.Gn
  have hnk := nmk_b (hI.nam hf.1 hf.2)
  have e9 := dpF_s hI.cs hf.1 hf.2
  refine lv_iload_n (pc := 0) E.1 E.2 dX8_saysPath_0 rfl (lv_at hl 1 rfl) ?_
  refine z_if_le (pc := 1) (tgt := 19) E ⟨by omega, by omega⟩ dX8_saysPath_1 (by decide) (fun h1 => ?_) (fun h1 => ?_)
  · refine lv_aload_n (pc := 19) E.1 E.2 dX8_saysPath_19 rfl (lv_at hl 0 rfl) ?_
    refine lv_aload_n (pc := 20) E.1 E.2 dX8_saysPath_20 rfl (lv_at hl 0 rfl) ?_
    refine g8_0 (pc := 21) E hts hin8 hown hK hM.1 (hts _ (List.mem_of_getElem? (i := 1) rfl)) dX8_saysPath_21 ?_
    refine z_sipush (pc := 24) E (by decide) dX8_saysPath_24 ?_
    refine lv_iload_n (pc := 27) E.1 E.2 dX8_saysPath_27 rfl (lv_at hl 1 rfl) ?_
    refine z_iadd (pc := 28) E dX8_saysPath_28 ?_
    refine z_laload (pc := 29) E hK hM.2.1 ⟨by omega, by omega⟩ (by decide) dX8_saysPath_29 ?_
    have hb29 := hI.bd (149 + f)
    refine z_wVv (pc := 30) (As := [.long (iL (σ (149 + f)))]) (rest := []) E hml hown hts (mX8_saysName7 lL G o μ σ φ κ β ω (σ (149 + f)) (by omega) (by omega)) (cwV 1 hts gX8_saysPath_X8_saysName rfl rfl rfl vdX8_saysName ⟨Nat.le_of_ble_eq_true rfl, Nat.le_of_ble_eq_true rfl⟩) (oB.recv hK hM.1 rfl) hM hK hS (fun _ h => h) rfl hl.1 rfl dX8_saysPath_30 hcs (Nat.le_of_ble_eq_true rfl) (fun H locs hnew hsz hoth hS => ?_)
    have hM : W8 G o [.ref (o 1), .ref (o 2), .ref (o 3), .int (iI (μ 3)), .int (iI (μ 4)), .ref (o 4), .int (iI (μ 6)), .int (iI (μ 7)), .int (iI (μ 8)), .int (iI (μ 9)), .int (iI (μ 10)), .int (iI (μ 11)), .int (iI (μ 12)), .int (iI (μ 13)), .int (iI (μ 14)), .long (iL (μ 15)), .ref (o 5), .int (iI (μ 17 + ((naL 7 (σ (149 + f))).length : Int)))] σ φ κ β (ouA ω (μ 17) (naL 7 (σ (149 + f)))) H := W8.eq hnew (by simp only [mV, zu, Int.reduceEq, reduceIte])
    exact z_retWv E hr (by rw [show paL σ 8 f = naL 7 (σ (149 + f)) from if_neg (by omega)]; exact W8.mu hM (by simp only [mV, zu, Int.reduceEq, reduceIte])) hS hlocks dX8_saysPath_33
  · have hp1 := hI.par1 (f := f) (by omega) hf.2
    refine lv_aload_n (pc := 4) E.1 E.2 dX8_saysPath_4 rfl (lv_at hl 0 rfl) ?_
    refine lv_aload_n (pc := 5) E.1 E.2 dX8_saysPath_5 rfl (lv_at hl 0 rfl) ?_
    refine lv_iload_n (pc := 6) E.1 E.2 dX8_saysPath_6 rfl (lv_at hl 1 rfl) ?_
    refine z_rVi (pc := 7) (As := [.int (iI f)]) (rest := [.ref (o 0)]) E hml hown hts (mX8_parentOf lL G o μ σ φ κ β ω f (by omega)) (cwV 1 hts gX8_saysPath_X8_parentOf rfl rfl rfl vdX8_parentOf ⟨Nat.le_of_ble_eq_true rfl, Nat.le_of_ble_eq_true rfl⟩) (oB.recv hK hM.1 rfl) hM hK rfl hl.1 rfl dX8_saysPath_7 hcs (Nat.le_of_ble_eq_true rfl) ?_
    refine z_wVv (pc := 10) (As := [.int (iI (σ (69 + f)))]) (rest := []) E hml hown hts (mX8_saysPath7 lL G o μ σ φ κ β ω (σ (69 + f)) hI (by omega) (by omega) (by omega)) (cwV 1 hts gX8_saysPath_X8_saysPath rfl rfl rfl vdX8_saysPath ⟨Nat.le_of_ble_eq_true rfl, Nat.le_of_ble_eq_true rfl⟩) (oB.recv hK hM.1 rfl) hM hK hS (fun _ h => h) rfl hl.1 rfl dX8_saysPath_10 hcs (Nat.le_of_ble_eq_true rfl) (fun H locs hnew hsz hoth hS => ?_)
    have hM : W8 G o [.ref (o 1), .ref (o 2), .ref (o 3), .int (iI (μ 3)), .int (iI (μ 4)), .ref (o 4), .int (iI (μ 6)), .int (iI (μ 7)), .int (iI (μ 8)), .int (iI (μ 9)), .int (iI (μ 10)), .int (iI (μ 11)), .int (iI (μ 12)), .int (iI (μ 13)), .int (iI (μ 14)), .long (iL (μ 15)), .ref (o 5), .int (iI (μ 17 + ((paL σ 7 (σ (69 + f))).length : Int)))] σ φ κ β (ouA ω (μ 17) (paL σ 7 (σ (69 + f)))) H := W8.eq hnew (by simp only [mV, zu, Int.reduceEq, reduceIte])
    have hlb := paL_b σ 7 (σ (69 + f))
    refine lv_aload_n (pc := 13) E.1 E.2 dX8_saysPath_13 rfl (lv_at hl 0 rfl) ?_
    refine z_bipush (pc := 14) E (by decide) dX8_saysPath_14 ?_
    refine z_wVv (pc := 16) (As := [.int (iI 47)]) (rest := []) E hml hown hts (mX8_says lL G o (zu μ 17 (μ 17 + ((paL σ 7 (σ (69 + f))).length : Int))) σ φ κ β (ouA ω (μ 17) (paL σ 7 (σ (69 + f)))) 47 (by first | omega | (simp only [zu, Int.reduceEq, reduceIte]; omega)) (by first | omega | (simp only [zu, Int.reduceEq, reduceIte]; omega))) (cwV 1 hts gX8_saysPath_X8_says rfl rfl rfl vdX8_says ⟨Nat.le_of_ble_eq_true rfl, Nat.le_of_ble_eq_true rfl⟩) (oB.recv hK hM.1 rfl) (W8.mu hM (by simp only [mV, zu, Int.reduceEq, reduceIte])) hK hS (fun _ h => h) rfl hl.1 rfl dX8_saysPath_16 hcs (Nat.le_of_ble_eq_true rfl) (fun H locs hnew hsz hoth hS => ?_)
    have hM : W8 G o [.ref (o 1), .ref (o 2), .ref (o 3), .int (iI (μ 3)), .int (iI (μ 4)), .ref (o 4), .int (iI (μ 6)), .int (iI (μ 7)), .int (iI (μ 8)), .int (iI (μ 9)), .int (iI (μ 10)), .int (iI (μ 11)), .int (iI (μ 12)), .int (iI (μ 13)), .int (iI (μ 14)), .long (iL (μ 15)), .ref (o 5), .int (iI ((μ 17 + ((paL σ 7 (σ (69 + f))).length : Int)) + 1))] σ φ κ β (zu (ouA ω (μ 17) (paL σ 7 (σ (69 + f)))) ((μ 17 + ((paL σ 7 (σ (69 + f))).length : Int))) 47) H := W8.eq hnew (by simp only [mV, zu, Int.reduceEq, reduceIte])
    refine lv_aload_n (pc := 19) E.1 E.2 dX8_saysPath_19 rfl (lv_at hl 0 rfl) ?_
    refine lv_aload_n (pc := 20) E.1 E.2 dX8_saysPath_20 rfl (lv_at hl 0 rfl) ?_
    refine g8_0 (pc := 21) E hts hin8 hown hK hM.1 (hts _ (List.mem_of_getElem? (i := 1) rfl)) dX8_saysPath_21 ?_
    refine z_sipush (pc := 24) E (by decide) dX8_saysPath_24 ?_
    refine lv_iload_n (pc := 27) E.1 E.2 dX8_saysPath_27 rfl (lv_at hl 1 rfl) ?_
    refine z_iadd (pc := 28) E dX8_saysPath_28 ?_
    refine z_laload (pc := 29) E hK hM.2.1 ⟨by omega, by omega⟩ (by decide) dX8_saysPath_29 ?_
    have hb29 := hI.bd (149 + f)
    refine z_wVv (pc := 30) (As := [.long (iL (σ (149 + f)))]) (rest := []) E hml hown hts (mX8_saysName7 lL G o (zu (zu μ 17 (μ 17 + ((paL σ 7 (σ (69 + f))).length : Int))) 17 ((μ 17 + ((paL σ 7 (σ (69 + f))).length : Int)) + 1)) σ φ κ β (zu (ouA ω (μ 17) (paL σ 7 (σ (69 + f)))) ((μ 17 + ((paL σ 7 (σ (69 + f))).length : Int))) 47) (σ (149 + f)) (by first | omega | (simp only [zu, Int.reduceEq, reduceIte]; omega)) (by first | omega | (simp only [zu, Int.reduceEq, reduceIte]; omega))) (cwV 1 hts gX8_saysPath_X8_saysName rfl rfl rfl vdX8_saysName ⟨Nat.le_of_ble_eq_true rfl, Nat.le_of_ble_eq_true rfl⟩) (oB.recv hK hM.1 rfl) (W8.mu hM (by simp only [mV, zu, Int.reduceEq, reduceIte])) hK hS (fun _ h => h) rfl hl.1 rfl dX8_saysPath_30 hcs (Nat.le_of_ble_eq_true rfl) (fun H locs hnew hsz hoth hS => ?_)
    have hM : W8 G o [.ref (o 1), .ref (o 2), .ref (o 3), .int (iI (μ 3)), .int (iI (μ 4)), .ref (o 4), .int (iI (μ 6)), .int (iI (μ 7)), .int (iI (μ 8)), .int (iI (μ 9)), .int (iI (μ 10)), .int (iI (μ 11)), .int (iI (μ 12)), .int (iI (μ 13)), .int (iI (μ 14)), .long (iL (μ 15)), .ref (o 5), .int (iI (((μ 17 + ((paL σ 7 (σ (69 + f))).length : Int)) + 1) + ((naL 7 (σ (149 + f))).length : Int)))] σ φ κ β (ouA (zu (ouA ω (μ 17) (paL σ 7 (σ (69 + f)))) ((μ 17 + ((paL σ 7 (σ (69 + f))).length : Int))) 47) (((μ 17 + ((paL σ 7 (σ (69 + f))).length : Int)) + 1)) (naL 7 (σ (149 + f)))) H := W8.eq hnew (by simp only [mV, zu, Int.reduceEq, reduceIte])
    exact z_retWv E hr (by rw [show paL σ 8 f = paL σ 7 (σ (69 + f)) ++ [47] ++ naL 7 (σ (149 + f)) from if_pos (by omega), ← ouA_3]; exact W8.mu hM (by rw [← ouA_l3]; simp only [mV, zu, Int.reduceEq, reduceIte])) hS hlocks dX8_saysPath_33
set_option maxHeartbeats 1000000 in
set_option maxRecDepth 100000 in
theorem mX8_saysPath9 (lL : Launch) (G : GG) (o : Nat → Nat) (μ σ φ κ β ω : Int → Int) (f : Int) (hI : In σ) (hf : 0 ≤ f ∧ f < σ 2) (hd : dpF σ f ≤ 10) (hm : 0 ≤ μ 17 ∧ μ 17 + 90 ≤ 400) : Met lL yX8_saysPath wsX8_saysPath ({ frames := 18, cells := 0, slots := 0, locals := 386 } : Room) (va_Pc [.ref (o 0), .int (iI f)] (fun U => W8 G o (mV o μ) σ φ κ β ω U.heap ∧ KK G U)) (va_Qv (fun _ : Unit => True) (fun _ tZ => W8 G o (mV o (zu μ 17 (μ 17 + ((paL σ 9 f).length : Int)))) σ φ κ β (ouA ω (μ 17) (paL σ 9 f)) tZ.heap) (Ax o 6)) 0 0 (Ax o 6) := by
  refine z_met (P := (fun H : Heap => W8 G o (mV o μ) σ φ κ β ω H)) (by decide) rfl (Nat.le_of_ble_eq_true rfl) (fun pp ee ss mm below meth cC E hr hml hown hts hlocks hM hK ls hl => ?_)
  have hl : lv_has ls 2 [(0, .ref (o 0)), (1, .int (iI f))] := hl
  have hcs : 0 ≤ (({ frames := 18, cells := 0, slots := 0, locals := 386 } : Room)).cells ∧ 0 ≤ (({ frames := 18, cells := 0, slots := 0, locals := 386 } : Room)).slots := ⟨Nat.zero_le _, Nat.zero_le _⟩
  have hS : va_S (Ax o 6) ss.heap ss.heap [] := va_S.rf
  have hin8 : ∀ w ∈ wsX80, w ∈ wsX8_saysPath := fun w h => List.mem_cons_of_mem _ (List.mem_append_right _ (h))
  have hF := hI.F
  have hMm := hI.M
  have hGn := hI.Gn
  have hnk := nmk_b (hI.nam hf.1 hf.2)
  have e9 := dpF_s hI.cs hf.1 hf.2
  refine lv_iload_n (pc := 0) E.1 E.2 dX8_saysPath_0 rfl (lv_at hl 1 rfl) ?_
  refine z_if_le (pc := 1) (tgt := 19) E ⟨by omega, by omega⟩ dX8_saysPath_1 (by decide) (fun h1 => ?_) (fun h1 => ?_)
  · refine lv_aload_n (pc := 19) E.1 E.2 dX8_saysPath_19 rfl (lv_at hl 0 rfl) ?_
    refine lv_aload_n (pc := 20) E.1 E.2 dX8_saysPath_20 rfl (lv_at hl 0 rfl) ?_
    refine g8_0 (pc := 21) E hts hin8 hown hK hM.1 (hts _ (List.mem_of_getElem? (i := 1) rfl)) dX8_saysPath_21 ?_
    refine z_sipush (pc := 24) E (by decide) dX8_saysPath_24 ?_
    refine lv_iload_n (pc := 27) E.1 E.2 dX8_saysPath_27 rfl (lv_at hl 1 rfl) ?_
    refine z_iadd (pc := 28) E dX8_saysPath_28 ?_
    refine z_laload (pc := 29) E hK hM.2.1 ⟨by omega, by omega⟩ (by decide) dX8_saysPath_29 ?_
    have hb29 := hI.bd (149 + f)
    refine z_wVv (pc := 30) (As := [.long (iL (σ (149 + f)))]) (rest := []) E hml hown hts (mX8_saysName7 lL G o μ σ φ κ β ω (σ (149 + f)) (by omega) (by omega)) (cwV 1 hts gX8_saysPath_X8_saysName rfl rfl rfl vdX8_saysName ⟨Nat.le_of_ble_eq_true rfl, Nat.le_of_ble_eq_true rfl⟩) (oB.recv hK hM.1 rfl) hM hK hS (fun _ h => h) rfl hl.1 rfl dX8_saysPath_30 hcs (Nat.le_of_ble_eq_true rfl) (fun H locs hnew hsz hoth hS => ?_)
    have hM : W8 G o [.ref (o 1), .ref (o 2), .ref (o 3), .int (iI (μ 3)), .int (iI (μ 4)), .ref (o 4), .int (iI (μ 6)), .int (iI (μ 7)), .int (iI (μ 8)), .int (iI (μ 9)), .int (iI (μ 10)), .int (iI (μ 11)), .int (iI (μ 12)), .int (iI (μ 13)), .int (iI (μ 14)), .long (iL (μ 15)), .ref (o 5), .int (iI (μ 17 + ((naL 7 (σ (149 + f))).length : Int)))] σ φ κ β (ouA ω (μ 17) (naL 7 (σ (149 + f)))) H := W8.eq hnew (by simp only [mV, zu, Int.reduceEq, reduceIte])
    exact z_retWv E hr (by rw [show paL σ 9 f = naL 7 (σ (149 + f)) from if_neg (by omega)]; exact W8.mu hM (by simp only [mV, zu, Int.reduceEq, reduceIte])) hS hlocks dX8_saysPath_33
  · have hp1 := hI.par1 (f := f) (by omega) hf.2
    refine lv_aload_n (pc := 4) E.1 E.2 dX8_saysPath_4 rfl (lv_at hl 0 rfl) ?_
    refine lv_aload_n (pc := 5) E.1 E.2 dX8_saysPath_5 rfl (lv_at hl 0 rfl) ?_
    refine lv_iload_n (pc := 6) E.1 E.2 dX8_saysPath_6 rfl (lv_at hl 1 rfl) ?_
    refine z_rVi (pc := 7) (As := [.int (iI f)]) (rest := [.ref (o 0)]) E hml hown hts (mX8_parentOf lL G o μ σ φ κ β ω f (by omega)) (cwV 1 hts gX8_saysPath_X8_parentOf rfl rfl rfl vdX8_parentOf ⟨Nat.le_of_ble_eq_true rfl, Nat.le_of_ble_eq_true rfl⟩) (oB.recv hK hM.1 rfl) hM hK rfl hl.1 rfl dX8_saysPath_7 hcs (Nat.le_of_ble_eq_true rfl) ?_
    refine z_wVv (pc := 10) (As := [.int (iI (σ (69 + f)))]) (rest := []) E hml hown hts (mX8_saysPath8 lL G o μ σ φ κ β ω (σ (69 + f)) hI (by omega) (by omega) (by omega)) (cwV 1 hts gX8_saysPath_X8_saysPath rfl rfl rfl vdX8_saysPath ⟨Nat.le_of_ble_eq_true rfl, Nat.le_of_ble_eq_true rfl⟩) (oB.recv hK hM.1 rfl) hM hK hS (fun _ h => h) rfl hl.1 rfl dX8_saysPath_10 hcs (Nat.le_of_ble_eq_true rfl) (fun H locs hnew hsz hoth hS => ?_)
    have hM : W8 G o [.ref (o 1), .ref (o 2), .ref (o 3), .int (iI (μ 3)), .int (iI (μ 4)), .ref (o 4), .int (iI (μ 6)), .int (iI (μ 7)), .int (iI (μ 8)), .int (iI (μ 9)), .int (iI (μ 10)), .int (iI (μ 11)), .int (iI (μ 12)), .int (iI (μ 13)), .int (iI (μ 14)), .long (iL (μ 15)), .ref (o 5), .int (iI (μ 17 + ((paL σ 8 (σ (69 + f))).length : Int)))] σ φ κ β (ouA ω (μ 17) (paL σ 8 (σ (69 + f)))) H := W8.eq hnew (by simp only [mV, zu, Int.reduceEq, reduceIte])
    have hlb := paL_b σ 8 (σ (69 + f))
    refine lv_aload_n (pc := 13) E.1 E.2 dX8_saysPath_13 rfl (lv_at hl 0 rfl) ?_
    refine z_bipush (pc := 14) E (by decide) dX8_saysPath_14 ?_
    refine z_wVv (pc := 16) (As := [.int (iI 47)]) (rest := []) E hml hown hts (mX8_says lL G o (zu μ 17 (μ 17 + ((paL σ 8 (σ (69 + f))).length : Int))) σ φ κ β (ouA ω (μ 17) (paL σ 8 (σ (69 + f)))) 47 (by first | omega | (simp only [zu, Int.reduceEq, reduceIte]; omega)) (by first | omega | (simp only [zu, Int.reduceEq, reduceIte]; omega))) (cwV 1 hts gX8_saysPath_X8_says rfl rfl rfl vdX8_says ⟨Nat.le_of_ble_eq_true rfl, Nat.le_of_ble_eq_true rfl⟩) (oB.recv hK hM.1 rfl) (W8.mu hM (by simp only [mV, zu, Int.reduceEq, reduceIte])) hK hS (fun _ h => h) rfl hl.1 rfl dX8_saysPath_16 hcs (Nat.le_of_ble_eq_true rfl) (fun H locs hnew hsz hoth hS => ?_)
    have hM : W8 G o [.ref (o 1), .ref (o 2), .ref (o 3), .int (iI (μ 3)), .int (iI (μ 4)), .ref (o 4), .int (iI (μ 6)), .int (iI (μ 7)), .int (iI (μ 8)), .int (iI (μ 9)), .int (iI (μ 10)), .int (iI (μ 11)), .int (iI (μ 12)), .int (iI (μ 13)), .int (iI (μ 14)), .long (iL (μ 15)), .ref (o 5), .int (iI ((μ 17 + ((paL σ 8 (σ (69 + f))).length : Int)) + 1))] σ φ κ β (zu (ouA ω (μ 17) (paL σ 8 (σ (69 + f)))) ((μ 17 + ((paL σ 8 (σ (69 + f))).length : Int))) 47) H := W8.eq hnew (by simp only [mV, zu, Int.reduceEq, reduceIte])
    refine lv_aload_n (pc := 19) E.1 E.2 dX8_saysPath_19 rfl (lv_at hl 0 rfl) ?_
    refine lv_aload_n (pc := 20) E.1 E.2 dX8_saysPath_20 rfl (lv_at hl 0 rfl) ?_
    refine g8_0 (pc := 21) E hts hin8 hown hK hM.1 (hts _ (List.mem_of_getElem? (i := 1) rfl)) dX8_saysPath_21 ?_
    refine z_sipush (pc := 24) E (by decide) dX8_saysPath_24 ?_
    refine lv_iload_n (pc := 27) E.1 E.2 dX8_saysPath_27 rfl (lv_at hl 1 rfl) ?_
    refine z_iadd (pc := 28) E dX8_saysPath_28 ?_
    refine z_laload (pc := 29) E hK hM.2.1 ⟨by omega, by omega⟩ (by decide) dX8_saysPath_29 ?_
    have hb29 := hI.bd (149 + f)
    refine z_wVv (pc := 30) (As := [.long (iL (σ (149 + f)))]) (rest := []) E hml hown hts (mX8_saysName7 lL G o (zu (zu μ 17 (μ 17 + ((paL σ 8 (σ (69 + f))).length : Int))) 17 ((μ 17 + ((paL σ 8 (σ (69 + f))).length : Int)) + 1)) σ φ κ β (zu (ouA ω (μ 17) (paL σ 8 (σ (69 + f)))) ((μ 17 + ((paL σ 8 (σ (69 + f))).length : Int))) 47) (σ (149 + f)) (by first | omega | (simp only [zu, Int.reduceEq, reduceIte]; omega)) (by first | omega | (simp only [zu, Int.reduceEq, reduceIte]; omega))) (cwV 1 hts gX8_saysPath_X8_saysName rfl rfl rfl vdX8_saysName ⟨Nat.le_of_ble_eq_true rfl, Nat.le_of_ble_eq_true rfl⟩) (oB.recv hK hM.1 rfl) (W8.mu hM (by simp only [mV, zu, Int.reduceEq, reduceIte])) hK hS (fun _ h => h) rfl hl.1 rfl dX8_saysPath_30 hcs (Nat.le_of_ble_eq_true rfl) (fun H locs hnew hsz hoth hS => ?_)
    have hM : W8 G o [.ref (o 1), .ref (o 2), .ref (o 3), .int (iI (μ 3)), .int (iI (μ 4)), .ref (o 4), .int (iI (μ 6)), .int (iI (μ 7)), .int (iI (μ 8)), .int (iI (μ 9)), .int (iI (μ 10)), .int (iI (μ 11)), .int (iI (μ 12)), .int (iI (μ 13)), .int (iI (μ 14)), .long (iL (μ 15)), .ref (o 5), .int (iI (((μ 17 + ((paL σ 8 (σ (69 + f))).length : Int)) + 1) + ((naL 7 (σ (149 + f))).length : Int)))] σ φ κ β (ouA (zu (ouA ω (μ 17) (paL σ 8 (σ (69 + f)))) ((μ 17 + ((paL σ 8 (σ (69 + f))).length : Int))) 47) (((μ 17 + ((paL σ 8 (σ (69 + f))).length : Int)) + 1)) (naL 7 (σ (149 + f)))) H := W8.eq hnew (by simp only [mV, zu, Int.reduceEq, reduceIte])
    exact z_retWv E hr (by rw [show paL σ 9 f = paL σ 8 (σ (69 + f)) ++ [47] ++ naL 7 (σ (149 + f)) from if_pos (by omega), ← ouA_3]; exact W8.mu hM (by rw [← ouA_l3]; simp only [mV, zu, Int.reduceEq, reduceIte])) hS hlocks dX8_saysPath_33
set_option maxHeartbeats 1000000 in
set_option maxRecDepth 100000 in
theorem mX8_saysPath10 (lL : Launch) (G : GG) (o : Nat → Nat) (μ σ φ κ β ω : Int → Int) (f : Int) (hI : In σ) (hf : 0 ≤ f ∧ f < σ 2) (hd : dpF σ f ≤ 11) (hm : 0 ≤ μ 17 ∧ μ 17 + 99 ≤ 400) : Met lL yX8_saysPath wsX8_saysPath ({ frames := 19, cells := 0, slots := 0, locals := 407 } : Room) (va_Pc [.ref (o 0), .int (iI f)] (fun U => W8 G o (mV o μ) σ φ κ β ω U.heap ∧ KK G U)) (va_Qv (fun _ : Unit => True) (fun _ tZ => W8 G o (mV o (zu μ 17 (μ 17 + ((paL σ 10 f).length : Int)))) σ φ κ β (ouA ω (μ 17) (paL σ 10 f)) tZ.heap) (Ax o 6)) 0 0 (Ax o 6) := by
  refine z_met (P := (fun H : Heap => W8 G o (mV o μ) σ φ κ β ω H)) (by decide) rfl (Nat.le_of_ble_eq_true rfl) (fun pp ee ss mm below meth cC E hr hml hown hts hlocks hM hK ls hl => ?_)
  have hl : lv_has ls 2 [(0, .ref (o 0)), (1, .int (iI f))] := hl
  have hcs : 0 ≤ (({ frames := 19, cells := 0, slots := 0, locals := 407 } : Room)).cells ∧ 0 ≤ (({ frames := 19, cells := 0, slots := 0, locals := 407 } : Room)).slots := ⟨Nat.zero_le _, Nat.zero_le _⟩
  have hS : va_S (Ax o 6) ss.heap ss.heap [] := va_S.rf
  have hin8 : ∀ w ∈ wsX80, w ∈ wsX8_saysPath := fun w h => List.mem_cons_of_mem _ (List.mem_append_right _ (h))
  have hF := hI.F
  have hMm := hI.M
  have hGn := hI.Gn
  have hnk := nmk_b (hI.nam hf.1 hf.2)
  have e9 := dpF_s hI.cs hf.1 hf.2
  refine lv_iload_n (pc := 0) E.1 E.2 dX8_saysPath_0 rfl (lv_at hl 1 rfl) ?_
  refine z_if_le (pc := 1) (tgt := 19) E ⟨by omega, by omega⟩ dX8_saysPath_1 (by decide) (fun h1 => ?_) (fun h1 => ?_)
  · refine lv_aload_n (pc := 19) E.1 E.2 dX8_saysPath_19 rfl (lv_at hl 0 rfl) ?_
    refine lv_aload_n (pc := 20) E.1 E.2 dX8_saysPath_20 rfl (lv_at hl 0 rfl) ?_
    refine g8_0 (pc := 21) E hts hin8 hown hK hM.1 (hts _ (List.mem_of_getElem? (i := 1) rfl)) dX8_saysPath_21 ?_
    refine z_sipush (pc := 24) E (by decide) dX8_saysPath_24 ?_
    refine lv_iload_n (pc := 27) E.1 E.2 dX8_saysPath_27 rfl (lv_at hl 1 rfl) ?_
    refine z_iadd (pc := 28) E dX8_saysPath_28 ?_
    refine z_laload (pc := 29) E hK hM.2.1 ⟨by omega, by omega⟩ (by decide) dX8_saysPath_29 ?_
    have hb29 := hI.bd (149 + f)
    refine z_wVv (pc := 30) (As := [.long (iL (σ (149 + f)))]) (rest := []) E hml hown hts (mX8_saysName7 lL G o μ σ φ κ β ω (σ (149 + f)) (by omega) (by omega)) (cwV 1 hts gX8_saysPath_X8_saysName rfl rfl rfl vdX8_saysName ⟨Nat.le_of_ble_eq_true rfl, Nat.le_of_ble_eq_true rfl⟩) (oB.recv hK hM.1 rfl) hM hK hS (fun _ h => h) rfl hl.1 rfl dX8_saysPath_30 hcs (Nat.le_of_ble_eq_true rfl) (fun H locs hnew hsz hoth hS => ?_)
    have hM : W8 G o [.ref (o 1), .ref (o 2), .ref (o 3), .int (iI (μ 3)), .int (iI (μ 4)), .ref (o 4), .int (iI (μ 6)), .int (iI (μ 7)), .int (iI (μ 8)), .int (iI (μ 9)), .int (iI (μ 10)), .int (iI (μ 11)), .int (iI (μ 12)), .int (iI (μ 13)), .int (iI (μ 14)), .long (iL (μ 15)), .ref (o 5), .int (iI (μ 17 + ((naL 7 (σ (149 + f))).length : Int)))] σ φ κ β (ouA ω (μ 17) (naL 7 (σ (149 + f)))) H := W8.eq hnew (by simp only [mV, zu, Int.reduceEq, reduceIte])
    exact z_retWv E hr (by rw [show paL σ 10 f = naL 7 (σ (149 + f)) from if_neg (by omega)]; exact W8.mu hM (by simp only [mV, zu, Int.reduceEq, reduceIte])) hS hlocks dX8_saysPath_33
  · have hp1 := hI.par1 (f := f) (by omega) hf.2
    refine lv_aload_n (pc := 4) E.1 E.2 dX8_saysPath_4 rfl (lv_at hl 0 rfl) ?_
    refine lv_aload_n (pc := 5) E.1 E.2 dX8_saysPath_5 rfl (lv_at hl 0 rfl) ?_
    refine lv_iload_n (pc := 6) E.1 E.2 dX8_saysPath_6 rfl (lv_at hl 1 rfl) ?_
    refine z_rVi (pc := 7) (As := [.int (iI f)]) (rest := [.ref (o 0)]) E hml hown hts (mX8_parentOf lL G o μ σ φ κ β ω f (by omega)) (cwV 1 hts gX8_saysPath_X8_parentOf rfl rfl rfl vdX8_parentOf ⟨Nat.le_of_ble_eq_true rfl, Nat.le_of_ble_eq_true rfl⟩) (oB.recv hK hM.1 rfl) hM hK rfl hl.1 rfl dX8_saysPath_7 hcs (Nat.le_of_ble_eq_true rfl) ?_
    refine z_wVv (pc := 10) (As := [.int (iI (σ (69 + f)))]) (rest := []) E hml hown hts (mX8_saysPath9 lL G o μ σ φ κ β ω (σ (69 + f)) hI (by omega) (by omega) (by omega)) (cwV 1 hts gX8_saysPath_X8_saysPath rfl rfl rfl vdX8_saysPath ⟨Nat.le_of_ble_eq_true rfl, Nat.le_of_ble_eq_true rfl⟩) (oB.recv hK hM.1 rfl) hM hK hS (fun _ h => h) rfl hl.1 rfl dX8_saysPath_10 hcs (Nat.le_of_ble_eq_true rfl) (fun H locs hnew hsz hoth hS => ?_)
    have hM : W8 G o [.ref (o 1), .ref (o 2), .ref (o 3), .int (iI (μ 3)), .int (iI (μ 4)), .ref (o 4), .int (iI (μ 6)), .int (iI (μ 7)), .int (iI (μ 8)), .int (iI (μ 9)), .int (iI (μ 10)), .int (iI (μ 11)), .int (iI (μ 12)), .int (iI (μ 13)), .int (iI (μ 14)), .long (iL (μ 15)), .ref (o 5), .int (iI (μ 17 + ((paL σ 9 (σ (69 + f))).length : Int)))] σ φ κ β (ouA ω (μ 17) (paL σ 9 (σ (69 + f)))) H := W8.eq hnew (by simp only [mV, zu, Int.reduceEq, reduceIte])
    have hlb := paL_b σ 9 (σ (69 + f))
    refine lv_aload_n (pc := 13) E.1 E.2 dX8_saysPath_13 rfl (lv_at hl 0 rfl) ?_
    refine z_bipush (pc := 14) E (by decide) dX8_saysPath_14 ?_
    refine z_wVv (pc := 16) (As := [.int (iI 47)]) (rest := []) E hml hown hts (mX8_says lL G o (zu μ 17 (μ 17 + ((paL σ 9 (σ (69 + f))).length : Int))) σ φ κ β (ouA ω (μ 17) (paL σ 9 (σ (69 + f)))) 47 (by first | omega | (simp only [zu, Int.reduceEq, reduceIte]; omega)) (by first | omega | (simp only [zu, Int.reduceEq, reduceIte]; omega))) (cwV 1 hts gX8_saysPath_X8_says rfl rfl rfl vdX8_says ⟨Nat.le_of_ble_eq_true rfl, Nat.le_of_ble_eq_true rfl⟩) (oB.recv hK hM.1 rfl) (W8.mu hM (by simp only [mV, zu, Int.reduceEq, reduceIte])) hK hS (fun _ h => h) rfl hl.1 rfl dX8_saysPath_16 hcs (Nat.le_of_ble_eq_true rfl) (fun H locs hnew hsz hoth hS => ?_)
    have hM : W8 G o [.ref (o 1), .ref (o 2), .ref (o 3), .int (iI (μ 3)), .int (iI (μ 4)), .ref (o 4), .int (iI (μ 6)), .int (iI (μ 7)), .int (iI (μ 8)), .int (iI (μ 9)), .int (iI (μ 10)), .int (iI (μ 11)), .int (iI (μ 12)), .int (iI (μ 13)), .int (iI (μ 14)), .long (iL (μ 15)), .ref (o 5), .int (iI ((μ 17 + ((paL σ 9 (σ (69 + f))).length : Int)) + 1))] σ φ κ β (zu (ouA ω (μ 17) (paL σ 9 (σ (69 + f)))) ((μ 17 + ((paL σ 9 (σ (69 + f))).length : Int))) 47) H := W8.eq hnew (by simp only [mV, zu, Int.reduceEq, reduceIte])
    refine lv_aload_n (pc := 19) E.1 E.2 dX8_saysPath_19 rfl (lv_at hl 0 rfl) ?_
    refine lv_aload_n (pc := 20) E.1 E.2 dX8_saysPath_20 rfl (lv_at hl 0 rfl) ?_
    refine g8_0 (pc := 21) E hts hin8 hown hK hM.1 (hts _ (List.mem_of_getElem? (i := 1) rfl)) dX8_saysPath_21 ?_
    refine z_sipush (pc := 24) E (by decide) dX8_saysPath_24 ?_
    refine lv_iload_n (pc := 27) E.1 E.2 dX8_saysPath_27 rfl (lv_at hl 1 rfl) ?_
    refine z_iadd (pc := 28) E dX8_saysPath_28 ?_
    refine z_laload (pc := 29) E hK hM.2.1 ⟨by omega, by omega⟩ (by decide) dX8_saysPath_29 ?_
    have hb29 := hI.bd (149 + f)
    refine z_wVv (pc := 30) (As := [.long (iL (σ (149 + f)))]) (rest := []) E hml hown hts (mX8_saysName7 lL G o (zu (zu μ 17 (μ 17 + ((paL σ 9 (σ (69 + f))).length : Int))) 17 ((μ 17 + ((paL σ 9 (σ (69 + f))).length : Int)) + 1)) σ φ κ β (zu (ouA ω (μ 17) (paL σ 9 (σ (69 + f)))) ((μ 17 + ((paL σ 9 (σ (69 + f))).length : Int))) 47) (σ (149 + f)) (by first | omega | (simp only [zu, Int.reduceEq, reduceIte]; omega)) (by first | omega | (simp only [zu, Int.reduceEq, reduceIte]; omega))) (cwV 1 hts gX8_saysPath_X8_saysName rfl rfl rfl vdX8_saysName ⟨Nat.le_of_ble_eq_true rfl, Nat.le_of_ble_eq_true rfl⟩) (oB.recv hK hM.1 rfl) (W8.mu hM (by simp only [mV, zu, Int.reduceEq, reduceIte])) hK hS (fun _ h => h) rfl hl.1 rfl dX8_saysPath_30 hcs (Nat.le_of_ble_eq_true rfl) (fun H locs hnew hsz hoth hS => ?_)
    have hM : W8 G o [.ref (o 1), .ref (o 2), .ref (o 3), .int (iI (μ 3)), .int (iI (μ 4)), .ref (o 4), .int (iI (μ 6)), .int (iI (μ 7)), .int (iI (μ 8)), .int (iI (μ 9)), .int (iI (μ 10)), .int (iI (μ 11)), .int (iI (μ 12)), .int (iI (μ 13)), .int (iI (μ 14)), .long (iL (μ 15)), .ref (o 5), .int (iI (((μ 17 + ((paL σ 9 (σ (69 + f))).length : Int)) + 1) + ((naL 7 (σ (149 + f))).length : Int)))] σ φ κ β (ouA (zu (ouA ω (μ 17) (paL σ 9 (σ (69 + f)))) ((μ 17 + ((paL σ 9 (σ (69 + f))).length : Int))) 47) (((μ 17 + ((paL σ 9 (σ (69 + f))).length : Int)) + 1)) (naL 7 (σ (149 + f)))) H := W8.eq hnew (by simp only [mV, zu, Int.reduceEq, reduceIte])
    exact z_retWv E hr (by rw [show paL σ 10 f = paL σ 9 (σ (69 + f)) ++ [47] ++ naL 7 (σ (149 + f)) from if_pos (by omega), ← ouA_3]; exact W8.mu hM (by rw [← ouA_l3]; simp only [mV, zu, Int.reduceEq, reduceIte])) hS hlocks dX8_saysPath_33
set_option maxHeartbeats 1000000 in
set_option maxRecDepth 100000 in
theorem mX8_saysPath11 (lL : Launch) (G : GG) (o : Nat → Nat) (μ σ φ κ β ω : Int → Int) (f : Int) (hI : In σ) (hf : 0 ≤ f ∧ f < σ 2) (hd : dpF σ f ≤ 12) (hm : 0 ≤ μ 17 ∧ μ 17 + 108 ≤ 400) : Met lL yX8_saysPath wsX8_saysPath ({ frames := 20, cells := 0, slots := 0, locals := 428 } : Room) (va_Pc [.ref (o 0), .int (iI f)] (fun U => W8 G o (mV o μ) σ φ κ β ω U.heap ∧ KK G U)) (va_Qv (fun _ : Unit => True) (fun _ tZ => W8 G o (mV o (zu μ 17 (μ 17 + ((paL σ 11 f).length : Int)))) σ φ κ β (ouA ω (μ 17) (paL σ 11 f)) tZ.heap) (Ax o 6)) 0 0 (Ax o 6) := by
  refine z_met (P := (fun H : Heap => W8 G o (mV o μ) σ φ κ β ω H)) (by decide) rfl (Nat.le_of_ble_eq_true rfl) (fun pp ee ss mm below meth cC E hr hml hown hts hlocks hM hK ls hl => ?_)
  have hl : lv_has ls 2 [(0, .ref (o 0)), (1, .int (iI f))] := hl
  have hcs : 0 ≤ (({ frames := 20, cells := 0, slots := 0, locals := 428 } : Room)).cells ∧ 0 ≤ (({ frames := 20, cells := 0, slots := 0, locals := 428 } : Room)).slots := ⟨Nat.zero_le _, Nat.zero_le _⟩
  have hS : va_S (Ax o 6) ss.heap ss.heap [] := va_S.rf
  have hin8 : ∀ w ∈ wsX80, w ∈ wsX8_saysPath := fun w h => List.mem_cons_of_mem _ (List.mem_append_right _ (h))
  have hF := hI.F
  have hMm := hI.M
  have hGn := hI.Gn
  have hnk := nmk_b (hI.nam hf.1 hf.2)
  have e9 := dpF_s hI.cs hf.1 hf.2
  refine lv_iload_n (pc := 0) E.1 E.2 dX8_saysPath_0 rfl (lv_at hl 1 rfl) ?_
  refine z_if_le (pc := 1) (tgt := 19) E ⟨by omega, by omega⟩ dX8_saysPath_1 (by decide) (fun h1 => ?_) (fun h1 => ?_)
  · refine lv_aload_n (pc := 19) E.1 E.2 dX8_saysPath_19 rfl (lv_at hl 0 rfl) ?_
    refine lv_aload_n (pc := 20) E.1 E.2 dX8_saysPath_20 rfl (lv_at hl 0 rfl) ?_
    refine g8_0 (pc := 21) E hts hin8 hown hK hM.1 (hts _ (List.mem_of_getElem? (i := 1) rfl)) dX8_saysPath_21 ?_
    refine z_sipush (pc := 24) E (by decide) dX8_saysPath_24 ?_
    refine lv_iload_n (pc := 27) E.1 E.2 dX8_saysPath_27 rfl (lv_at hl 1 rfl) ?_
    refine z_iadd (pc := 28) E dX8_saysPath_28 ?_
    refine z_laload (pc := 29) E hK hM.2.1 ⟨by omega, by omega⟩ (by decide) dX8_saysPath_29 ?_
    have hb29 := hI.bd (149 + f)
    refine z_wVv (pc := 30) (As := [.long (iL (σ (149 + f)))]) (rest := []) E hml hown hts (mX8_saysName7 lL G o μ σ φ κ β ω (σ (149 + f)) (by omega) (by omega)) (cwV 1 hts gX8_saysPath_X8_saysName rfl rfl rfl vdX8_saysName ⟨Nat.le_of_ble_eq_true rfl, Nat.le_of_ble_eq_true rfl⟩) (oB.recv hK hM.1 rfl) hM hK hS (fun _ h => h) rfl hl.1 rfl dX8_saysPath_30 hcs (Nat.le_of_ble_eq_true rfl) (fun H locs hnew hsz hoth hS => ?_)
    have hM : W8 G o [.ref (o 1), .ref (o 2), .ref (o 3), .int (iI (μ 3)), .int (iI (μ 4)), .ref (o 4), .int (iI (μ 6)), .int (iI (μ 7)), .int (iI (μ 8)), .int (iI (μ 9)), .int (iI (μ 10)), .int (iI (μ 11)), .int (iI (μ 12)), .int (iI (μ 13)), .int (iI (μ 14)), .long (iL (μ 15)), .ref (o 5), .int (iI (μ 17 + ((naL 7 (σ (149 + f))).length : Int)))] σ φ κ β (ouA ω (μ 17) (naL 7 (σ (149 + f)))) H := W8.eq hnew (by simp only [mV, zu, Int.reduceEq, reduceIte])
    exact z_retWv E hr (by rw [show paL σ 11 f = naL 7 (σ (149 + f)) from if_neg (by omega)]; exact W8.mu hM (by simp only [mV, zu, Int.reduceEq, reduceIte])) hS hlocks dX8_saysPath_33
  · have hp1 := hI.par1 (f := f) (by omega) hf.2
    refine lv_aload_n (pc := 4) E.1 E.2 dX8_saysPath_4 rfl (lv_at hl 0 rfl) ?_
    refine lv_aload_n (pc := 5) E.1 E.2 dX8_saysPath_5 rfl (lv_at hl 0 rfl) ?_
    refine lv_iload_n (pc := 6) E.1 E.2 dX8_saysPath_6 rfl (lv_at hl 1 rfl) ?_
    refine z_rVi (pc := 7) (As := [.int (iI f)]) (rest := [.ref (o 0)]) E hml hown hts (mX8_parentOf lL G o μ σ φ κ β ω f (by omega)) (cwV 1 hts gX8_saysPath_X8_parentOf rfl rfl rfl vdX8_parentOf ⟨Nat.le_of_ble_eq_true rfl, Nat.le_of_ble_eq_true rfl⟩) (oB.recv hK hM.1 rfl) hM hK rfl hl.1 rfl dX8_saysPath_7 hcs (Nat.le_of_ble_eq_true rfl) ?_
    refine z_wVv (pc := 10) (As := [.int (iI (σ (69 + f)))]) (rest := []) E hml hown hts (mX8_saysPath10 lL G o μ σ φ κ β ω (σ (69 + f)) hI (by omega) (by omega) (by omega)) (cwV 1 hts gX8_saysPath_X8_saysPath rfl rfl rfl vdX8_saysPath ⟨Nat.le_of_ble_eq_true rfl, Nat.le_of_ble_eq_true rfl⟩) (oB.recv hK hM.1 rfl) hM hK hS (fun _ h => h) rfl hl.1 rfl dX8_saysPath_10 hcs (Nat.le_of_ble_eq_true rfl) (fun H locs hnew hsz hoth hS => ?_)
    have hM : W8 G o [.ref (o 1), .ref (o 2), .ref (o 3), .int (iI (μ 3)), .int (iI (μ 4)), .ref (o 4), .int (iI (μ 6)), .int (iI (μ 7)), .int (iI (μ 8)), .int (iI (μ 9)), .int (iI (μ 10)), .int (iI (μ 11)), .int (iI (μ 12)), .int (iI (μ 13)), .int (iI (μ 14)), .long (iL (μ 15)), .ref (o 5), .int (iI (μ 17 + ((paL σ 10 (σ (69 + f))).length : Int)))] σ φ κ β (ouA ω (μ 17) (paL σ 10 (σ (69 + f)))) H := W8.eq hnew (by simp only [mV, zu, Int.reduceEq, reduceIte])
    have hlb := paL_b σ 10 (σ (69 + f))
    refine lv_aload_n (pc := 13) E.1 E.2 dX8_saysPath_13 rfl (lv_at hl 0 rfl) ?_
    refine z_bipush (pc := 14) E (by decide) dX8_saysPath_14 ?_
    refine z_wVv (pc := 16) (As := [.int (iI 47)]) (rest := []) E hml hown hts (mX8_says lL G o (zu μ 17 (μ 17 + ((paL σ 10 (σ (69 + f))).length : Int))) σ φ κ β (ouA ω (μ 17) (paL σ 10 (σ (69 + f)))) 47 (by first | omega | (simp only [zu, Int.reduceEq, reduceIte]; omega)) (by first | omega | (simp only [zu, Int.reduceEq, reduceIte]; omega))) (cwV 1 hts gX8_saysPath_X8_says rfl rfl rfl vdX8_says ⟨Nat.le_of_ble_eq_true rfl, Nat.le_of_ble_eq_true rfl⟩) (oB.recv hK hM.1 rfl) (W8.mu hM (by simp only [mV, zu, Int.reduceEq, reduceIte])) hK hS (fun _ h => h) rfl hl.1 rfl dX8_saysPath_16 hcs (Nat.le_of_ble_eq_true rfl) (fun H locs hnew hsz hoth hS => ?_)
    have hM : W8 G o [.ref (o 1), .ref (o 2), .ref (o 3), .int (iI (μ 3)), .int (iI (μ 4)), .ref (o 4), .int (iI (μ 6)), .int (iI (μ 7)), .int (iI (μ 8)), .int (iI (μ 9)), .int (iI (μ 10)), .int (iI (μ 11)), .int (iI (μ 12)), .int (iI (μ 13)), .int (iI (μ 14)), .long (iL (μ 15)), .ref (o 5), .int (iI ((μ 17 + ((paL σ 10 (σ (69 + f))).length : Int)) + 1))] σ φ κ β (zu (ouA ω (μ 17) (paL σ 10 (σ (69 + f)))) ((μ 17 + ((paL σ 10 (σ (69 + f))).length : Int))) 47) H := W8.eq hnew (by simp only [mV, zu, Int.reduceEq, reduceIte])
    refine lv_aload_n (pc := 19) E.1 E.2 dX8_saysPath_19 rfl (lv_at hl 0 rfl) ?_
    refine lv_aload_n (pc := 20) E.1 E.2 dX8_saysPath_20 rfl (lv_at hl 0 rfl) ?_
    refine g8_0 (pc := 21) E hts hin8 hown hK hM.1 (hts _ (List.mem_of_getElem? (i := 1) rfl)) dX8_saysPath_21 ?_
    refine z_sipush (pc := 24) E (by decide) dX8_saysPath_24 ?_
    refine lv_iload_n (pc := 27) E.1 E.2 dX8_saysPath_27 rfl (lv_at hl 1 rfl) ?_
    refine z_iadd (pc := 28) E dX8_saysPath_28 ?_
    refine z_laload (pc := 29) E hK hM.2.1 ⟨by omega, by omega⟩ (by decide) dX8_saysPath_29 ?_
    have hb29 := hI.bd (149 + f)
    refine z_wVv (pc := 30) (As := [.long (iL (σ (149 + f)))]) (rest := []) E hml hown hts (mX8_saysName7 lL G o (zu (zu μ 17 (μ 17 + ((paL σ 10 (σ (69 + f))).length : Int))) 17 ((μ 17 + ((paL σ 10 (σ (69 + f))).length : Int)) + 1)) σ φ κ β (zu (ouA ω (μ 17) (paL σ 10 (σ (69 + f)))) ((μ 17 + ((paL σ 10 (σ (69 + f))).length : Int))) 47) (σ (149 + f)) (by first | omega | (simp only [zu, Int.reduceEq, reduceIte]; omega)) (by first | omega | (simp only [zu, Int.reduceEq, reduceIte]; omega))) (cwV 1 hts gX8_saysPath_X8_saysName rfl rfl rfl vdX8_saysName ⟨Nat.le_of_ble_eq_true rfl, Nat.le_of_ble_eq_true rfl⟩) (oB.recv hK hM.1 rfl) (W8.mu hM (by simp only [mV, zu, Int.reduceEq, reduceIte])) hK hS (fun _ h => h) rfl hl.1 rfl dX8_saysPath_30 hcs (Nat.le_of_ble_eq_true rfl) (fun H locs hnew hsz hoth hS => ?_)
    have hM : W8 G o [.ref (o 1), .ref (o 2), .ref (o 3), .int (iI (μ 3)), .int (iI (μ 4)), .ref (o 4), .int (iI (μ 6)), .int (iI (μ 7)), .int (iI (μ 8)), .int (iI (μ 9)), .int (iI (μ 10)), .int (iI (μ 11)), .int (iI (μ 12)), .int (iI (μ 13)), .int (iI (μ 14)), .long (iL (μ 15)), .ref (o 5), .int (iI (((μ 17 + ((paL σ 10 (σ (69 + f))).length : Int)) + 1) + ((naL 7 (σ (149 + f))).length : Int)))] σ φ κ β (ouA (zu (ouA ω (μ 17) (paL σ 10 (σ (69 + f)))) ((μ 17 + ((paL σ 10 (σ (69 + f))).length : Int))) 47) (((μ 17 + ((paL σ 10 (σ (69 + f))).length : Int)) + 1)) (naL 7 (σ (149 + f)))) H := W8.eq hnew (by simp only [mV, zu, Int.reduceEq, reduceIte])
    exact z_retWv E hr (by rw [show paL σ 11 f = paL σ 10 (σ (69 + f)) ++ [47] ++ naL 7 (σ (149 + f)) from if_pos (by omega), ← ouA_3]; exact W8.mu hM (by rw [← ouA_l3]; simp only [mV, zu, Int.reduceEq, reduceIte])) hS hlocks dX8_saysPath_33
set_option maxHeartbeats 1000000 in
set_option maxRecDepth 100000 in
theorem mX8_saysPath12 (lL : Launch) (G : GG) (o : Nat → Nat) (μ σ φ κ β ω : Int → Int) (f : Int) (hI : In σ) (hf : 0 ≤ f ∧ f < σ 2) (hd : dpF σ f ≤ 13) (hm : 0 ≤ μ 17 ∧ μ 17 + 117 ≤ 400) : Met lL yX8_saysPath wsX8_saysPath ({ frames := 21, cells := 0, slots := 0, locals := 449 } : Room) (va_Pc [.ref (o 0), .int (iI f)] (fun U => W8 G o (mV o μ) σ φ κ β ω U.heap ∧ KK G U)) (va_Qv (fun _ : Unit => True) (fun _ tZ => W8 G o (mV o (zu μ 17 (μ 17 + ((paL σ 12 f).length : Int)))) σ φ κ β (ouA ω (μ 17) (paL σ 12 f)) tZ.heap) (Ax o 6)) 0 0 (Ax o 6) := by
  refine z_met (P := (fun H : Heap => W8 G o (mV o μ) σ φ κ β ω H)) (by decide) rfl (Nat.le_of_ble_eq_true rfl) (fun pp ee ss mm below meth cC E hr hml hown hts hlocks hM hK ls hl => ?_)
  have hl : lv_has ls 2 [(0, .ref (o 0)), (1, .int (iI f))] := hl
  have hcs : 0 ≤ (({ frames := 21, cells := 0, slots := 0, locals := 449 } : Room)).cells ∧ 0 ≤ (({ frames := 21, cells := 0, slots := 0, locals := 449 } : Room)).slots := ⟨Nat.zero_le _, Nat.zero_le _⟩
  have hS : va_S (Ax o 6) ss.heap ss.heap [] := va_S.rf
  have hin8 : ∀ w ∈ wsX80, w ∈ wsX8_saysPath := fun w h => List.mem_cons_of_mem _ (List.mem_append_right _ (h))
  have hF := hI.F
  have hMm := hI.M
  have hGn := hI.Gn
  have hnk := nmk_b (hI.nam hf.1 hf.2)
  have e9 := dpF_s hI.cs hf.1 hf.2
  refine lv_iload_n (pc := 0) E.1 E.2 dX8_saysPath_0 rfl (lv_at hl 1 rfl) ?_
  refine z_if_le (pc := 1) (tgt := 19) E ⟨by omega, by omega⟩ dX8_saysPath_1 (by decide) (fun h1 => ?_) (fun h1 => ?_)
  · refine lv_aload_n (pc := 19) E.1 E.2 dX8_saysPath_19 rfl (lv_at hl 0 rfl) ?_
    refine lv_aload_n (pc := 20) E.1 E.2 dX8_saysPath_20 rfl (lv_at hl 0 rfl) ?_
    refine g8_0 (pc := 21) E hts hin8 hown hK hM.1 (hts _ (List.mem_of_getElem? (i := 1) rfl)) dX8_saysPath_21 ?_
    refine z_sipush (pc := 24) E (by decide) dX8_saysPath_24 ?_
    refine lv_iload_n (pc := 27) E.1 E.2 dX8_saysPath_27 rfl (lv_at hl 1 rfl) ?_
    refine z_iadd (pc := 28) E dX8_saysPath_28 ?_
    refine z_laload (pc := 29) E hK hM.2.1 ⟨by omega, by omega⟩ (by decide) dX8_saysPath_29 ?_
    have hb29 := hI.bd (149 + f)
    refine z_wVv (pc := 30) (As := [.long (iL (σ (149 + f)))]) (rest := []) E hml hown hts (mX8_saysName7 lL G o μ σ φ κ β ω (σ (149 + f)) (by omega) (by omega)) (cwV 1 hts gX8_saysPath_X8_saysName rfl rfl rfl vdX8_saysName ⟨Nat.le_of_ble_eq_true rfl, Nat.le_of_ble_eq_true rfl⟩) (oB.recv hK hM.1 rfl) hM hK hS (fun _ h => h) rfl hl.1 rfl dX8_saysPath_30 hcs (Nat.le_of_ble_eq_true rfl) (fun H locs hnew hsz hoth hS => ?_)
    have hM : W8 G o [.ref (o 1), .ref (o 2), .ref (o 3), .int (iI (μ 3)), .int (iI (μ 4)), .ref (o 4), .int (iI (μ 6)), .int (iI (μ 7)), .int (iI (μ 8)), .int (iI (μ 9)), .int (iI (μ 10)), .int (iI (μ 11)), .int (iI (μ 12)), .int (iI (μ 13)), .int (iI (μ 14)), .long (iL (μ 15)), .ref (o 5), .int (iI (μ 17 + ((naL 7 (σ (149 + f))).length : Int)))] σ φ κ β (ouA ω (μ 17) (naL 7 (σ (149 + f)))) H := W8.eq hnew (by simp only [mV, zu, Int.reduceEq, reduceIte])
    exact z_retWv E hr (by rw [show paL σ 12 f = naL 7 (σ (149 + f)) from if_neg (by omega)]; exact W8.mu hM (by simp only [mV, zu, Int.reduceEq, reduceIte])) hS hlocks dX8_saysPath_33
  · have hp1 := hI.par1 (f := f) (by omega) hf.2
    refine lv_aload_n (pc := 4) E.1 E.2 dX8_saysPath_4 rfl (lv_at hl 0 rfl) ?_
    refine lv_aload_n (pc := 5) E.1 E.2 dX8_saysPath_5 rfl (lv_at hl 0 rfl) ?_
    refine lv_iload_n (pc := 6) E.1 E.2 dX8_saysPath_6 rfl (lv_at hl 1 rfl) ?_
    refine z_rVi (pc := 7) (As := [.int (iI f)]) (rest := [.ref (o 0)]) E hml hown hts (mX8_parentOf lL G o μ σ φ κ β ω f (by omega)) (cwV 1 hts gX8_saysPath_X8_parentOf rfl rfl rfl vdX8_parentOf ⟨Nat.le_of_ble_eq_true rfl, Nat.le_of_ble_eq_true rfl⟩) (oB.recv hK hM.1 rfl) hM hK rfl hl.1 rfl dX8_saysPath_7 hcs (Nat.le_of_ble_eq_true rfl) ?_
    refine z_wVv (pc := 10) (As := [.int (iI (σ (69 + f)))]) (rest := []) E hml hown hts (mX8_saysPath11 lL G o μ σ φ κ β ω (σ (69 + f)) hI (by omega) (by omega) (by omega)) (cwV 1 hts gX8_saysPath_X8_saysPath rfl rfl rfl vdX8_saysPath ⟨Nat.le_of_ble_eq_true rfl, Nat.le_of_ble_eq_true rfl⟩) (oB.recv hK hM.1 rfl) hM hK hS (fun _ h => h) rfl hl.1 rfl dX8_saysPath_10 hcs (Nat.le_of_ble_eq_true rfl) (fun H locs hnew hsz hoth hS => ?_)
    have hM : W8 G o [.ref (o 1), .ref (o 2), .ref (o 3), .int (iI (μ 3)), .int (iI (μ 4)), .ref (o 4), .int (iI (μ 6)), .int (iI (μ 7)), .int (iI (μ 8)), .int (iI (μ 9)), .int (iI (μ 10)), .int (iI (μ 11)), .int (iI (μ 12)), .int (iI (μ 13)), .int (iI (μ 14)), .long (iL (μ 15)), .ref (o 5), .int (iI (μ 17 + ((paL σ 11 (σ (69 + f))).length : Int)))] σ φ κ β (ouA ω (μ 17) (paL σ 11 (σ (69 + f)))) H := W8.eq hnew (by simp only [mV, zu, Int.reduceEq, reduceIte])
    have hlb := paL_b σ 11 (σ (69 + f))
    refine lv_aload_n (pc := 13) E.1 E.2 dX8_saysPath_13 rfl (lv_at hl 0 rfl) ?_
    refine z_bipush (pc := 14) E (by decide) dX8_saysPath_14 ?_
    refine z_wVv (pc := 16) (As := [.int (iI 47)]) (rest := []) E hml hown hts (mX8_says lL G o (zu μ 17 (μ 17 + ((paL σ 11 (σ (69 + f))).length : Int))) σ φ κ β (ouA ω (μ 17) (paL σ 11 (σ (69 + f)))) 47 (by first | omega | (simp only [zu, Int.reduceEq, reduceIte]; omega)) (by first | omega | (simp only [zu, Int.reduceEq, reduceIte]; omega))) (cwV 1 hts gX8_saysPath_X8_says rfl rfl rfl vdX8_says ⟨Nat.le_of_ble_eq_true rfl, Nat.le_of_ble_eq_true rfl⟩) (oB.recv hK hM.1 rfl) (W8.mu hM (by simp only [mV, zu, Int.reduceEq, reduceIte])) hK hS (fun _ h => h) rfl hl.1 rfl dX8_saysPath_16 hcs (Nat.le_of_ble_eq_true rfl) (fun H locs hnew hsz hoth hS => ?_)
    have hM : W8 G o [.ref (o 1), .ref (o 2), .ref (o 3), .int (iI (μ 3)), .int (iI (μ 4)), .ref (o 4), .int (iI (μ 6)), .int (iI (μ 7)), .int (iI (μ 8)), .int (iI (μ 9)), .int (iI (μ 10)), .int (iI (μ 11)), .int (iI (μ 12)), .int (iI (μ 13)), .int (iI (μ 14)), .long (iL (μ 15)), .ref (o 5), .int (iI ((μ 17 + ((paL σ 11 (σ (69 + f))).length : Int)) + 1))] σ φ κ β (zu (ouA ω (μ 17) (paL σ 11 (σ (69 + f)))) ((μ 17 + ((paL σ 11 (σ (69 + f))).length : Int))) 47) H := W8.eq hnew (by simp only [mV, zu, Int.reduceEq, reduceIte])
    refine lv_aload_n (pc := 19) E.1 E.2 dX8_saysPath_19 rfl (lv_at hl 0 rfl) ?_
    refine lv_aload_n (pc := 20) E.1 E.2 dX8_saysPath_20 rfl (lv_at hl 0 rfl) ?_
    refine g8_0 (pc := 21) E hts hin8 hown hK hM.1 (hts _ (List.mem_of_getElem? (i := 1) rfl)) dX8_saysPath_21 ?_
    refine z_sipush (pc := 24) E (by decide) dX8_saysPath_24 ?_
    refine lv_iload_n (pc := 27) E.1 E.2 dX8_saysPath_27 rfl (lv_at hl 1 rfl) ?_
    refine z_iadd (pc := 28) E dX8_saysPath_28 ?_
    refine z_laload (pc := 29) E hK hM.2.1 ⟨by omega, by omega⟩ (by decide) dX8_saysPath_29 ?_
    have hb29 := hI.bd (149 + f)
    refine z_wVv (pc := 30) (As := [.long (iL (σ (149 + f)))]) (rest := []) E hml hown hts (mX8_saysName7 lL G o (zu (zu μ 17 (μ 17 + ((paL σ 11 (σ (69 + f))).length : Int))) 17 ((μ 17 + ((paL σ 11 (σ (69 + f))).length : Int)) + 1)) σ φ κ β (zu (ouA ω (μ 17) (paL σ 11 (σ (69 + f)))) ((μ 17 + ((paL σ 11 (σ (69 + f))).length : Int))) 47) (σ (149 + f)) (by first | omega | (simp only [zu, Int.reduceEq, reduceIte]; omega)) (by first | omega | (simp only [zu, Int.reduceEq, reduceIte]; omega))) (cwV 1 hts gX8_saysPath_X8_saysName rfl rfl rfl vdX8_saysName ⟨Nat.le_of_ble_eq_true rfl, Nat.le_of_ble_eq_true rfl⟩) (oB.recv hK hM.1 rfl) (W8.mu hM (by simp only [mV, zu, Int.reduceEq, reduceIte])) hK hS (fun _ h => h) rfl hl.1 rfl dX8_saysPath_30 hcs (Nat.le_of_ble_eq_true rfl) (fun H locs hnew hsz hoth hS => ?_)
    have hM : W8 G o [.ref (o 1), .ref (o 2), .ref (o 3), .int (iI (μ 3)), .int (iI (μ 4)), .ref (o 4), .int (iI (μ 6)), .int (iI (μ 7)), .int (iI (μ 8)), .int (iI (μ 9)), .int (iI (μ 10)), .int (iI (μ 11)), .int (iI (μ 12)), .int (iI (μ 13)), .int (iI (μ 14)), .long (iL (μ 15)), .ref (o 5), .int (iI (((μ 17 + ((paL σ 11 (σ (69 + f))).length : Int)) + 1) + ((naL 7 (σ (149 + f))).length : Int)))] σ φ κ β (ouA (zu (ouA ω (μ 17) (paL σ 11 (σ (69 + f)))) ((μ 17 + ((paL σ 11 (σ (69 + f))).length : Int))) 47) (((μ 17 + ((paL σ 11 (σ (69 + f))).length : Int)) + 1)) (naL 7 (σ (149 + f)))) H := W8.eq hnew (by simp only [mV, zu, Int.reduceEq, reduceIte])
    exact z_retWv E hr (by rw [show paL σ 12 f = paL σ 11 (σ (69 + f)) ++ [47] ++ naL 7 (σ (149 + f)) from if_pos (by omega), ← ouA_3]; exact W8.mu hM (by rw [← ouA_l3]; simp only [mV, zu, Int.reduceEq, reduceIte])) hS hlocks dX8_saysPath_33
set_option maxHeartbeats 1000000 in
set_option maxRecDepth 100000 in
theorem mX8_saysPath13 (lL : Launch) (G : GG) (o : Nat → Nat) (μ σ φ κ β ω : Int → Int) (f : Int) (hI : In σ) (hf : 0 ≤ f ∧ f < σ 2) (hd : dpF σ f ≤ 14) (hm : 0 ≤ μ 17 ∧ μ 17 + 126 ≤ 400) : Met lL yX8_saysPath wsX8_saysPath ({ frames := 22, cells := 0, slots := 0, locals := 470 } : Room) (va_Pc [.ref (o 0), .int (iI f)] (fun U => W8 G o (mV o μ) σ φ κ β ω U.heap ∧ KK G U)) (va_Qv (fun _ : Unit => True) (fun _ tZ => W8 G o (mV o (zu μ 17 (μ 17 + ((paL σ 13 f).length : Int)))) σ φ κ β (ouA ω (μ 17) (paL σ 13 f)) tZ.heap) (Ax o 6)) 0 0 (Ax o 6) := by
  refine z_met (P := (fun H : Heap => W8 G o (mV o μ) σ φ κ β ω H)) (by decide) rfl (Nat.le_of_ble_eq_true rfl) (fun pp ee ss mm below meth cC E hr hml hown hts hlocks hM hK ls hl => ?_)
  have hl : lv_has ls 2 [(0, .ref (o 0)), (1, .int (iI f))] := hl
  have hcs : 0 ≤ (({ frames := 22, cells := 0, slots := 0, locals := 470 } : Room)).cells ∧ 0 ≤ (({ frames := 22, cells := 0, slots := 0, locals := 470 } : Room)).slots := ⟨Nat.zero_le _, Nat.zero_le _⟩
  have hS : va_S (Ax o 6) ss.heap ss.heap [] := va_S.rf
  have hin8 : ∀ w ∈ wsX80, w ∈ wsX8_saysPath := fun w h => List.mem_cons_of_mem _ (List.mem_append_right _ (h))
  have hF := hI.F
  have hMm := hI.M
  have hGn := hI.Gn
  have hnk := nmk_b (hI.nam hf.1 hf.2)
  have e9 := dpF_s hI.cs hf.1 hf.2
  refine lv_iload_n (pc := 0) E.1 E.2 dX8_saysPath_0 rfl (lv_at hl 1 rfl) ?_
  refine z_if_le (pc := 1) (tgt := 19) E ⟨by omega, by omega⟩ dX8_saysPath_1 (by decide) (fun h1 => ?_) (fun h1 => ?_)
  · refine lv_aload_n (pc := 19) E.1 E.2 dX8_saysPath_19 rfl (lv_at hl 0 rfl) ?_
    refine lv_aload_n (pc := 20) E.1 E.2 dX8_saysPath_20 rfl (lv_at hl 0 rfl) ?_
    refine g8_0 (pc := 21) E hts hin8 hown hK hM.1 (hts _ (List.mem_of_getElem? (i := 1) rfl)) dX8_saysPath_21 ?_
    refine z_sipush (pc := 24) E (by decide) dX8_saysPath_24 ?_
    refine lv_iload_n (pc := 27) E.1 E.2 dX8_saysPath_27 rfl (lv_at hl 1 rfl) ?_
    refine z_iadd (pc := 28) E dX8_saysPath_28 ?_
    refine z_laload (pc := 29) E hK hM.2.1 ⟨by omega, by omega⟩ (by decide) dX8_saysPath_29 ?_
    have hb29 := hI.bd (149 + f)
    refine z_wVv (pc := 30) (As := [.long (iL (σ (149 + f)))]) (rest := []) E hml hown hts (mX8_saysName7 lL G o μ σ φ κ β ω (σ (149 + f)) (by omega) (by omega)) (cwV 1 hts gX8_saysPath_X8_saysName rfl rfl rfl vdX8_saysName ⟨Nat.le_of_ble_eq_true rfl, Nat.le_of_ble_eq_true rfl⟩) (oB.recv hK hM.1 rfl) hM hK hS (fun _ h => h) rfl hl.1 rfl dX8_saysPath_30 hcs (Nat.le_of_ble_eq_true rfl) (fun H locs hnew hsz hoth hS => ?_)
    have hM : W8 G o [.ref (o 1), .ref (o 2), .ref (o 3), .int (iI (μ 3)), .int (iI (μ 4)), .ref (o 4), .int (iI (μ 6)), .int (iI (μ 7)), .int (iI (μ 8)), .int (iI (μ 9)), .int (iI (μ 10)), .int (iI (μ 11)), .int (iI (μ 12)), .int (iI (μ 13)), .int (iI (μ 14)), .long (iL (μ 15)), .ref (o 5), .int (iI (μ 17 + ((naL 7 (σ (149 + f))).length : Int)))] σ φ κ β (ouA ω (μ 17) (naL 7 (σ (149 + f)))) H := W8.eq hnew (by simp only [mV, zu, Int.reduceEq, reduceIte])
    exact z_retWv E hr (by rw [show paL σ 13 f = naL 7 (σ (149 + f)) from if_neg (by omega)]; exact W8.mu hM (by simp only [mV, zu, Int.reduceEq, reduceIte])) hS hlocks dX8_saysPath_33
  · have hp1 := hI.par1 (f := f) (by omega) hf.2
    refine lv_aload_n (pc := 4) E.1 E.2 dX8_saysPath_4 rfl (lv_at hl 0 rfl) ?_
    refine lv_aload_n (pc := 5) E.1 E.2 dX8_saysPath_5 rfl (lv_at hl 0 rfl) ?_
    refine lv_iload_n (pc := 6) E.1 E.2 dX8_saysPath_6 rfl (lv_at hl 1 rfl) ?_
    refine z_rVi (pc := 7) (As := [.int (iI f)]) (rest := [.ref (o 0)]) E hml hown hts (mX8_parentOf lL G o μ σ φ κ β ω f (by omega)) (cwV 1 hts gX8_saysPath_X8_parentOf rfl rfl rfl vdX8_parentOf ⟨Nat.le_of_ble_eq_true rfl, Nat.le_of_ble_eq_true rfl⟩) (oB.recv hK hM.1 rfl) hM hK rfl hl.1 rfl dX8_saysPath_7 hcs (Nat.le_of_ble_eq_true rfl) ?_
    refine z_wVv (pc := 10) (As := [.int (iI (σ (69 + f)))]) (rest := []) E hml hown hts (mX8_saysPath12 lL G o μ σ φ κ β ω (σ (69 + f)) hI (by omega) (by omega) (by omega)) (cwV 1 hts gX8_saysPath_X8_saysPath rfl rfl rfl vdX8_saysPath ⟨Nat.le_of_ble_eq_true rfl, Nat.le_of_ble_eq_true rfl⟩) (oB.recv hK hM.1 rfl) hM hK hS (fun _ h => h) rfl hl.1 rfl dX8_saysPath_10 hcs (Nat.le_of_ble_eq_true rfl) (fun H locs hnew hsz hoth hS => ?_)
    have hM : W8 G o [.ref (o 1), .ref (o 2), .ref (o 3), .int (iI (μ 3)), .int (iI (μ 4)), .ref (o 4), .int (iI (μ 6)), .int (iI (μ 7)), .int (iI (μ 8)), .int (iI (μ 9)), .int (iI (μ 10)), .int (iI (μ 11)), .int (iI (μ 12)), .int (iI (μ 13)), .int (iI (μ 14)), .long (iL (μ 15)), .ref (o 5), .int (iI (μ 17 + ((paL σ 12 (σ (69 + f))).length : Int)))] σ φ κ β (ouA ω (μ 17) (paL σ 12 (σ (69 + f)))) H := W8.eq hnew (by simp only [mV, zu, Int.reduceEq, reduceIte])
    have hlb := paL_b σ 12 (σ (69 + f))
    refine lv_aload_n (pc := 13) E.1 E.2 dX8_saysPath_13 rfl (lv_at hl 0 rfl) ?_
    refine z_bipush (pc := 14) E (by decide) dX8_saysPath_14 ?_
    refine z_wVv (pc := 16) (As := [.int (iI 47)]) (rest := []) E hml hown hts (mX8_says lL G o (zu μ 17 (μ 17 + ((paL σ 12 (σ (69 + f))).length : Int))) σ φ κ β (ouA ω (μ 17) (paL σ 12 (σ (69 + f)))) 47 (by first | omega | (simp only [zu, Int.reduceEq, reduceIte]; omega)) (by first | omega | (simp only [zu, Int.reduceEq, reduceIte]; omega))) (cwV 1 hts gX8_saysPath_X8_says rfl rfl rfl vdX8_says ⟨Nat.le_of_ble_eq_true rfl, Nat.le_of_ble_eq_true rfl⟩) (oB.recv hK hM.1 rfl) (W8.mu hM (by simp only [mV, zu, Int.reduceEq, reduceIte])) hK hS (fun _ h => h) rfl hl.1 rfl dX8_saysPath_16 hcs (Nat.le_of_ble_eq_true rfl) (fun H locs hnew hsz hoth hS => ?_)
    have hM : W8 G o [.ref (o 1), .ref (o 2), .ref (o 3), .int (iI (μ 3)), .int (iI (μ 4)), .ref (o 4), .int (iI (μ 6)), .int (iI (μ 7)), .int (iI (μ 8)), .int (iI (μ 9)), .int (iI (μ 10)), .int (iI (μ 11)), .int (iI (μ 12)), .int (iI (μ 13)), .int (iI (μ 14)), .long (iL (μ 15)), .ref (o 5), .int (iI ((μ 17 + ((paL σ 12 (σ (69 + f))).length : Int)) + 1))] σ φ κ β (zu (ouA ω (μ 17) (paL σ 12 (σ (69 + f)))) ((μ 17 + ((paL σ 12 (σ (69 + f))).length : Int))) 47) H := W8.eq hnew (by simp only [mV, zu, Int.reduceEq, reduceIte])
    refine lv_aload_n (pc := 19) E.1 E.2 dX8_saysPath_19 rfl (lv_at hl 0 rfl) ?_
    refine lv_aload_n (pc := 20) E.1 E.2 dX8_saysPath_20 rfl (lv_at hl 0 rfl) ?_
    refine g8_0 (pc := 21) E hts hin8 hown hK hM.1 (hts _ (List.mem_of_getElem? (i := 1) rfl)) dX8_saysPath_21 ?_
    refine z_sipush (pc := 24) E (by decide) dX8_saysPath_24 ?_
    refine lv_iload_n (pc := 27) E.1 E.2 dX8_saysPath_27 rfl (lv_at hl 1 rfl) ?_
    refine z_iadd (pc := 28) E dX8_saysPath_28 ?_
    refine z_laload (pc := 29) E hK hM.2.1 ⟨by omega, by omega⟩ (by decide) dX8_saysPath_29 ?_
    have hb29 := hI.bd (149 + f)
    refine z_wVv (pc := 30) (As := [.long (iL (σ (149 + f)))]) (rest := []) E hml hown hts (mX8_saysName7 lL G o (zu (zu μ 17 (μ 17 + ((paL σ 12 (σ (69 + f))).length : Int))) 17 ((μ 17 + ((paL σ 12 (σ (69 + f))).length : Int)) + 1)) σ φ κ β (zu (ouA ω (μ 17) (paL σ 12 (σ (69 + f)))) ((μ 17 + ((paL σ 12 (σ (69 + f))).length : Int))) 47) (σ (149 + f)) (by first | omega | (simp only [zu, Int.reduceEq, reduceIte]; omega)) (by first | omega | (simp only [zu, Int.reduceEq, reduceIte]; omega))) (cwV 1 hts gX8_saysPath_X8_saysName rfl rfl rfl vdX8_saysName ⟨Nat.le_of_ble_eq_true rfl, Nat.le_of_ble_eq_true rfl⟩) (oB.recv hK hM.1 rfl) (W8.mu hM (by simp only [mV, zu, Int.reduceEq, reduceIte])) hK hS (fun _ h => h) rfl hl.1 rfl dX8_saysPath_30 hcs (Nat.le_of_ble_eq_true rfl) (fun H locs hnew hsz hoth hS => ?_)
    have hM : W8 G o [.ref (o 1), .ref (o 2), .ref (o 3), .int (iI (μ 3)), .int (iI (μ 4)), .ref (o 4), .int (iI (μ 6)), .int (iI (μ 7)), .int (iI (μ 8)), .int (iI (μ 9)), .int (iI (μ 10)), .int (iI (μ 11)), .int (iI (μ 12)), .int (iI (μ 13)), .int (iI (μ 14)), .long (iL (μ 15)), .ref (o 5), .int (iI (((μ 17 + ((paL σ 12 (σ (69 + f))).length : Int)) + 1) + ((naL 7 (σ (149 + f))).length : Int)))] σ φ κ β (ouA (zu (ouA ω (μ 17) (paL σ 12 (σ (69 + f)))) ((μ 17 + ((paL σ 12 (σ (69 + f))).length : Int))) 47) (((μ 17 + ((paL σ 12 (σ (69 + f))).length : Int)) + 1)) (naL 7 (σ (149 + f)))) H := W8.eq hnew (by simp only [mV, zu, Int.reduceEq, reduceIte])
    exact z_retWv E hr (by rw [show paL σ 13 f = paL σ 12 (σ (69 + f)) ++ [47] ++ naL 7 (σ (149 + f)) from if_pos (by omega), ← ouA_3]; exact W8.mu hM (by rw [← ouA_l3]; simp only [mV, zu, Int.reduceEq, reduceIte])) hS hlocks dX8_saysPath_33
set_option maxHeartbeats 1000000 in
set_option maxRecDepth 100000 in
theorem mX8_saysPath14 (lL : Launch) (G : GG) (o : Nat → Nat) (μ σ φ κ β ω : Int → Int) (f : Int) (hI : In σ) (hf : 0 ≤ f ∧ f < σ 2) (hd : dpF σ f ≤ 15) (hm : 0 ≤ μ 17 ∧ μ 17 + 135 ≤ 400) : Met lL yX8_saysPath wsX8_saysPath ({ frames := 23, cells := 0, slots := 0, locals := 491 } : Room) (va_Pc [.ref (o 0), .int (iI f)] (fun U => W8 G o (mV o μ) σ φ κ β ω U.heap ∧ KK G U)) (va_Qv (fun _ : Unit => True) (fun _ tZ => W8 G o (mV o (zu μ 17 (μ 17 + ((paL σ 14 f).length : Int)))) σ φ κ β (ouA ω (μ 17) (paL σ 14 f)) tZ.heap) (Ax o 6)) 0 0 (Ax o 6) := by
  refine z_met (P := (fun H : Heap => W8 G o (mV o μ) σ φ κ β ω H)) (by decide) rfl (Nat.le_of_ble_eq_true rfl) (fun pp ee ss mm below meth cC E hr hml hown hts hlocks hM hK ls hl => ?_)
  have hl : lv_has ls 2 [(0, .ref (o 0)), (1, .int (iI f))] := hl
  have hcs : 0 ≤ (({ frames := 23, cells := 0, slots := 0, locals := 491 } : Room)).cells ∧ 0 ≤ (({ frames := 23, cells := 0, slots := 0, locals := 491 } : Room)).slots := ⟨Nat.zero_le _, Nat.zero_le _⟩
  have hS : va_S (Ax o 6) ss.heap ss.heap [] := va_S.rf
  have hin8 : ∀ w ∈ wsX80, w ∈ wsX8_saysPath := fun w h => List.mem_cons_of_mem _ (List.mem_append_right _ (h))
  have hF := hI.F
  have hMm := hI.M
  have hGn := hI.Gn
  have hnk := nmk_b (hI.nam hf.1 hf.2)
  have e9 := dpF_s hI.cs hf.1 hf.2
  refine lv_iload_n (pc := 0) E.1 E.2 dX8_saysPath_0 rfl (lv_at hl 1 rfl) ?_
  refine z_if_le (pc := 1) (tgt := 19) E ⟨by omega, by omega⟩ dX8_saysPath_1 (by decide) (fun h1 => ?_) (fun h1 => ?_)
  · refine lv_aload_n (pc := 19) E.1 E.2 dX8_saysPath_19 rfl (lv_at hl 0 rfl) ?_
    refine lv_aload_n (pc := 20) E.1 E.2 dX8_saysPath_20 rfl (lv_at hl 0 rfl) ?_
    refine g8_0 (pc := 21) E hts hin8 hown hK hM.1 (hts _ (List.mem_of_getElem? (i := 1) rfl)) dX8_saysPath_21 ?_
    refine z_sipush (pc := 24) E (by decide) dX8_saysPath_24 ?_
    refine lv_iload_n (pc := 27) E.1 E.2 dX8_saysPath_27 rfl (lv_at hl 1 rfl) ?_
    refine z_iadd (pc := 28) E dX8_saysPath_28 ?_
    refine z_laload (pc := 29) E hK hM.2.1 ⟨by omega, by omega⟩ (by decide) dX8_saysPath_29 ?_
    have hb29 := hI.bd (149 + f)
    refine z_wVv (pc := 30) (As := [.long (iL (σ (149 + f)))]) (rest := []) E hml hown hts (mX8_saysName7 lL G o μ σ φ κ β ω (σ (149 + f)) (by omega) (by omega)) (cwV 1 hts gX8_saysPath_X8_saysName rfl rfl rfl vdX8_saysName ⟨Nat.le_of_ble_eq_true rfl, Nat.le_of_ble_eq_true rfl⟩) (oB.recv hK hM.1 rfl) hM hK hS (fun _ h => h) rfl hl.1 rfl dX8_saysPath_30 hcs (Nat.le_of_ble_eq_true rfl) (fun H locs hnew hsz hoth hS => ?_)
    have hM : W8 G o [.ref (o 1), .ref (o 2), .ref (o 3), .int (iI (μ 3)), .int (iI (μ 4)), .ref (o 4), .int (iI (μ 6)), .int (iI (μ 7)), .int (iI (μ 8)), .int (iI (μ 9)), .int (iI (μ 10)), .int (iI (μ 11)), .int (iI (μ 12)), .int (iI (μ 13)), .int (iI (μ 14)), .long (iL (μ 15)), .ref (o 5), .int (iI (μ 17 + ((naL 7 (σ (149 + f))).length : Int)))] σ φ κ β (ouA ω (μ 17) (naL 7 (σ (149 + f)))) H := W8.eq hnew (by simp only [mV, zu, Int.reduceEq, reduceIte])
    exact z_retWv E hr (by rw [show paL σ 14 f = naL 7 (σ (149 + f)) from if_neg (by omega)]; exact W8.mu hM (by simp only [mV, zu, Int.reduceEq, reduceIte])) hS hlocks dX8_saysPath_33
  · have hp1 := hI.par1 (f := f) (by omega) hf.2
    refine lv_aload_n (pc := 4) E.1 E.2 dX8_saysPath_4 rfl (lv_at hl 0 rfl) ?_
    refine lv_aload_n (pc := 5) E.1 E.2 dX8_saysPath_5 rfl (lv_at hl 0 rfl) ?_
    refine lv_iload_n (pc := 6) E.1 E.2 dX8_saysPath_6 rfl (lv_at hl 1 rfl) ?_
    refine z_rVi (pc := 7) (As := [.int (iI f)]) (rest := [.ref (o 0)]) E hml hown hts (mX8_parentOf lL G o μ σ φ κ β ω f (by omega)) (cwV 1 hts gX8_saysPath_X8_parentOf rfl rfl rfl vdX8_parentOf ⟨Nat.le_of_ble_eq_true rfl, Nat.le_of_ble_eq_true rfl⟩) (oB.recv hK hM.1 rfl) hM hK rfl hl.1 rfl dX8_saysPath_7 hcs (Nat.le_of_ble_eq_true rfl) ?_
    refine z_wVv (pc := 10) (As := [.int (iI (σ (69 + f)))]) (rest := []) E hml hown hts (mX8_saysPath13 lL G o μ σ φ κ β ω (σ (69 + f)) hI (by omega) (by omega) (by omega)) (cwV 1 hts gX8_saysPath_X8_saysPath rfl rfl rfl vdX8_saysPath ⟨Nat.le_of_ble_eq_true rfl, Nat.le_of_ble_eq_true rfl⟩) (oB.recv hK hM.1 rfl) hM hK hS (fun _ h => h) rfl hl.1 rfl dX8_saysPath_10 hcs (Nat.le_of_ble_eq_true rfl) (fun H locs hnew hsz hoth hS => ?_)
    have hM : W8 G o [.ref (o 1), .ref (o 2), .ref (o 3), .int (iI (μ 3)), .int (iI (μ 4)), .ref (o 4), .int (iI (μ 6)), .int (iI (μ 7)), .int (iI (μ 8)), .int (iI (μ 9)), .int (iI (μ 10)), .int (iI (μ 11)), .int (iI (μ 12)), .int (iI (μ 13)), .int (iI (μ 14)), .long (iL (μ 15)), .ref (o 5), .int (iI (μ 17 + ((paL σ 13 (σ (69 + f))).length : Int)))] σ φ κ β (ouA ω (μ 17) (paL σ 13 (σ (69 + f)))) H := W8.eq hnew (by simp only [mV, zu, Int.reduceEq, reduceIte])
    have hlb := paL_b σ 13 (σ (69 + f))
    refine lv_aload_n (pc := 13) E.1 E.2 dX8_saysPath_13 rfl (lv_at hl 0 rfl) ?_
    refine z_bipush (pc := 14) E (by decide) dX8_saysPath_14 ?_
    refine z_wVv (pc := 16) (As := [.int (iI 47)]) (rest := []) E hml hown hts (mX8_says lL G o (zu μ 17 (μ 17 + ((paL σ 13 (σ (69 + f))).length : Int))) σ φ κ β (ouA ω (μ 17) (paL σ 13 (σ (69 + f)))) 47 (by first | omega | (simp only [zu, Int.reduceEq, reduceIte]; omega)) (by first | omega | (simp only [zu, Int.reduceEq, reduceIte]; omega))) (cwV 1 hts gX8_saysPath_X8_says rfl rfl rfl vdX8_says ⟨Nat.le_of_ble_eq_true rfl, Nat.le_of_ble_eq_true rfl⟩) (oB.recv hK hM.1 rfl) (W8.mu hM (by simp only [mV, zu, Int.reduceEq, reduceIte])) hK hS (fun _ h => h) rfl hl.1 rfl dX8_saysPath_16 hcs (Nat.le_of_ble_eq_true rfl) (fun H locs hnew hsz hoth hS => ?_)
    have hM : W8 G o [.ref (o 1), .ref (o 2), .ref (o 3), .int (iI (μ 3)), .int (iI (μ 4)), .ref (o 4), .int (iI (μ 6)), .int (iI (μ 7)), .int (iI (μ 8)), .int (iI (μ 9)), .int (iI (μ 10)), .int (iI (μ 11)), .int (iI (μ 12)), .int (iI (μ 13)), .int (iI (μ 14)), .long (iL (μ 15)), .ref (o 5), .int (iI ((μ 17 + ((paL σ 13 (σ (69 + f))).length : Int)) + 1))] σ φ κ β (zu (ouA ω (μ 17) (paL σ 13 (σ (69 + f)))) ((μ 17 + ((paL σ 13 (σ (69 + f))).length : Int))) 47) H := W8.eq hnew (by simp only [mV, zu, Int.reduceEq, reduceIte])
    refine lv_aload_n (pc := 19) E.1 E.2 dX8_saysPath_19 rfl (lv_at hl 0 rfl) ?_
    refine lv_aload_n (pc := 20) E.1 E.2 dX8_saysPath_20 rfl (lv_at hl 0 rfl) ?_
    refine g8_0 (pc := 21) E hts hin8 hown hK hM.1 (hts _ (List.mem_of_getElem? (i := 1) rfl)) dX8_saysPath_21 ?_
    refine z_sipush (pc := 24) E (by decide) dX8_saysPath_24 ?_
    refine lv_iload_n (pc := 27) E.1 E.2 dX8_saysPath_27 rfl (lv_at hl 1 rfl) ?_
    refine z_iadd (pc := 28) E dX8_saysPath_28 ?_
    refine z_laload (pc := 29) E hK hM.2.1 ⟨by omega, by omega⟩ (by decide) dX8_saysPath_29 ?_
    have hb29 := hI.bd (149 + f)
    refine z_wVv (pc := 30) (As := [.long (iL (σ (149 + f)))]) (rest := []) E hml hown hts (mX8_saysName7 lL G o (zu (zu μ 17 (μ 17 + ((paL σ 13 (σ (69 + f))).length : Int))) 17 ((μ 17 + ((paL σ 13 (σ (69 + f))).length : Int)) + 1)) σ φ κ β (zu (ouA ω (μ 17) (paL σ 13 (σ (69 + f)))) ((μ 17 + ((paL σ 13 (σ (69 + f))).length : Int))) 47) (σ (149 + f)) (by first | omega | (simp only [zu, Int.reduceEq, reduceIte]; omega)) (by first | omega | (simp only [zu, Int.reduceEq, reduceIte]; omega))) (cwV 1 hts gX8_saysPath_X8_saysName rfl rfl rfl vdX8_saysName ⟨Nat.le_of_ble_eq_true rfl, Nat.le_of_ble_eq_true rfl⟩) (oB.recv hK hM.1 rfl) (W8.mu hM (by simp only [mV, zu, Int.reduceEq, reduceIte])) hK hS (fun _ h => h) rfl hl.1 rfl dX8_saysPath_30 hcs (Nat.le_of_ble_eq_true rfl) (fun H locs hnew hsz hoth hS => ?_)
    have hM : W8 G o [.ref (o 1), .ref (o 2), .ref (o 3), .int (iI (μ 3)), .int (iI (μ 4)), .ref (o 4), .int (iI (μ 6)), .int (iI (μ 7)), .int (iI (μ 8)), .int (iI (μ 9)), .int (iI (μ 10)), .int (iI (μ 11)), .int (iI (μ 12)), .int (iI (μ 13)), .int (iI (μ 14)), .long (iL (μ 15)), .ref (o 5), .int (iI (((μ 17 + ((paL σ 13 (σ (69 + f))).length : Int)) + 1) + ((naL 7 (σ (149 + f))).length : Int)))] σ φ κ β (ouA (zu (ouA ω (μ 17) (paL σ 13 (σ (69 + f)))) ((μ 17 + ((paL σ 13 (σ (69 + f))).length : Int))) 47) (((μ 17 + ((paL σ 13 (σ (69 + f))).length : Int)) + 1)) (naL 7 (σ (149 + f)))) H := W8.eq hnew (by simp only [mV, zu, Int.reduceEq, reduceIte])
    exact z_retWv E hr (by rw [show paL σ 14 f = paL σ 13 (σ (69 + f)) ++ [47] ++ naL 7 (σ (149 + f)) from if_pos (by omega), ← ouA_3]; exact W8.mu hM (by rw [← ouA_l3]; simp only [mV, zu, Int.reduceEq, reduceIte])) hS hlocks dX8_saysPath_33
set_option maxHeartbeats 1000000 in
set_option maxRecDepth 100000 in
theorem mX8_saysPath15 (lL : Launch) (G : GG) (o : Nat → Nat) (μ σ φ κ β ω : Int → Int) (f : Int) (hI : In σ) (hf : 0 ≤ f ∧ f < σ 2) (hd : dpF σ f ≤ 16) (hm : 0 ≤ μ 17 ∧ μ 17 + 144 ≤ 400) : Met lL yX8_saysPath wsX8_saysPath ({ frames := 24, cells := 0, slots := 0, locals := 512 } : Room) (va_Pc [.ref (o 0), .int (iI f)] (fun U => W8 G o (mV o μ) σ φ κ β ω U.heap ∧ KK G U)) (va_Qv (fun _ : Unit => True) (fun _ tZ => W8 G o (mV o (zu μ 17 (μ 17 + ((paL σ 15 f).length : Int)))) σ φ κ β (ouA ω (μ 17) (paL σ 15 f)) tZ.heap) (Ax o 6)) 0 0 (Ax o 6) := by
  refine z_met (P := (fun H : Heap => W8 G o (mV o μ) σ φ κ β ω H)) (by decide) rfl (Nat.le_of_ble_eq_true rfl) (fun pp ee ss mm below meth cC E hr hml hown hts hlocks hM hK ls hl => ?_)
  have hl : lv_has ls 2 [(0, .ref (o 0)), (1, .int (iI f))] := hl
  have hcs : 0 ≤ (({ frames := 24, cells := 0, slots := 0, locals := 512 } : Room)).cells ∧ 0 ≤ (({ frames := 24, cells := 0, slots := 0, locals := 512 } : Room)).slots := ⟨Nat.zero_le _, Nat.zero_le _⟩
  have hS : va_S (Ax o 6) ss.heap ss.heap [] := va_S.rf
  have hin8 : ∀ w ∈ wsX80, w ∈ wsX8_saysPath := fun w h => List.mem_cons_of_mem _ (List.mem_append_right _ (h))
  have hF := hI.F
  have hMm := hI.M
  have hGn := hI.Gn
  have hnk := nmk_b (hI.nam hf.1 hf.2)
  have e9 := dpF_s hI.cs hf.1 hf.2
  refine lv_iload_n (pc := 0) E.1 E.2 dX8_saysPath_0 rfl (lv_at hl 1 rfl) ?_
  refine z_if_le (pc := 1) (tgt := 19) E ⟨by omega, by omega⟩ dX8_saysPath_1 (by decide) (fun h1 => ?_) (fun h1 => ?_)
  · refine lv_aload_n (pc := 19) E.1 E.2 dX8_saysPath_19 rfl (lv_at hl 0 rfl) ?_
    refine lv_aload_n (pc := 20) E.1 E.2 dX8_saysPath_20 rfl (lv_at hl 0 rfl) ?_
    refine g8_0 (pc := 21) E hts hin8 hown hK hM.1 (hts _ (List.mem_of_getElem? (i := 1) rfl)) dX8_saysPath_21 ?_
    refine z_sipush (pc := 24) E (by decide) dX8_saysPath_24 ?_
    refine lv_iload_n (pc := 27) E.1 E.2 dX8_saysPath_27 rfl (lv_at hl 1 rfl) ?_
    refine z_iadd (pc := 28) E dX8_saysPath_28 ?_
    refine z_laload (pc := 29) E hK hM.2.1 ⟨by omega, by omega⟩ (by decide) dX8_saysPath_29 ?_
    have hb29 := hI.bd (149 + f)
    refine z_wVv (pc := 30) (As := [.long (iL (σ (149 + f)))]) (rest := []) E hml hown hts (mX8_saysName7 lL G o μ σ φ κ β ω (σ (149 + f)) (by omega) (by omega)) (cwV 1 hts gX8_saysPath_X8_saysName rfl rfl rfl vdX8_saysName ⟨Nat.le_of_ble_eq_true rfl, Nat.le_of_ble_eq_true rfl⟩) (oB.recv hK hM.1 rfl) hM hK hS (fun _ h => h) rfl hl.1 rfl dX8_saysPath_30 hcs (Nat.le_of_ble_eq_true rfl) (fun H locs hnew hsz hoth hS => ?_)
    have hM : W8 G o [.ref (o 1), .ref (o 2), .ref (o 3), .int (iI (μ 3)), .int (iI (μ 4)), .ref (o 4), .int (iI (μ 6)), .int (iI (μ 7)), .int (iI (μ 8)), .int (iI (μ 9)), .int (iI (μ 10)), .int (iI (μ 11)), .int (iI (μ 12)), .int (iI (μ 13)), .int (iI (μ 14)), .long (iL (μ 15)), .ref (o 5), .int (iI (μ 17 + ((naL 7 (σ (149 + f))).length : Int)))] σ φ κ β (ouA ω (μ 17) (naL 7 (σ (149 + f)))) H := W8.eq hnew (by simp only [mV, zu, Int.reduceEq, reduceIte])
    exact z_retWv E hr (by rw [show paL σ 15 f = naL 7 (σ (149 + f)) from if_neg (by omega)]; exact W8.mu hM (by simp only [mV, zu, Int.reduceEq, reduceIte])) hS hlocks dX8_saysPath_33
  · have hp1 := hI.par1 (f := f) (by omega) hf.2
    refine lv_aload_n (pc := 4) E.1 E.2 dX8_saysPath_4 rfl (lv_at hl 0 rfl) ?_
    refine lv_aload_n (pc := 5) E.1 E.2 dX8_saysPath_5 rfl (lv_at hl 0 rfl) ?_
    refine lv_iload_n (pc := 6) E.1 E.2 dX8_saysPath_6 rfl (lv_at hl 1 rfl) ?_
    refine z_rVi (pc := 7) (As := [.int (iI f)]) (rest := [.ref (o 0)]) E hml hown hts (mX8_parentOf lL G o μ σ φ κ β ω f (by omega)) (cwV 1 hts gX8_saysPath_X8_parentOf rfl rfl rfl vdX8_parentOf ⟨Nat.le_of_ble_eq_true rfl, Nat.le_of_ble_eq_true rfl⟩) (oB.recv hK hM.1 rfl) hM hK rfl hl.1 rfl dX8_saysPath_7 hcs (Nat.le_of_ble_eq_true rfl) ?_
    refine z_wVv (pc := 10) (As := [.int (iI (σ (69 + f)))]) (rest := []) E hml hown hts (mX8_saysPath14 lL G o μ σ φ κ β ω (σ (69 + f)) hI (by omega) (by omega) (by omega)) (cwV 1 hts gX8_saysPath_X8_saysPath rfl rfl rfl vdX8_saysPath ⟨Nat.le_of_ble_eq_true rfl, Nat.le_of_ble_eq_true rfl⟩) (oB.recv hK hM.1 rfl) hM hK hS (fun _ h => h) rfl hl.1 rfl dX8_saysPath_10 hcs (Nat.le_of_ble_eq_true rfl) (fun H locs hnew hsz hoth hS => ?_)
    have hM : W8 G o [.ref (o 1), .ref (o 2), .ref (o 3), .int (iI (μ 3)), .int (iI (μ 4)), .ref (o 4), .int (iI (μ 6)), .int (iI (μ 7)), .int (iI (μ 8)), .int (iI (μ 9)), .int (iI (μ 10)), .int (iI (μ 11)), .int (iI (μ 12)), .int (iI (μ 13)), .int (iI (μ 14)), .long (iL (μ 15)), .ref (o 5), .int (iI (μ 17 + ((paL σ 14 (σ (69 + f))).length : Int)))] σ φ κ β (ouA ω (μ 17) (paL σ 14 (σ (69 + f)))) H := W8.eq hnew (by simp only [mV, zu, Int.reduceEq, reduceIte])
    have hlb := paL_b σ 14 (σ (69 + f))
    refine lv_aload_n (pc := 13) E.1 E.2 dX8_saysPath_13 rfl (lv_at hl 0 rfl) ?_
    refine z_bipush (pc := 14) E (by decide) dX8_saysPath_14 ?_
    refine z_wVv (pc := 16) (As := [.int (iI 47)]) (rest := []) E hml hown hts (mX8_says lL G o (zu μ 17 (μ 17 + ((paL σ 14 (σ (69 + f))).length : Int))) σ φ κ β (ouA ω (μ 17) (paL σ 14 (σ (69 + f)))) 47 (by first | omega | (simp only [zu, Int.reduceEq, reduceIte]; omega)) (by first | omega | (simp only [zu, Int.reduceEq, reduceIte]; omega))) (cwV 1 hts gX8_saysPath_X8_says rfl rfl rfl vdX8_says ⟨Nat.le_of_ble_eq_true rfl, Nat.le_of_ble_eq_true rfl⟩) (oB.recv hK hM.1 rfl) (W8.mu hM (by simp only [mV, zu, Int.reduceEq, reduceIte])) hK hS (fun _ h => h) rfl hl.1 rfl dX8_saysPath_16 hcs (Nat.le_of_ble_eq_true rfl) (fun H locs hnew hsz hoth hS => ?_)
    have hM : W8 G o [.ref (o 1), .ref (o 2), .ref (o 3), .int (iI (μ 3)), .int (iI (μ 4)), .ref (o 4), .int (iI (μ 6)), .int (iI (μ 7)), .int (iI (μ 8)), .int (iI (μ 9)), .int (iI (μ 10)), .int (iI (μ 11)), .int (iI (μ 12)), .int (iI (μ 13)), .int (iI (μ 14)), .long (iL (μ 15)), .ref (o 5), .int (iI ((μ 17 + ((paL σ 14 (σ (69 + f))).length : Int)) + 1))] σ φ κ β (zu (ouA ω (μ 17) (paL σ 14 (σ (69 + f)))) ((μ 17 + ((paL σ 14 (σ (69 + f))).length : Int))) 47) H := W8.eq hnew (by simp only [mV, zu, Int.reduceEq, reduceIte])
    refine lv_aload_n (pc := 19) E.1 E.2 dX8_saysPath_19 rfl (lv_at hl 0 rfl) ?_
    refine lv_aload_n (pc := 20) E.1 E.2 dX8_saysPath_20 rfl (lv_at hl 0 rfl) ?_
    refine g8_0 (pc := 21) E hts hin8 hown hK hM.1 (hts _ (List.mem_of_getElem? (i := 1) rfl)) dX8_saysPath_21 ?_
    refine z_sipush (pc := 24) E (by decide) dX8_saysPath_24 ?_
    refine lv_iload_n (pc := 27) E.1 E.2 dX8_saysPath_27 rfl (lv_at hl 1 rfl) ?_
    refine z_iadd (pc := 28) E dX8_saysPath_28 ?_
    refine z_laload (pc := 29) E hK hM.2.1 ⟨by omega, by omega⟩ (by decide) dX8_saysPath_29 ?_
    have hb29 := hI.bd (149 + f)
    refine z_wVv (pc := 30) (As := [.long (iL (σ (149 + f)))]) (rest := []) E hml hown hts (mX8_saysName7 lL G o (zu (zu μ 17 (μ 17 + ((paL σ 14 (σ (69 + f))).length : Int))) 17 ((μ 17 + ((paL σ 14 (σ (69 + f))).length : Int)) + 1)) σ φ κ β (zu (ouA ω (μ 17) (paL σ 14 (σ (69 + f)))) ((μ 17 + ((paL σ 14 (σ (69 + f))).length : Int))) 47) (σ (149 + f)) (by first | omega | (simp only [zu, Int.reduceEq, reduceIte]; omega)) (by first | omega | (simp only [zu, Int.reduceEq, reduceIte]; omega))) (cwV 1 hts gX8_saysPath_X8_saysName rfl rfl rfl vdX8_saysName ⟨Nat.le_of_ble_eq_true rfl, Nat.le_of_ble_eq_true rfl⟩) (oB.recv hK hM.1 rfl) (W8.mu hM (by simp only [mV, zu, Int.reduceEq, reduceIte])) hK hS (fun _ h => h) rfl hl.1 rfl dX8_saysPath_30 hcs (Nat.le_of_ble_eq_true rfl) (fun H locs hnew hsz hoth hS => ?_)
    have hM : W8 G o [.ref (o 1), .ref (o 2), .ref (o 3), .int (iI (μ 3)), .int (iI (μ 4)), .ref (o 4), .int (iI (μ 6)), .int (iI (μ 7)), .int (iI (μ 8)), .int (iI (μ 9)), .int (iI (μ 10)), .int (iI (μ 11)), .int (iI (μ 12)), .int (iI (μ 13)), .int (iI (μ 14)), .long (iL (μ 15)), .ref (o 5), .int (iI (((μ 17 + ((paL σ 14 (σ (69 + f))).length : Int)) + 1) + ((naL 7 (σ (149 + f))).length : Int)))] σ φ κ β (ouA (zu (ouA ω (μ 17) (paL σ 14 (σ (69 + f)))) ((μ 17 + ((paL σ 14 (σ (69 + f))).length : Int))) 47) (((μ 17 + ((paL σ 14 (σ (69 + f))).length : Int)) + 1)) (naL 7 (σ (149 + f)))) H := W8.eq hnew (by simp only [mV, zu, Int.reduceEq, reduceIte])
    exact z_retWv E hr (by rw [show paL σ 15 f = paL σ 14 (σ (69 + f)) ++ [47] ++ naL 7 (σ (149 + f)) from if_pos (by omega), ← ouA_3]; exact W8.mu hM (by rw [← ouA_l3]; simp only [mV, zu, Int.reduceEq, reduceIte])) hS hlocks dX8_saysPath_33
set_option maxHeartbeats 1000000 in
set_option maxRecDepth 100000 in
theorem mX8_saysPath16 (lL : Launch) (G : GG) (o : Nat → Nat) (μ σ φ κ β ω : Int → Int) (f : Int) (hI : In σ) (hf : 0 ≤ f ∧ f < σ 2) (hd : dpF σ f ≤ 17) (hm : 0 ≤ μ 17 ∧ μ 17 + 153 ≤ 400) : Met lL yX8_saysPath wsX8_saysPath ({ frames := 25, cells := 0, slots := 0, locals := 533 } : Room) (va_Pc [.ref (o 0), .int (iI f)] (fun U => W8 G o (mV o μ) σ φ κ β ω U.heap ∧ KK G U)) (va_Qv (fun _ : Unit => True) (fun _ tZ => W8 G o (mV o (zu μ 17 (μ 17 + ((paL σ 16 f).length : Int)))) σ φ κ β (ouA ω (μ 17) (paL σ 16 f)) tZ.heap) (Ax o 6)) 0 0 (Ax o 6) := by
  refine z_met (P := (fun H : Heap => W8 G o (mV o μ) σ φ κ β ω H)) (by decide) rfl (Nat.le_of_ble_eq_true rfl) (fun pp ee ss mm below meth cC E hr hml hown hts hlocks hM hK ls hl => ?_)
  have hl : lv_has ls 2 [(0, .ref (o 0)), (1, .int (iI f))] := hl
  have hcs : 0 ≤ (({ frames := 25, cells := 0, slots := 0, locals := 533 } : Room)).cells ∧ 0 ≤ (({ frames := 25, cells := 0, slots := 0, locals := 533 } : Room)).slots := ⟨Nat.zero_le _, Nat.zero_le _⟩
  have hS : va_S (Ax o 6) ss.heap ss.heap [] := va_S.rf
  have hin8 : ∀ w ∈ wsX80, w ∈ wsX8_saysPath := fun w h => List.mem_cons_of_mem _ (List.mem_append_right _ (h))
  have hF := hI.F
  have hMm := hI.M
  have hGn := hI.Gn
  have hnk := nmk_b (hI.nam hf.1 hf.2)
  have e9 := dpF_s hI.cs hf.1 hf.2
  refine lv_iload_n (pc := 0) E.1 E.2 dX8_saysPath_0 rfl (lv_at hl 1 rfl) ?_
  refine z_if_le (pc := 1) (tgt := 19) E ⟨by omega, by omega⟩ dX8_saysPath_1 (by decide) (fun h1 => ?_) (fun h1 => ?_)
  · refine lv_aload_n (pc := 19) E.1 E.2 dX8_saysPath_19 rfl (lv_at hl 0 rfl) ?_
    refine lv_aload_n (pc := 20) E.1 E.2 dX8_saysPath_20 rfl (lv_at hl 0 rfl) ?_
    refine g8_0 (pc := 21) E hts hin8 hown hK hM.1 (hts _ (List.mem_of_getElem? (i := 1) rfl)) dX8_saysPath_21 ?_
    refine z_sipush (pc := 24) E (by decide) dX8_saysPath_24 ?_
    refine lv_iload_n (pc := 27) E.1 E.2 dX8_saysPath_27 rfl (lv_at hl 1 rfl) ?_
    refine z_iadd (pc := 28) E dX8_saysPath_28 ?_
    refine z_laload (pc := 29) E hK hM.2.1 ⟨by omega, by omega⟩ (by decide) dX8_saysPath_29 ?_
    have hb29 := hI.bd (149 + f)
    refine z_wVv (pc := 30) (As := [.long (iL (σ (149 + f)))]) (rest := []) E hml hown hts (mX8_saysName7 lL G o μ σ φ κ β ω (σ (149 + f)) (by omega) (by omega)) (cwV 1 hts gX8_saysPath_X8_saysName rfl rfl rfl vdX8_saysName ⟨Nat.le_of_ble_eq_true rfl, Nat.le_of_ble_eq_true rfl⟩) (oB.recv hK hM.1 rfl) hM hK hS (fun _ h => h) rfl hl.1 rfl dX8_saysPath_30 hcs (Nat.le_of_ble_eq_true rfl) (fun H locs hnew hsz hoth hS => ?_)
    have hM : W8 G o [.ref (o 1), .ref (o 2), .ref (o 3), .int (iI (μ 3)), .int (iI (μ 4)), .ref (o 4), .int (iI (μ 6)), .int (iI (μ 7)), .int (iI (μ 8)), .int (iI (μ 9)), .int (iI (μ 10)), .int (iI (μ 11)), .int (iI (μ 12)), .int (iI (μ 13)), .int (iI (μ 14)), .long (iL (μ 15)), .ref (o 5), .int (iI (μ 17 + ((naL 7 (σ (149 + f))).length : Int)))] σ φ κ β (ouA ω (μ 17) (naL 7 (σ (149 + f)))) H := W8.eq hnew (by simp only [mV, zu, Int.reduceEq, reduceIte])
    exact z_retWv E hr (by rw [show paL σ 16 f = naL 7 (σ (149 + f)) from if_neg (by omega)]; exact W8.mu hM (by simp only [mV, zu, Int.reduceEq, reduceIte])) hS hlocks dX8_saysPath_33
  · have hp1 := hI.par1 (f := f) (by omega) hf.2
    refine lv_aload_n (pc := 4) E.1 E.2 dX8_saysPath_4 rfl (lv_at hl 0 rfl) ?_
    refine lv_aload_n (pc := 5) E.1 E.2 dX8_saysPath_5 rfl (lv_at hl 0 rfl) ?_
    refine lv_iload_n (pc := 6) E.1 E.2 dX8_saysPath_6 rfl (lv_at hl 1 rfl) ?_
    refine z_rVi (pc := 7) (As := [.int (iI f)]) (rest := [.ref (o 0)]) E hml hown hts (mX8_parentOf lL G o μ σ φ κ β ω f (by omega)) (cwV 1 hts gX8_saysPath_X8_parentOf rfl rfl rfl vdX8_parentOf ⟨Nat.le_of_ble_eq_true rfl, Nat.le_of_ble_eq_true rfl⟩) (oB.recv hK hM.1 rfl) hM hK rfl hl.1 rfl dX8_saysPath_7 hcs (Nat.le_of_ble_eq_true rfl) ?_
    refine z_wVv (pc := 10) (As := [.int (iI (σ (69 + f)))]) (rest := []) E hml hown hts (mX8_saysPath15 lL G o μ σ φ κ β ω (σ (69 + f)) hI (by omega) (by omega) (by omega)) (cwV 1 hts gX8_saysPath_X8_saysPath rfl rfl rfl vdX8_saysPath ⟨Nat.le_of_ble_eq_true rfl, Nat.le_of_ble_eq_true rfl⟩) (oB.recv hK hM.1 rfl) hM hK hS (fun _ h => h) rfl hl.1 rfl dX8_saysPath_10 hcs (Nat.le_of_ble_eq_true rfl) (fun H locs hnew hsz hoth hS => ?_)
    have hM : W8 G o [.ref (o 1), .ref (o 2), .ref (o 3), .int (iI (μ 3)), .int (iI (μ 4)), .ref (o 4), .int (iI (μ 6)), .int (iI (μ 7)), .int (iI (μ 8)), .int (iI (μ 9)), .int (iI (μ 10)), .int (iI (μ 11)), .int (iI (μ 12)), .int (iI (μ 13)), .int (iI (μ 14)), .long (iL (μ 15)), .ref (o 5), .int (iI (μ 17 + ((paL σ 15 (σ (69 + f))).length : Int)))] σ φ κ β (ouA ω (μ 17) (paL σ 15 (σ (69 + f)))) H := W8.eq hnew (by simp only [mV, zu, Int.reduceEq, reduceIte])
    have hlb := paL_b σ 15 (σ (69 + f))
    refine lv_aload_n (pc := 13) E.1 E.2 dX8_saysPath_13 rfl (lv_at hl 0 rfl) ?_
    refine z_bipush (pc := 14) E (by decide) dX8_saysPath_14 ?_
    refine z_wVv (pc := 16) (As := [.int (iI 47)]) (rest := []) E hml hown hts (mX8_says lL G o (zu μ 17 (μ 17 + ((paL σ 15 (σ (69 + f))).length : Int))) σ φ κ β (ouA ω (μ 17) (paL σ 15 (σ (69 + f)))) 47 (by first | omega | (simp only [zu, Int.reduceEq, reduceIte]; omega)) (by first | omega | (simp only [zu, Int.reduceEq, reduceIte]; omega))) (cwV 1 hts gX8_saysPath_X8_says rfl rfl rfl vdX8_says ⟨Nat.le_of_ble_eq_true rfl, Nat.le_of_ble_eq_true rfl⟩) (oB.recv hK hM.1 rfl) (W8.mu hM (by simp only [mV, zu, Int.reduceEq, reduceIte])) hK hS (fun _ h => h) rfl hl.1 rfl dX8_saysPath_16 hcs (Nat.le_of_ble_eq_true rfl) (fun H locs hnew hsz hoth hS => ?_)
    have hM : W8 G o [.ref (o 1), .ref (o 2), .ref (o 3), .int (iI (μ 3)), .int (iI (μ 4)), .ref (o 4), .int (iI (μ 6)), .int (iI (μ 7)), .int (iI (μ 8)), .int (iI (μ 9)), .int (iI (μ 10)), .int (iI (μ 11)), .int (iI (μ 12)), .int (iI (μ 13)), .int (iI (μ 14)), .long (iL (μ 15)), .ref (o 5), .int (iI ((μ 17 + ((paL σ 15 (σ (69 + f))).length : Int)) + 1))] σ φ κ β (zu (ouA ω (μ 17) (paL σ 15 (σ (69 + f)))) ((μ 17 + ((paL σ 15 (σ (69 + f))).length : Int))) 47) H := W8.eq hnew (by simp only [mV, zu, Int.reduceEq, reduceIte])
    refine lv_aload_n (pc := 19) E.1 E.2 dX8_saysPath_19 rfl (lv_at hl 0 rfl) ?_
    refine lv_aload_n (pc := 20) E.1 E.2 dX8_saysPath_20 rfl (lv_at hl 0 rfl) ?_
    refine g8_0 (pc := 21) E hts hin8 hown hK hM.1 (hts _ (List.mem_of_getElem? (i := 1) rfl)) dX8_saysPath_21 ?_
    refine z_sipush (pc := 24) E (by decide) dX8_saysPath_24 ?_
    refine lv_iload_n (pc := 27) E.1 E.2 dX8_saysPath_27 rfl (lv_at hl 1 rfl) ?_
    refine z_iadd (pc := 28) E dX8_saysPath_28 ?_
    refine z_laload (pc := 29) E hK hM.2.1 ⟨by omega, by omega⟩ (by decide) dX8_saysPath_29 ?_
    have hb29 := hI.bd (149 + f)
    refine z_wVv (pc := 30) (As := [.long (iL (σ (149 + f)))]) (rest := []) E hml hown hts (mX8_saysName7 lL G o (zu (zu μ 17 (μ 17 + ((paL σ 15 (σ (69 + f))).length : Int))) 17 ((μ 17 + ((paL σ 15 (σ (69 + f))).length : Int)) + 1)) σ φ κ β (zu (ouA ω (μ 17) (paL σ 15 (σ (69 + f)))) ((μ 17 + ((paL σ 15 (σ (69 + f))).length : Int))) 47) (σ (149 + f)) (by first | omega | (simp only [zu, Int.reduceEq, reduceIte]; omega)) (by first | omega | (simp only [zu, Int.reduceEq, reduceIte]; omega))) (cwV 1 hts gX8_saysPath_X8_saysName rfl rfl rfl vdX8_saysName ⟨Nat.le_of_ble_eq_true rfl, Nat.le_of_ble_eq_true rfl⟩) (oB.recv hK hM.1 rfl) (W8.mu hM (by simp only [mV, zu, Int.reduceEq, reduceIte])) hK hS (fun _ h => h) rfl hl.1 rfl dX8_saysPath_30 hcs (Nat.le_of_ble_eq_true rfl) (fun H locs hnew hsz hoth hS => ?_)
    have hM : W8 G o [.ref (o 1), .ref (o 2), .ref (o 3), .int (iI (μ 3)), .int (iI (μ 4)), .ref (o 4), .int (iI (μ 6)), .int (iI (μ 7)), .int (iI (μ 8)), .int (iI (μ 9)), .int (iI (μ 10)), .int (iI (μ 11)), .int (iI (μ 12)), .int (iI (μ 13)), .int (iI (μ 14)), .long (iL (μ 15)), .ref (o 5), .int (iI (((μ 17 + ((paL σ 15 (σ (69 + f))).length : Int)) + 1) + ((naL 7 (σ (149 + f))).length : Int)))] σ φ κ β (ouA (zu (ouA ω (μ 17) (paL σ 15 (σ (69 + f)))) ((μ 17 + ((paL σ 15 (σ (69 + f))).length : Int))) 47) (((μ 17 + ((paL σ 15 (σ (69 + f))).length : Int)) + 1)) (naL 7 (σ (149 + f)))) H := W8.eq hnew (by simp only [mV, zu, Int.reduceEq, reduceIte])
    exact z_retWv E hr (by rw [show paL σ 16 f = paL σ 15 (σ (69 + f)) ++ [47] ++ naL 7 (σ (149 + f)) from if_pos (by omega), ← ouA_3]; exact W8.mu hM (by rw [← ouA_l3]; simp only [mV, zu, Int.reduceEq, reduceIte])) hS hlocks dX8_saysPath_33
set_option maxHeartbeats 1000000 in
set_option maxRecDepth 100000 in
theorem mX8_saysPath17 (lL : Launch) (G : GG) (o : Nat → Nat) (μ σ φ κ β ω : Int → Int) (f : Int) (hI : In σ) (hf : 0 ≤ f ∧ f < σ 2) (hd : dpF σ f ≤ 18) (hm : 0 ≤ μ 17 ∧ μ 17 + 162 ≤ 400) : Met lL yX8_saysPath wsX8_saysPath ({ frames := 26, cells := 0, slots := 0, locals := 554 } : Room) (va_Pc [.ref (o 0), .int (iI f)] (fun U => W8 G o (mV o μ) σ φ κ β ω U.heap ∧ KK G U)) (va_Qv (fun _ : Unit => True) (fun _ tZ => W8 G o (mV o (zu μ 17 (μ 17 + ((paL σ 17 f).length : Int)))) σ φ κ β (ouA ω (μ 17) (paL σ 17 f)) tZ.heap) (Ax o 6)) 0 0 (Ax o 6) := by
  refine z_met (P := (fun H : Heap => W8 G o (mV o μ) σ φ κ β ω H)) (by decide) rfl (Nat.le_of_ble_eq_true rfl) (fun pp ee ss mm below meth cC E hr hml hown hts hlocks hM hK ls hl => ?_)
  have hl : lv_has ls 2 [(0, .ref (o 0)), (1, .int (iI f))] := hl
  have hcs : 0 ≤ (({ frames := 26, cells := 0, slots := 0, locals := 554 } : Room)).cells ∧ 0 ≤ (({ frames := 26, cells := 0, slots := 0, locals := 554 } : Room)).slots := ⟨Nat.zero_le _, Nat.zero_le _⟩
  have hS : va_S (Ax o 6) ss.heap ss.heap [] := va_S.rf
  have hin8 : ∀ w ∈ wsX80, w ∈ wsX8_saysPath := fun w h => List.mem_cons_of_mem _ (List.mem_append_right _ (h))
  have hF := hI.F
  have hMm := hI.M
  have hGn := hI.Gn
  have hnk := nmk_b (hI.nam hf.1 hf.2)
  have e9 := dpF_s hI.cs hf.1 hf.2
  refine lv_iload_n (pc := 0) E.1 E.2 dX8_saysPath_0 rfl (lv_at hl 1 rfl) ?_
  refine z_if_le (pc := 1) (tgt := 19) E ⟨by omega, by omega⟩ dX8_saysPath_1 (by decide) (fun h1 => ?_) (fun h1 => ?_)
  · refine lv_aload_n (pc := 19) E.1 E.2 dX8_saysPath_19 rfl (lv_at hl 0 rfl) ?_
    refine lv_aload_n (pc := 20) E.1 E.2 dX8_saysPath_20 rfl (lv_at hl 0 rfl) ?_
    refine g8_0 (pc := 21) E hts hin8 hown hK hM.1 (hts _ (List.mem_of_getElem? (i := 1) rfl)) dX8_saysPath_21 ?_
    refine z_sipush (pc := 24) E (by decide) dX8_saysPath_24 ?_
    refine lv_iload_n (pc := 27) E.1 E.2 dX8_saysPath_27 rfl (lv_at hl 1 rfl) ?_
    refine z_iadd (pc := 28) E dX8_saysPath_28 ?_
    refine z_laload (pc := 29) E hK hM.2.1 ⟨by omega, by omega⟩ (by decide) dX8_saysPath_29 ?_
    have hb29 := hI.bd (149 + f)
    refine z_wVv (pc := 30) (As := [.long (iL (σ (149 + f)))]) (rest := []) E hml hown hts (mX8_saysName7 lL G o μ σ φ κ β ω (σ (149 + f)) (by omega) (by omega)) (cwV 1 hts gX8_saysPath_X8_saysName rfl rfl rfl vdX8_saysName ⟨Nat.le_of_ble_eq_true rfl, Nat.le_of_ble_eq_true rfl⟩) (oB.recv hK hM.1 rfl) hM hK hS (fun _ h => h) rfl hl.1 rfl dX8_saysPath_30 hcs (Nat.le_of_ble_eq_true rfl) (fun H locs hnew hsz hoth hS => ?_)
    have hM : W8 G o [.ref (o 1), .ref (o 2), .ref (o 3), .int (iI (μ 3)), .int (iI (μ 4)), .ref (o 4), .int (iI (μ 6)), .int (iI (μ 7)), .int (iI (μ 8)), .int (iI (μ 9)), .int (iI (μ 10)), .int (iI (μ 11)), .int (iI (μ 12)), .int (iI (μ 13)), .int (iI (μ 14)), .long (iL (μ 15)), .ref (o 5), .int (iI (μ 17 + ((naL 7 (σ (149 + f))).length : Int)))] σ φ κ β (ouA ω (μ 17) (naL 7 (σ (149 + f)))) H := W8.eq hnew (by simp only [mV, zu, Int.reduceEq, reduceIte])
    exact z_retWv E hr (by rw [show paL σ 17 f = naL 7 (σ (149 + f)) from if_neg (by omega)]; exact W8.mu hM (by simp only [mV, zu, Int.reduceEq, reduceIte])) hS hlocks dX8_saysPath_33
  · have hp1 := hI.par1 (f := f) (by omega) hf.2
    refine lv_aload_n (pc := 4) E.1 E.2 dX8_saysPath_4 rfl (lv_at hl 0 rfl) ?_
    refine lv_aload_n (pc := 5) E.1 E.2 dX8_saysPath_5 rfl (lv_at hl 0 rfl) ?_
    refine lv_iload_n (pc := 6) E.1 E.2 dX8_saysPath_6 rfl (lv_at hl 1 rfl) ?_
    refine z_rVi (pc := 7) (As := [.int (iI f)]) (rest := [.ref (o 0)]) E hml hown hts (mX8_parentOf lL G o μ σ φ κ β ω f (by omega)) (cwV 1 hts gX8_saysPath_X8_parentOf rfl rfl rfl vdX8_parentOf ⟨Nat.le_of_ble_eq_true rfl, Nat.le_of_ble_eq_true rfl⟩) (oB.recv hK hM.1 rfl) hM hK rfl hl.1 rfl dX8_saysPath_7 hcs (Nat.le_of_ble_eq_true rfl) ?_
    refine z_wVv (pc := 10) (As := [.int (iI (σ (69 + f)))]) (rest := []) E hml hown hts (mX8_saysPath16 lL G o μ σ φ κ β ω (σ (69 + f)) hI (by omega) (by omega) (by omega)) (cwV 1 hts gX8_saysPath_X8_saysPath rfl rfl rfl vdX8_saysPath ⟨Nat.le_of_ble_eq_true rfl, Nat.le_of_ble_eq_true rfl⟩) (oB.recv hK hM.1 rfl) hM hK hS (fun _ h => h) rfl hl.1 rfl dX8_saysPath_10 hcs (Nat.le_of_ble_eq_true rfl) (fun H locs hnew hsz hoth hS => ?_)
    have hM : W8 G o [.ref (o 1), .ref (o 2), .ref (o 3), .int (iI (μ 3)), .int (iI (μ 4)), .ref (o 4), .int (iI (μ 6)), .int (iI (μ 7)), .int (iI (μ 8)), .int (iI (μ 9)), .int (iI (μ 10)), .int (iI (μ 11)), .int (iI (μ 12)), .int (iI (μ 13)), .int (iI (μ 14)), .long (iL (μ 15)), .ref (o 5), .int (iI (μ 17 + ((paL σ 16 (σ (69 + f))).length : Int)))] σ φ κ β (ouA ω (μ 17) (paL σ 16 (σ (69 + f)))) H := W8.eq hnew (by simp only [mV, zu, Int.reduceEq, reduceIte])
    have hlb := paL_b σ 16 (σ (69 + f))
    refine lv_aload_n (pc := 13) E.1 E.2 dX8_saysPath_13 rfl (lv_at hl 0 rfl) ?_
    refine z_bipush (pc := 14) E (by decide) dX8_saysPath_14 ?_
    refine z_wVv (pc := 16) (As := [.int (iI 47)]) (rest := []) E hml hown hts (mX8_says lL G o (zu μ 17 (μ 17 + ((paL σ 16 (σ (69 + f))).length : Int))) σ φ κ β (ouA ω (μ 17) (paL σ 16 (σ (69 + f)))) 47 (by first | omega | (simp only [zu, Int.reduceEq, reduceIte]; omega)) (by first | omega | (simp only [zu, Int.reduceEq, reduceIte]; omega))) (cwV 1 hts gX8_saysPath_X8_says rfl rfl rfl vdX8_says ⟨Nat.le_of_ble_eq_true rfl, Nat.le_of_ble_eq_true rfl⟩) (oB.recv hK hM.1 rfl) (W8.mu hM (by simp only [mV, zu, Int.reduceEq, reduceIte])) hK hS (fun _ h => h) rfl hl.1 rfl dX8_saysPath_16 hcs (Nat.le_of_ble_eq_true rfl) (fun H locs hnew hsz hoth hS => ?_)
    have hM : W8 G o [.ref (o 1), .ref (o 2), .ref (o 3), .int (iI (μ 3)), .int (iI (μ 4)), .ref (o 4), .int (iI (μ 6)), .int (iI (μ 7)), .int (iI (μ 8)), .int (iI (μ 9)), .int (iI (μ 10)), .int (iI (μ 11)), .int (iI (μ 12)), .int (iI (μ 13)), .int (iI (μ 14)), .long (iL (μ 15)), .ref (o 5), .int (iI ((μ 17 + ((paL σ 16 (σ (69 + f))).length : Int)) + 1))] σ φ κ β (zu (ouA ω (μ 17) (paL σ 16 (σ (69 + f)))) ((μ 17 + ((paL σ 16 (σ (69 + f))).length : Int))) 47) H := W8.eq hnew (by simp only [mV, zu, Int.reduceEq, reduceIte])
    refine lv_aload_n (pc := 19) E.1 E.2 dX8_saysPath_19 rfl (lv_at hl 0 rfl) ?_
    refine lv_aload_n (pc := 20) E.1 E.2 dX8_saysPath_20 rfl (lv_at hl 0 rfl) ?_
    refine g8_0 (pc := 21) E hts hin8 hown hK hM.1 (hts _ (List.mem_of_getElem? (i := 1) rfl)) dX8_saysPath_21 ?_
    refine z_sipush (pc := 24) E (by decide) dX8_saysPath_24 ?_
    refine lv_iload_n (pc := 27) E.1 E.2 dX8_saysPath_27 rfl (lv_at hl 1 rfl) ?_
    refine z_iadd (pc := 28) E dX8_saysPath_28 ?_
    refine z_laload (pc := 29) E hK hM.2.1 ⟨by omega, by omega⟩ (by decide) dX8_saysPath_29 ?_
    have hb29 := hI.bd (149 + f)
    refine z_wVv (pc := 30) (As := [.long (iL (σ (149 + f)))]) (rest := []) E hml hown hts (mX8_saysName7 lL G o (zu (zu μ 17 (μ 17 + ((paL σ 16 (σ (69 + f))).length : Int))) 17 ((μ 17 + ((paL σ 16 (σ (69 + f))).length : Int)) + 1)) σ φ κ β (zu (ouA ω (μ 17) (paL σ 16 (σ (69 + f)))) ((μ 17 + ((paL σ 16 (σ (69 + f))).length : Int))) 47) (σ (149 + f)) (by first | omega | (simp only [zu, Int.reduceEq, reduceIte]; omega)) (by first | omega | (simp only [zu, Int.reduceEq, reduceIte]; omega))) (cwV 1 hts gX8_saysPath_X8_saysName rfl rfl rfl vdX8_saysName ⟨Nat.le_of_ble_eq_true rfl, Nat.le_of_ble_eq_true rfl⟩) (oB.recv hK hM.1 rfl) (W8.mu hM (by simp only [mV, zu, Int.reduceEq, reduceIte])) hK hS (fun _ h => h) rfl hl.1 rfl dX8_saysPath_30 hcs (Nat.le_of_ble_eq_true rfl) (fun H locs hnew hsz hoth hS => ?_)
    have hM : W8 G o [.ref (o 1), .ref (o 2), .ref (o 3), .int (iI (μ 3)), .int (iI (μ 4)), .ref (o 4), .int (iI (μ 6)), .int (iI (μ 7)), .int (iI (μ 8)), .int (iI (μ 9)), .int (iI (μ 10)), .int (iI (μ 11)), .int (iI (μ 12)), .int (iI (μ 13)), .int (iI (μ 14)), .long (iL (μ 15)), .ref (o 5), .int (iI (((μ 17 + ((paL σ 16 (σ (69 + f))).length : Int)) + 1) + ((naL 7 (σ (149 + f))).length : Int)))] σ φ κ β (ouA (zu (ouA ω (μ 17) (paL σ 16 (σ (69 + f)))) ((μ 17 + ((paL σ 16 (σ (69 + f))).length : Int))) 47) (((μ 17 + ((paL σ 16 (σ (69 + f))).length : Int)) + 1)) (naL 7 (σ (149 + f)))) H := W8.eq hnew (by simp only [mV, zu, Int.reduceEq, reduceIte])
    exact z_retWv E hr (by rw [show paL σ 17 f = paL σ 16 (σ (69 + f)) ++ [47] ++ naL 7 (σ (149 + f)) from if_pos (by omega), ← ouA_3]; exact W8.mu hM (by rw [← ouA_l3]; simp only [mV, zu, Int.reduceEq, reduceIte])) hS hlocks dX8_saysPath_33
set_option maxHeartbeats 1000000 in
set_option maxRecDepth 100000 in
theorem mX8_saysPath18 (lL : Launch) (G : GG) (o : Nat → Nat) (μ σ φ κ β ω : Int → Int) (f : Int) (hI : In σ) (hf : 0 ≤ f ∧ f < σ 2) (hd : dpF σ f ≤ 19) (hm : 0 ≤ μ 17 ∧ μ 17 + 171 ≤ 400) : Met lL yX8_saysPath wsX8_saysPath ({ frames := 27, cells := 0, slots := 0, locals := 575 } : Room) (va_Pc [.ref (o 0), .int (iI f)] (fun U => W8 G o (mV o μ) σ φ κ β ω U.heap ∧ KK G U)) (va_Qv (fun _ : Unit => True) (fun _ tZ => W8 G o (mV o (zu μ 17 (μ 17 + ((paL σ 18 f).length : Int)))) σ φ κ β (ouA ω (μ 17) (paL σ 18 f)) tZ.heap) (Ax o 6)) 0 0 (Ax o 6) := by
  refine z_met (P := (fun H : Heap => W8 G o (mV o μ) σ φ κ β ω H)) (by decide) rfl (Nat.le_of_ble_eq_true rfl) (fun pp ee ss mm below meth cC E hr hml hown hts hlocks hM hK ls hl => ?_)
  have hl : lv_has ls 2 [(0, .ref (o 0)), (1, .int (iI f))] := hl
  have hcs : 0 ≤ (({ frames := 27, cells := 0, slots := 0, locals := 575 } : Room)).cells ∧ 0 ≤ (({ frames := 27, cells := 0, slots := 0, locals := 575 } : Room)).slots := ⟨Nat.zero_le _, Nat.zero_le _⟩
  have hS : va_S (Ax o 6) ss.heap ss.heap [] := va_S.rf
  have hin8 : ∀ w ∈ wsX80, w ∈ wsX8_saysPath := fun w h => List.mem_cons_of_mem _ (List.mem_append_right _ (h))
  have hF := hI.F
  have hMm := hI.M
  have hGn := hI.Gn
  have hnk := nmk_b (hI.nam hf.1 hf.2)
  have e9 := dpF_s hI.cs hf.1 hf.2
  refine lv_iload_n (pc := 0) E.1 E.2 dX8_saysPath_0 rfl (lv_at hl 1 rfl) ?_
  refine z_if_le (pc := 1) (tgt := 19) E ⟨by omega, by omega⟩ dX8_saysPath_1 (by decide) (fun h1 => ?_) (fun h1 => ?_)
  · refine lv_aload_n (pc := 19) E.1 E.2 dX8_saysPath_19 rfl (lv_at hl 0 rfl) ?_
    refine lv_aload_n (pc := 20) E.1 E.2 dX8_saysPath_20 rfl (lv_at hl 0 rfl) ?_
    refine g8_0 (pc := 21) E hts hin8 hown hK hM.1 (hts _ (List.mem_of_getElem? (i := 1) rfl)) dX8_saysPath_21 ?_
    refine z_sipush (pc := 24) E (by decide) dX8_saysPath_24 ?_
    refine lv_iload_n (pc := 27) E.1 E.2 dX8_saysPath_27 rfl (lv_at hl 1 rfl) ?_
    refine z_iadd (pc := 28) E dX8_saysPath_28 ?_
    refine z_laload (pc := 29) E hK hM.2.1 ⟨by omega, by omega⟩ (by decide) dX8_saysPath_29 ?_
    have hb29 := hI.bd (149 + f)
    refine z_wVv (pc := 30) (As := [.long (iL (σ (149 + f)))]) (rest := []) E hml hown hts (mX8_saysName7 lL G o μ σ φ κ β ω (σ (149 + f)) (by omega) (by omega)) (cwV 1 hts gX8_saysPath_X8_saysName rfl rfl rfl vdX8_saysName ⟨Nat.le_of_ble_eq_true rfl, Nat.le_of_ble_eq_true rfl⟩) (oB.recv hK hM.1 rfl) hM hK hS (fun _ h => h) rfl hl.1 rfl dX8_saysPath_30 hcs (Nat.le_of_ble_eq_true rfl) (fun H locs hnew hsz hoth hS => ?_)
    have hM : W8 G o [.ref (o 1), .ref (o 2), .ref (o 3), .int (iI (μ 3)), .int (iI (μ 4)), .ref (o 4), .int (iI (μ 6)), .int (iI (μ 7)), .int (iI (μ 8)), .int (iI (μ 9)), .int (iI (μ 10)), .int (iI (μ 11)), .int (iI (μ 12)), .int (iI (μ 13)), .int (iI (μ 14)), .long (iL (μ 15)), .ref (o 5), .int (iI (μ 17 + ((naL 7 (σ (149 + f))).length : Int)))] σ φ κ β (ouA ω (μ 17) (naL 7 (σ (149 + f)))) H := W8.eq hnew (by simp only [mV, zu, Int.reduceEq, reduceIte])
    exact z_retWv E hr (by rw [show paL σ 18 f = naL 7 (σ (149 + f)) from if_neg (by omega)]; exact W8.mu hM (by simp only [mV, zu, Int.reduceEq, reduceIte])) hS hlocks dX8_saysPath_33
  · have hp1 := hI.par1 (f := f) (by omega) hf.2
    refine lv_aload_n (pc := 4) E.1 E.2 dX8_saysPath_4 rfl (lv_at hl 0 rfl) ?_
    refine lv_aload_n (pc := 5) E.1 E.2 dX8_saysPath_5 rfl (lv_at hl 0 rfl) ?_
    refine lv_iload_n (pc := 6) E.1 E.2 dX8_saysPath_6 rfl (lv_at hl 1 rfl) ?_
    refine z_rVi (pc := 7) (As := [.int (iI f)]) (rest := [.ref (o 0)]) E hml hown hts (mX8_parentOf lL G o μ σ φ κ β ω f (by omega)) (cwV 1 hts gX8_saysPath_X8_parentOf rfl rfl rfl vdX8_parentOf ⟨Nat.le_of_ble_eq_true rfl, Nat.le_of_ble_eq_true rfl⟩) (oB.recv hK hM.1 rfl) hM hK rfl hl.1 rfl dX8_saysPath_7 hcs (Nat.le_of_ble_eq_true rfl) ?_
    refine z_wVv (pc := 10) (As := [.int (iI (σ (69 + f)))]) (rest := []) E hml hown hts (mX8_saysPath17 lL G o μ σ φ κ β ω (σ (69 + f)) hI (by omega) (by omega) (by omega)) (cwV 1 hts gX8_saysPath_X8_saysPath rfl rfl rfl vdX8_saysPath ⟨Nat.le_of_ble_eq_true rfl, Nat.le_of_ble_eq_true rfl⟩) (oB.recv hK hM.1 rfl) hM hK hS (fun _ h => h) rfl hl.1 rfl dX8_saysPath_10 hcs (Nat.le_of_ble_eq_true rfl) (fun H locs hnew hsz hoth hS => ?_)
    have hM : W8 G o [.ref (o 1), .ref (o 2), .ref (o 3), .int (iI (μ 3)), .int (iI (μ 4)), .ref (o 4), .int (iI (μ 6)), .int (iI (μ 7)), .int (iI (μ 8)), .int (iI (μ 9)), .int (iI (μ 10)), .int (iI (μ 11)), .int (iI (μ 12)), .int (iI (μ 13)), .int (iI (μ 14)), .long (iL (μ 15)), .ref (o 5), .int (iI (μ 17 + ((paL σ 17 (σ (69 + f))).length : Int)))] σ φ κ β (ouA ω (μ 17) (paL σ 17 (σ (69 + f)))) H := W8.eq hnew (by simp only [mV, zu, Int.reduceEq, reduceIte])
    have hlb := paL_b σ 17 (σ (69 + f))
    refine lv_aload_n (pc := 13) E.1 E.2 dX8_saysPath_13 rfl (lv_at hl 0 rfl) ?_
    refine z_bipush (pc := 14) E (by decide) dX8_saysPath_14 ?_
    refine z_wVv (pc := 16) (As := [.int (iI 47)]) (rest := []) E hml hown hts (mX8_says lL G o (zu μ 17 (μ 17 + ((paL σ 17 (σ (69 + f))).length : Int))) σ φ κ β (ouA ω (μ 17) (paL σ 17 (σ (69 + f)))) 47 (by first | omega | (simp only [zu, Int.reduceEq, reduceIte]; omega)) (by first | omega | (simp only [zu, Int.reduceEq, reduceIte]; omega))) (cwV 1 hts gX8_saysPath_X8_says rfl rfl rfl vdX8_says ⟨Nat.le_of_ble_eq_true rfl, Nat.le_of_ble_eq_true rfl⟩) (oB.recv hK hM.1 rfl) (W8.mu hM (by simp only [mV, zu, Int.reduceEq, reduceIte])) hK hS (fun _ h => h) rfl hl.1 rfl dX8_saysPath_16 hcs (Nat.le_of_ble_eq_true rfl) (fun H locs hnew hsz hoth hS => ?_)
    have hM : W8 G o [.ref (o 1), .ref (o 2), .ref (o 3), .int (iI (μ 3)), .int (iI (μ 4)), .ref (o 4), .int (iI (μ 6)), .int (iI (μ 7)), .int (iI (μ 8)), .int (iI (μ 9)), .int (iI (μ 10)), .int (iI (μ 11)), .int (iI (μ 12)), .int (iI (μ 13)), .int (iI (μ 14)), .long (iL (μ 15)), .ref (o 5), .int (iI ((μ 17 + ((paL σ 17 (σ (69 + f))).length : Int)) + 1))] σ φ κ β (zu (ouA ω (μ 17) (paL σ 17 (σ (69 + f)))) ((μ 17 + ((paL σ 17 (σ (69 + f))).length : Int))) 47) H := W8.eq hnew (by simp only [mV, zu, Int.reduceEq, reduceIte])
    refine lv_aload_n (pc := 19) E.1 E.2 dX8_saysPath_19 rfl (lv_at hl 0 rfl) ?_
    refine lv_aload_n (pc := 20) E.1 E.2 dX8_saysPath_20 rfl (lv_at hl 0 rfl) ?_
    refine g8_0 (pc := 21) E hts hin8 hown hK hM.1 (hts _ (List.mem_of_getElem? (i := 1) rfl)) dX8_saysPath_21 ?_
    refine z_sipush (pc := 24) E (by decide) dX8_saysPath_24 ?_
    refine lv_iload_n (pc := 27) E.1 E.2 dX8_saysPath_27 rfl (lv_at hl 1 rfl) ?_
    refine z_iadd (pc := 28) E dX8_saysPath_28 ?_
    refine z_laload (pc := 29) E hK hM.2.1 ⟨by omega, by omega⟩ (by decide) dX8_saysPath_29 ?_
    have hb29 := hI.bd (149 + f)
    refine z_wVv (pc := 30) (As := [.long (iL (σ (149 + f)))]) (rest := []) E hml hown hts (mX8_saysName7 lL G o (zu (zu μ 17 (μ 17 + ((paL σ 17 (σ (69 + f))).length : Int))) 17 ((μ 17 + ((paL σ 17 (σ (69 + f))).length : Int)) + 1)) σ φ κ β (zu (ouA ω (μ 17) (paL σ 17 (σ (69 + f)))) ((μ 17 + ((paL σ 17 (σ (69 + f))).length : Int))) 47) (σ (149 + f)) (by first | omega | (simp only [zu, Int.reduceEq, reduceIte]; omega)) (by first | omega | (simp only [zu, Int.reduceEq, reduceIte]; omega))) (cwV 1 hts gX8_saysPath_X8_saysName rfl rfl rfl vdX8_saysName ⟨Nat.le_of_ble_eq_true rfl, Nat.le_of_ble_eq_true rfl⟩) (oB.recv hK hM.1 rfl) (W8.mu hM (by simp only [mV, zu, Int.reduceEq, reduceIte])) hK hS (fun _ h => h) rfl hl.1 rfl dX8_saysPath_30 hcs (Nat.le_of_ble_eq_true rfl) (fun H locs hnew hsz hoth hS => ?_)
    have hM : W8 G o [.ref (o 1), .ref (o 2), .ref (o 3), .int (iI (μ 3)), .int (iI (μ 4)), .ref (o 4), .int (iI (μ 6)), .int (iI (μ 7)), .int (iI (μ 8)), .int (iI (μ 9)), .int (iI (μ 10)), .int (iI (μ 11)), .int (iI (μ 12)), .int (iI (μ 13)), .int (iI (μ 14)), .long (iL (μ 15)), .ref (o 5), .int (iI (((μ 17 + ((paL σ 17 (σ (69 + f))).length : Int)) + 1) + ((naL 7 (σ (149 + f))).length : Int)))] σ φ κ β (ouA (zu (ouA ω (μ 17) (paL σ 17 (σ (69 + f)))) ((μ 17 + ((paL σ 17 (σ (69 + f))).length : Int))) 47) (((μ 17 + ((paL σ 17 (σ (69 + f))).length : Int)) + 1)) (naL 7 (σ (149 + f)))) H := W8.eq hnew (by simp only [mV, zu, Int.reduceEq, reduceIte])
    exact z_retWv E hr (by rw [show paL σ 18 f = paL σ 17 (σ (69 + f)) ++ [47] ++ naL 7 (σ (149 + f)) from if_pos (by omega), ← ouA_3]; exact W8.mu hM (by rw [← ouA_l3]; simp only [mV, zu, Int.reduceEq, reduceIte])) hS hlocks dX8_saysPath_33
set_option maxHeartbeats 1000000 in
set_option maxRecDepth 100000 in
theorem mX8_saysPath19 (lL : Launch) (G : GG) (o : Nat → Nat) (μ σ φ κ β ω : Int → Int) (f : Int) (hI : In σ) (hf : 0 ≤ f ∧ f < σ 2) (hd : dpF σ f ≤ 20) (hm : 0 ≤ μ 17 ∧ μ 17 + 180 ≤ 400) : Met lL yX8_saysPath wsX8_saysPath ({ frames := 28, cells := 0, slots := 0, locals := 596 } : Room) (va_Pc [.ref (o 0), .int (iI f)] (fun U => W8 G o (mV o μ) σ φ κ β ω U.heap ∧ KK G U)) (va_Qv (fun _ : Unit => True) (fun _ tZ => W8 G o (mV o (zu μ 17 (μ 17 + ((paL σ 19 f).length : Int)))) σ φ κ β (ouA ω (μ 17) (paL σ 19 f)) tZ.heap) (Ax o 6)) 0 0 (Ax o 6) := by
  refine z_met (P := (fun H : Heap => W8 G o (mV o μ) σ φ κ β ω H)) (by decide) rfl (Nat.le_of_ble_eq_true rfl) (fun pp ee ss mm below meth cC E hr hml hown hts hlocks hM hK ls hl => ?_)
  have hl : lv_has ls 2 [(0, .ref (o 0)), (1, .int (iI f))] := hl
  have hcs : 0 ≤ (({ frames := 28, cells := 0, slots := 0, locals := 596 } : Room)).cells ∧ 0 ≤ (({ frames := 28, cells := 0, slots := 0, locals := 596 } : Room)).slots := ⟨Nat.zero_le _, Nat.zero_le _⟩
  have hS : va_S (Ax o 6) ss.heap ss.heap [] := va_S.rf
  have hin8 : ∀ w ∈ wsX80, w ∈ wsX8_saysPath := fun w h => List.mem_cons_of_mem _ (List.mem_append_right _ (h))
  have hF := hI.F
  have hMm := hI.M
  have hGn := hI.Gn
  have hnk := nmk_b (hI.nam hf.1 hf.2)
  have e9 := dpF_s hI.cs hf.1 hf.2
  refine lv_iload_n (pc := 0) E.1 E.2 dX8_saysPath_0 rfl (lv_at hl 1 rfl) ?_
  refine z_if_le (pc := 1) (tgt := 19) E ⟨by omega, by omega⟩ dX8_saysPath_1 (by decide) (fun h1 => ?_) (fun h1 => ?_)
  · refine lv_aload_n (pc := 19) E.1 E.2 dX8_saysPath_19 rfl (lv_at hl 0 rfl) ?_
    refine lv_aload_n (pc := 20) E.1 E.2 dX8_saysPath_20 rfl (lv_at hl 0 rfl) ?_
    refine g8_0 (pc := 21) E hts hin8 hown hK hM.1 (hts _ (List.mem_of_getElem? (i := 1) rfl)) dX8_saysPath_21 ?_
    refine z_sipush (pc := 24) E (by decide) dX8_saysPath_24 ?_
    refine lv_iload_n (pc := 27) E.1 E.2 dX8_saysPath_27 rfl (lv_at hl 1 rfl) ?_
    refine z_iadd (pc := 28) E dX8_saysPath_28 ?_
    refine z_laload (pc := 29) E hK hM.2.1 ⟨by omega, by omega⟩ (by decide) dX8_saysPath_29 ?_
    have hb29 := hI.bd (149 + f)
    refine z_wVv (pc := 30) (As := [.long (iL (σ (149 + f)))]) (rest := []) E hml hown hts (mX8_saysName7 lL G o μ σ φ κ β ω (σ (149 + f)) (by omega) (by omega)) (cwV 1 hts gX8_saysPath_X8_saysName rfl rfl rfl vdX8_saysName ⟨Nat.le_of_ble_eq_true rfl, Nat.le_of_ble_eq_true rfl⟩) (oB.recv hK hM.1 rfl) hM hK hS (fun _ h => h) rfl hl.1 rfl dX8_saysPath_30 hcs (Nat.le_of_ble_eq_true rfl) (fun H locs hnew hsz hoth hS => ?_)
    have hM : W8 G o [.ref (o 1), .ref (o 2), .ref (o 3), .int (iI (μ 3)), .int (iI (μ 4)), .ref (o 4), .int (iI (μ 6)), .int (iI (μ 7)), .int (iI (μ 8)), .int (iI (μ 9)), .int (iI (μ 10)), .int (iI (μ 11)), .int (iI (μ 12)), .int (iI (μ 13)), .int (iI (μ 14)), .long (iL (μ 15)), .ref (o 5), .int (iI (μ 17 + ((naL 7 (σ (149 + f))).length : Int)))] σ φ κ β (ouA ω (μ 17) (naL 7 (σ (149 + f)))) H := W8.eq hnew (by simp only [mV, zu, Int.reduceEq, reduceIte])
    exact z_retWv E hr (by rw [show paL σ 19 f = naL 7 (σ (149 + f)) from if_neg (by omega)]; exact W8.mu hM (by simp only [mV, zu, Int.reduceEq, reduceIte])) hS hlocks dX8_saysPath_33
  · have hp1 := hI.par1 (f := f) (by omega) hf.2
    refine lv_aload_n (pc := 4) E.1 E.2 dX8_saysPath_4 rfl (lv_at hl 0 rfl) ?_
    refine lv_aload_n (pc := 5) E.1 E.2 dX8_saysPath_5 rfl (lv_at hl 0 rfl) ?_
    refine lv_iload_n (pc := 6) E.1 E.2 dX8_saysPath_6 rfl (lv_at hl 1 rfl) ?_
    refine z_rVi (pc := 7) (As := [.int (iI f)]) (rest := [.ref (o 0)]) E hml hown hts (mX8_parentOf lL G o μ σ φ κ β ω f (by omega)) (cwV 1 hts gX8_saysPath_X8_parentOf rfl rfl rfl vdX8_parentOf ⟨Nat.le_of_ble_eq_true rfl, Nat.le_of_ble_eq_true rfl⟩) (oB.recv hK hM.1 rfl) hM hK rfl hl.1 rfl dX8_saysPath_7 hcs (Nat.le_of_ble_eq_true rfl) ?_
    refine z_wVv (pc := 10) (As := [.int (iI (σ (69 + f)))]) (rest := []) E hml hown hts (mX8_saysPath18 lL G o μ σ φ κ β ω (σ (69 + f)) hI (by omega) (by omega) (by omega)) (cwV 1 hts gX8_saysPath_X8_saysPath rfl rfl rfl vdX8_saysPath ⟨Nat.le_of_ble_eq_true rfl, Nat.le_of_ble_eq_true rfl⟩) (oB.recv hK hM.1 rfl) hM hK hS (fun _ h => h) rfl hl.1 rfl dX8_saysPath_10 hcs (Nat.le_of_ble_eq_true rfl) (fun H locs hnew hsz hoth hS => ?_)
    have hM : W8 G o [.ref (o 1), .ref (o 2), .ref (o 3), .int (iI (μ 3)), .int (iI (μ 4)), .ref (o 4), .int (iI (μ 6)), .int (iI (μ 7)), .int (iI (μ 8)), .int (iI (μ 9)), .int (iI (μ 10)), .int (iI (μ 11)), .int (iI (μ 12)), .int (iI (μ 13)), .int (iI (μ 14)), .long (iL (μ 15)), .ref (o 5), .int (iI (μ 17 + ((paL σ 18 (σ (69 + f))).length : Int)))] σ φ κ β (ouA ω (μ 17) (paL σ 18 (σ (69 + f)))) H := W8.eq hnew (by simp only [mV, zu, Int.reduceEq, reduceIte])
    have hlb := paL_b σ 18 (σ (69 + f))
    refine lv_aload_n (pc := 13) E.1 E.2 dX8_saysPath_13 rfl (lv_at hl 0 rfl) ?_
    refine z_bipush (pc := 14) E (by decide) dX8_saysPath_14 ?_
    refine z_wVv (pc := 16) (As := [.int (iI 47)]) (rest := []) E hml hown hts (mX8_says lL G o (zu μ 17 (μ 17 + ((paL σ 18 (σ (69 + f))).length : Int))) σ φ κ β (ouA ω (μ 17) (paL σ 18 (σ (69 + f)))) 47 (by first | omega | (simp only [zu, Int.reduceEq, reduceIte]; omega)) (by first | omega | (simp only [zu, Int.reduceEq, reduceIte]; omega))) (cwV 1 hts gX8_saysPath_X8_says rfl rfl rfl vdX8_says ⟨Nat.le_of_ble_eq_true rfl, Nat.le_of_ble_eq_true rfl⟩) (oB.recv hK hM.1 rfl) (W8.mu hM (by simp only [mV, zu, Int.reduceEq, reduceIte])) hK hS (fun _ h => h) rfl hl.1 rfl dX8_saysPath_16 hcs (Nat.le_of_ble_eq_true rfl) (fun H locs hnew hsz hoth hS => ?_)
    have hM : W8 G o [.ref (o 1), .ref (o 2), .ref (o 3), .int (iI (μ 3)), .int (iI (μ 4)), .ref (o 4), .int (iI (μ 6)), .int (iI (μ 7)), .int (iI (μ 8)), .int (iI (μ 9)), .int (iI (μ 10)), .int (iI (μ 11)), .int (iI (μ 12)), .int (iI (μ 13)), .int (iI (μ 14)), .long (iL (μ 15)), .ref (o 5), .int (iI ((μ 17 + ((paL σ 18 (σ (69 + f))).length : Int)) + 1))] σ φ κ β (zu (ouA ω (μ 17) (paL σ 18 (σ (69 + f)))) ((μ 17 + ((paL σ 18 (σ (69 + f))).length : Int))) 47) H := W8.eq hnew (by simp only [mV, zu, Int.reduceEq, reduceIte])
    refine lv_aload_n (pc := 19) E.1 E.2 dX8_saysPath_19 rfl (lv_at hl 0 rfl) ?_
    refine lv_aload_n (pc := 20) E.1 E.2 dX8_saysPath_20 rfl (lv_at hl 0 rfl) ?_
    refine g8_0 (pc := 21) E hts hin8 hown hK hM.1 (hts _ (List.mem_of_getElem? (i := 1) rfl)) dX8_saysPath_21 ?_
    refine z_sipush (pc := 24) E (by decide) dX8_saysPath_24 ?_
    refine lv_iload_n (pc := 27) E.1 E.2 dX8_saysPath_27 rfl (lv_at hl 1 rfl) ?_
    refine z_iadd (pc := 28) E dX8_saysPath_28 ?_
    refine z_laload (pc := 29) E hK hM.2.1 ⟨by omega, by omega⟩ (by decide) dX8_saysPath_29 ?_
    have hb29 := hI.bd (149 + f)
    refine z_wVv (pc := 30) (As := [.long (iL (σ (149 + f)))]) (rest := []) E hml hown hts (mX8_saysName7 lL G o (zu (zu μ 17 (μ 17 + ((paL σ 18 (σ (69 + f))).length : Int))) 17 ((μ 17 + ((paL σ 18 (σ (69 + f))).length : Int)) + 1)) σ φ κ β (zu (ouA ω (μ 17) (paL σ 18 (σ (69 + f)))) ((μ 17 + ((paL σ 18 (σ (69 + f))).length : Int))) 47) (σ (149 + f)) (by first | omega | (simp only [zu, Int.reduceEq, reduceIte]; omega)) (by first | omega | (simp only [zu, Int.reduceEq, reduceIte]; omega))) (cwV 1 hts gX8_saysPath_X8_saysName rfl rfl rfl vdX8_saysName ⟨Nat.le_of_ble_eq_true rfl, Nat.le_of_ble_eq_true rfl⟩) (oB.recv hK hM.1 rfl) (W8.mu hM (by simp only [mV, zu, Int.reduceEq, reduceIte])) hK hS (fun _ h => h) rfl hl.1 rfl dX8_saysPath_30 hcs (Nat.le_of_ble_eq_true rfl) (fun H locs hnew hsz hoth hS => ?_)
    have hM : W8 G o [.ref (o 1), .ref (o 2), .ref (o 3), .int (iI (μ 3)), .int (iI (μ 4)), .ref (o 4), .int (iI (μ 6)), .int (iI (μ 7)), .int (iI (μ 8)), .int (iI (μ 9)), .int (iI (μ 10)), .int (iI (μ 11)), .int (iI (μ 12)), .int (iI (μ 13)), .int (iI (μ 14)), .long (iL (μ 15)), .ref (o 5), .int (iI (((μ 17 + ((paL σ 18 (σ (69 + f))).length : Int)) + 1) + ((naL 7 (σ (149 + f))).length : Int)))] σ φ κ β (ouA (zu (ouA ω (μ 17) (paL σ 18 (σ (69 + f)))) ((μ 17 + ((paL σ 18 (σ (69 + f))).length : Int))) 47) (((μ 17 + ((paL σ 18 (σ (69 + f))).length : Int)) + 1)) (naL 7 (σ (149 + f)))) H := W8.eq hnew (by simp only [mV, zu, Int.reduceEq, reduceIte])
    exact z_retWv E hr (by rw [show paL σ 19 f = paL σ 18 (σ (69 + f)) ++ [47] ++ naL 7 (σ (149 + f)) from if_pos (by omega), ← ouA_3]; exact W8.mu hM (by rw [← ouA_l3]; simp only [mV, zu, Int.reduceEq, reduceIte])) hS hlocks dX8_saysPath_33
set_option maxHeartbeats 1000000 in
set_option maxRecDepth 100000 in
theorem mX8_saysPath20 (lL : Launch) (G : GG) (o : Nat → Nat) (μ σ φ κ β ω : Int → Int) (f : Int) (hI : In σ) (hf : 0 ≤ f ∧ f < σ 2) (hd : dpF σ f ≤ 21) (hm : 0 ≤ μ 17 ∧ μ 17 + 189 ≤ 400) : Met lL yX8_saysPath wsX8_saysPath ({ frames := 29, cells := 0, slots := 0, locals := 617 } : Room) (va_Pc [.ref (o 0), .int (iI f)] (fun U => W8 G o (mV o μ) σ φ κ β ω U.heap ∧ KK G U)) (va_Qv (fun _ : Unit => True) (fun _ tZ => W8 G o (mV o (zu μ 17 (μ 17 + ((paL σ 20 f).length : Int)))) σ φ κ β (ouA ω (μ 17) (paL σ 20 f)) tZ.heap) (Ax o 6)) 0 0 (Ax o 6) := by
  refine z_met (P := (fun H : Heap => W8 G o (mV o μ) σ φ κ β ω H)) (by decide) rfl (Nat.le_of_ble_eq_true rfl) (fun pp ee ss mm below meth cC E hr hml hown hts hlocks hM hK ls hl => ?_)
  have hl : lv_has ls 2 [(0, .ref (o 0)), (1, .int (iI f))] := hl
  have hcs : 0 ≤ (({ frames := 29, cells := 0, slots := 0, locals := 617 } : Room)).cells ∧ 0 ≤ (({ frames := 29, cells := 0, slots := 0, locals := 617 } : Room)).slots := ⟨Nat.zero_le _, Nat.zero_le _⟩
  have hS : va_S (Ax o 6) ss.heap ss.heap [] := va_S.rf
  have hin8 : ∀ w ∈ wsX80, w ∈ wsX8_saysPath := fun w h => List.mem_cons_of_mem _ (List.mem_append_right _ (h))
  have hF := hI.F
  have hMm := hI.M
  have hGn := hI.Gn
  have hnk := nmk_b (hI.nam hf.1 hf.2)
  have e9 := dpF_s hI.cs hf.1 hf.2
  refine lv_iload_n (pc := 0) E.1 E.2 dX8_saysPath_0 rfl (lv_at hl 1 rfl) ?_
  refine z_if_le (pc := 1) (tgt := 19) E ⟨by omega, by omega⟩ dX8_saysPath_1 (by decide) (fun h1 => ?_) (fun h1 => ?_)
  · refine lv_aload_n (pc := 19) E.1 E.2 dX8_saysPath_19 rfl (lv_at hl 0 rfl) ?_
    refine lv_aload_n (pc := 20) E.1 E.2 dX8_saysPath_20 rfl (lv_at hl 0 rfl) ?_
    refine g8_0 (pc := 21) E hts hin8 hown hK hM.1 (hts _ (List.mem_of_getElem? (i := 1) rfl)) dX8_saysPath_21 ?_
    refine z_sipush (pc := 24) E (by decide) dX8_saysPath_24 ?_
    refine lv_iload_n (pc := 27) E.1 E.2 dX8_saysPath_27 rfl (lv_at hl 1 rfl) ?_
    refine z_iadd (pc := 28) E dX8_saysPath_28 ?_
    refine z_laload (pc := 29) E hK hM.2.1 ⟨by omega, by omega⟩ (by decide) dX8_saysPath_29 ?_
    have hb29 := hI.bd (149 + f)
    refine z_wVv (pc := 30) (As := [.long (iL (σ (149 + f)))]) (rest := []) E hml hown hts (mX8_saysName7 lL G o μ σ φ κ β ω (σ (149 + f)) (by omega) (by omega)) (cwV 1 hts gX8_saysPath_X8_saysName rfl rfl rfl vdX8_saysName ⟨Nat.le_of_ble_eq_true rfl, Nat.le_of_ble_eq_true rfl⟩) (oB.recv hK hM.1 rfl) hM hK hS (fun _ h => h) rfl hl.1 rfl dX8_saysPath_30 hcs (Nat.le_of_ble_eq_true rfl) (fun H locs hnew hsz hoth hS => ?_)
    have hM : W8 G o [.ref (o 1), .ref (o 2), .ref (o 3), .int (iI (μ 3)), .int (iI (μ 4)), .ref (o 4), .int (iI (μ 6)), .int (iI (μ 7)), .int (iI (μ 8)), .int (iI (μ 9)), .int (iI (μ 10)), .int (iI (μ 11)), .int (iI (μ 12)), .int (iI (μ 13)), .int (iI (μ 14)), .long (iL (μ 15)), .ref (o 5), .int (iI (μ 17 + ((naL 7 (σ (149 + f))).length : Int)))] σ φ κ β (ouA ω (μ 17) (naL 7 (σ (149 + f)))) H := W8.eq hnew (by simp only [mV, zu, Int.reduceEq, reduceIte])
    exact z_retWv E hr (by rw [show paL σ 20 f = naL 7 (σ (149 + f)) from if_neg (by omega)]; exact W8.mu hM (by simp only [mV, zu, Int.reduceEq, reduceIte])) hS hlocks dX8_saysPath_33
  · have hp1 := hI.par1 (f := f) (by omega) hf.2
    refine lv_aload_n (pc := 4) E.1 E.2 dX8_saysPath_4 rfl (lv_at hl 0 rfl) ?_
    refine lv_aload_n (pc := 5) E.1 E.2 dX8_saysPath_5 rfl (lv_at hl 0 rfl) ?_
    refine lv_iload_n (pc := 6) E.1 E.2 dX8_saysPath_6 rfl (lv_at hl 1 rfl) ?_
    refine z_rVi (pc := 7) (As := [.int (iI f)]) (rest := [.ref (o 0)]) E hml hown hts (mX8_parentOf lL G o μ σ φ κ β ω f (by omega)) (cwV 1 hts gX8_saysPath_X8_parentOf rfl rfl rfl vdX8_parentOf ⟨Nat.le_of_ble_eq_true rfl, Nat.le_of_ble_eq_true rfl⟩) (oB.recv hK hM.1 rfl) hM hK rfl hl.1 rfl dX8_saysPath_7 hcs (Nat.le_of_ble_eq_true rfl) ?_
    refine z_wVv (pc := 10) (As := [.int (iI (σ (69 + f)))]) (rest := []) E hml hown hts (mX8_saysPath19 lL G o μ σ φ κ β ω (σ (69 + f)) hI (by omega) (by omega) (by omega)) (cwV 1 hts gX8_saysPath_X8_saysPath rfl rfl rfl vdX8_saysPath ⟨Nat.le_of_ble_eq_true rfl, Nat.le_of_ble_eq_true rfl⟩) (oB.recv hK hM.1 rfl) hM hK hS (fun _ h => h) rfl hl.1 rfl dX8_saysPath_10 hcs (Nat.le_of_ble_eq_true rfl) (fun H locs hnew hsz hoth hS => ?_)
    have hM : W8 G o [.ref (o 1), .ref (o 2), .ref (o 3), .int (iI (μ 3)), .int (iI (μ 4)), .ref (o 4), .int (iI (μ 6)), .int (iI (μ 7)), .int (iI (μ 8)), .int (iI (μ 9)), .int (iI (μ 10)), .int (iI (μ 11)), .int (iI (μ 12)), .int (iI (μ 13)), .int (iI (μ 14)), .long (iL (μ 15)), .ref (o 5), .int (iI (μ 17 + ((paL σ 19 (σ (69 + f))).length : Int)))] σ φ κ β (ouA ω (μ 17) (paL σ 19 (σ (69 + f)))) H := W8.eq hnew (by simp only [mV, zu, Int.reduceEq, reduceIte])
    have hlb := paL_b σ 19 (σ (69 + f))
    refine lv_aload_n (pc := 13) E.1 E.2 dX8_saysPath_13 rfl (lv_at hl 0 rfl) ?_
    refine z_bipush (pc := 14) E (by decide) dX8_saysPath_14 ?_
    refine z_wVv (pc := 16) (As := [.int (iI 47)]) (rest := []) E hml hown hts (mX8_says lL G o (zu μ 17 (μ 17 + ((paL σ 19 (σ (69 + f))).length : Int))) σ φ κ β (ouA ω (μ 17) (paL σ 19 (σ (69 + f)))) 47 (by first | omega | (simp only [zu, Int.reduceEq, reduceIte]; omega)) (by first | omega | (simp only [zu, Int.reduceEq, reduceIte]; omega))) (cwV 1 hts gX8_saysPath_X8_says rfl rfl rfl vdX8_says ⟨Nat.le_of_ble_eq_true rfl, Nat.le_of_ble_eq_true rfl⟩) (oB.recv hK hM.1 rfl) (W8.mu hM (by simp only [mV, zu, Int.reduceEq, reduceIte])) hK hS (fun _ h => h) rfl hl.1 rfl dX8_saysPath_16 hcs (Nat.le_of_ble_eq_true rfl) (fun H locs hnew hsz hoth hS => ?_)
    have hM : W8 G o [.ref (o 1), .ref (o 2), .ref (o 3), .int (iI (μ 3)), .int (iI (μ 4)), .ref (o 4), .int (iI (μ 6)), .int (iI (μ 7)), .int (iI (μ 8)), .int (iI (μ 9)), .int (iI (μ 10)), .int (iI (μ 11)), .int (iI (μ 12)), .int (iI (μ 13)), .int (iI (μ 14)), .long (iL (μ 15)), .ref (o 5), .int (iI ((μ 17 + ((paL σ 19 (σ (69 + f))).length : Int)) + 1))] σ φ κ β (zu (ouA ω (μ 17) (paL σ 19 (σ (69 + f)))) ((μ 17 + ((paL σ 19 (σ (69 + f))).length : Int))) 47) H := W8.eq hnew (by simp only [mV, zu, Int.reduceEq, reduceIte])
    refine lv_aload_n (pc := 19) E.1 E.2 dX8_saysPath_19 rfl (lv_at hl 0 rfl) ?_
    refine lv_aload_n (pc := 20) E.1 E.2 dX8_saysPath_20 rfl (lv_at hl 0 rfl) ?_
    refine g8_0 (pc := 21) E hts hin8 hown hK hM.1 (hts _ (List.mem_of_getElem? (i := 1) rfl)) dX8_saysPath_21 ?_
    refine z_sipush (pc := 24) E (by decide) dX8_saysPath_24 ?_
    refine lv_iload_n (pc := 27) E.1 E.2 dX8_saysPath_27 rfl (lv_at hl 1 rfl) ?_
    refine z_iadd (pc := 28) E dX8_saysPath_28 ?_
    refine z_laload (pc := 29) E hK hM.2.1 ⟨by omega, by omega⟩ (by decide) dX8_saysPath_29 ?_
    have hb29 := hI.bd (149 + f)
    refine z_wVv (pc := 30) (As := [.long (iL (σ (149 + f)))]) (rest := []) E hml hown hts (mX8_saysName7 lL G o (zu (zu μ 17 (μ 17 + ((paL σ 19 (σ (69 + f))).length : Int))) 17 ((μ 17 + ((paL σ 19 (σ (69 + f))).length : Int)) + 1)) σ φ κ β (zu (ouA ω (μ 17) (paL σ 19 (σ (69 + f)))) ((μ 17 + ((paL σ 19 (σ (69 + f))).length : Int))) 47) (σ (149 + f)) (by first | omega | (simp only [zu, Int.reduceEq, reduceIte]; omega)) (by first | omega | (simp only [zu, Int.reduceEq, reduceIte]; omega))) (cwV 1 hts gX8_saysPath_X8_saysName rfl rfl rfl vdX8_saysName ⟨Nat.le_of_ble_eq_true rfl, Nat.le_of_ble_eq_true rfl⟩) (oB.recv hK hM.1 rfl) (W8.mu hM (by simp only [mV, zu, Int.reduceEq, reduceIte])) hK hS (fun _ h => h) rfl hl.1 rfl dX8_saysPath_30 hcs (Nat.le_of_ble_eq_true rfl) (fun H locs hnew hsz hoth hS => ?_)
    have hM : W8 G o [.ref (o 1), .ref (o 2), .ref (o 3), .int (iI (μ 3)), .int (iI (μ 4)), .ref (o 4), .int (iI (μ 6)), .int (iI (μ 7)), .int (iI (μ 8)), .int (iI (μ 9)), .int (iI (μ 10)), .int (iI (μ 11)), .int (iI (μ 12)), .int (iI (μ 13)), .int (iI (μ 14)), .long (iL (μ 15)), .ref (o 5), .int (iI (((μ 17 + ((paL σ 19 (σ (69 + f))).length : Int)) + 1) + ((naL 7 (σ (149 + f))).length : Int)))] σ φ κ β (ouA (zu (ouA ω (μ 17) (paL σ 19 (σ (69 + f)))) ((μ 17 + ((paL σ 19 (σ (69 + f))).length : Int))) 47) (((μ 17 + ((paL σ 19 (σ (69 + f))).length : Int)) + 1)) (naL 7 (σ (149 + f)))) H := W8.eq hnew (by simp only [mV, zu, Int.reduceEq, reduceIte])
    exact z_retWv E hr (by rw [show paL σ 20 f = paL σ 19 (σ (69 + f)) ++ [47] ++ naL 7 (σ (149 + f)) from if_pos (by omega), ← ouA_3]; exact W8.mu hM (by rw [← ouA_l3]; simp only [mV, zu, Int.reduceEq, reduceIte])) hS hlocks dX8_saysPath_33
set_option maxHeartbeats 1000000 in
set_option maxRecDepth 100000 in
theorem mX8_saysPath21 (lL : Launch) (G : GG) (o : Nat → Nat) (μ σ φ κ β ω : Int → Int) (f : Int) (hI : In σ) (hf : 0 ≤ f ∧ f < σ 2) (hd : dpF σ f ≤ 22) (hm : 0 ≤ μ 17 ∧ μ 17 + 198 ≤ 400) : Met lL yX8_saysPath wsX8_saysPath ({ frames := 30, cells := 0, slots := 0, locals := 638 } : Room) (va_Pc [.ref (o 0), .int (iI f)] (fun U => W8 G o (mV o μ) σ φ κ β ω U.heap ∧ KK G U)) (va_Qv (fun _ : Unit => True) (fun _ tZ => W8 G o (mV o (zu μ 17 (μ 17 + ((paL σ 21 f).length : Int)))) σ φ κ β (ouA ω (μ 17) (paL σ 21 f)) tZ.heap) (Ax o 6)) 0 0 (Ax o 6) := by
  refine z_met (P := (fun H : Heap => W8 G o (mV o μ) σ φ κ β ω H)) (by decide) rfl (Nat.le_of_ble_eq_true rfl) (fun pp ee ss mm below meth cC E hr hml hown hts hlocks hM hK ls hl => ?_)
  have hl : lv_has ls 2 [(0, .ref (o 0)), (1, .int (iI f))] := hl
  have hcs : 0 ≤ (({ frames := 30, cells := 0, slots := 0, locals := 638 } : Room)).cells ∧ 0 ≤ (({ frames := 30, cells := 0, slots := 0, locals := 638 } : Room)).slots := ⟨Nat.zero_le _, Nat.zero_le _⟩
  have hS : va_S (Ax o 6) ss.heap ss.heap [] := va_S.rf
  have hin8 : ∀ w ∈ wsX80, w ∈ wsX8_saysPath := fun w h => List.mem_cons_of_mem _ (List.mem_append_right _ (h))
  have hF := hI.F
  have hMm := hI.M
  have hGn := hI.Gn
  have hnk := nmk_b (hI.nam hf.1 hf.2)
  have e9 := dpF_s hI.cs hf.1 hf.2
  refine lv_iload_n (pc := 0) E.1 E.2 dX8_saysPath_0 rfl (lv_at hl 1 rfl) ?_
  refine z_if_le (pc := 1) (tgt := 19) E ⟨by omega, by omega⟩ dX8_saysPath_1 (by decide) (fun h1 => ?_) (fun h1 => ?_)
  · refine lv_aload_n (pc := 19) E.1 E.2 dX8_saysPath_19 rfl (lv_at hl 0 rfl) ?_
    refine lv_aload_n (pc := 20) E.1 E.2 dX8_saysPath_20 rfl (lv_at hl 0 rfl) ?_
    refine g8_0 (pc := 21) E hts hin8 hown hK hM.1 (hts _ (List.mem_of_getElem? (i := 1) rfl)) dX8_saysPath_21 ?_
    refine z_sipush (pc := 24) E (by decide) dX8_saysPath_24 ?_
    refine lv_iload_n (pc := 27) E.1 E.2 dX8_saysPath_27 rfl (lv_at hl 1 rfl) ?_
    refine z_iadd (pc := 28) E dX8_saysPath_28 ?_
    refine z_laload (pc := 29) E hK hM.2.1 ⟨by omega, by omega⟩ (by decide) dX8_saysPath_29 ?_
    have hb29 := hI.bd (149 + f)
    refine z_wVv (pc := 30) (As := [.long (iL (σ (149 + f)))]) (rest := []) E hml hown hts (mX8_saysName7 lL G o μ σ φ κ β ω (σ (149 + f)) (by omega) (by omega)) (cwV 1 hts gX8_saysPath_X8_saysName rfl rfl rfl vdX8_saysName ⟨Nat.le_of_ble_eq_true rfl, Nat.le_of_ble_eq_true rfl⟩) (oB.recv hK hM.1 rfl) hM hK hS (fun _ h => h) rfl hl.1 rfl dX8_saysPath_30 hcs (Nat.le_of_ble_eq_true rfl) (fun H locs hnew hsz hoth hS => ?_)
    have hM : W8 G o [.ref (o 1), .ref (o 2), .ref (o 3), .int (iI (μ 3)), .int (iI (μ 4)), .ref (o 4), .int (iI (μ 6)), .int (iI (μ 7)), .int (iI (μ 8)), .int (iI (μ 9)), .int (iI (μ 10)), .int (iI (μ 11)), .int (iI (μ 12)), .int (iI (μ 13)), .int (iI (μ 14)), .long (iL (μ 15)), .ref (o 5), .int (iI (μ 17 + ((naL 7 (σ (149 + f))).length : Int)))] σ φ κ β (ouA ω (μ 17) (naL 7 (σ (149 + f)))) H := W8.eq hnew (by simp only [mV, zu, Int.reduceEq, reduceIte])
    exact z_retWv E hr (by rw [show paL σ 21 f = naL 7 (σ (149 + f)) from if_neg (by omega)]; exact W8.mu hM (by simp only [mV, zu, Int.reduceEq, reduceIte])) hS hlocks dX8_saysPath_33
  · have hp1 := hI.par1 (f := f) (by omega) hf.2
    refine lv_aload_n (pc := 4) E.1 E.2 dX8_saysPath_4 rfl (lv_at hl 0 rfl) ?_
    refine lv_aload_n (pc := 5) E.1 E.2 dX8_saysPath_5 rfl (lv_at hl 0 rfl) ?_
    refine lv_iload_n (pc := 6) E.1 E.2 dX8_saysPath_6 rfl (lv_at hl 1 rfl) ?_
    refine z_rVi (pc := 7) (As := [.int (iI f)]) (rest := [.ref (o 0)]) E hml hown hts (mX8_parentOf lL G o μ σ φ κ β ω f (by omega)) (cwV 1 hts gX8_saysPath_X8_parentOf rfl rfl rfl vdX8_parentOf ⟨Nat.le_of_ble_eq_true rfl, Nat.le_of_ble_eq_true rfl⟩) (oB.recv hK hM.1 rfl) hM hK rfl hl.1 rfl dX8_saysPath_7 hcs (Nat.le_of_ble_eq_true rfl) ?_
    refine z_wVv (pc := 10) (As := [.int (iI (σ (69 + f)))]) (rest := []) E hml hown hts (mX8_saysPath20 lL G o μ σ φ κ β ω (σ (69 + f)) hI (by omega) (by omega) (by omega)) (cwV 1 hts gX8_saysPath_X8_saysPath rfl rfl rfl vdX8_saysPath ⟨Nat.le_of_ble_eq_true rfl, Nat.le_of_ble_eq_true rfl⟩) (oB.recv hK hM.1 rfl) hM hK hS (fun _ h => h) rfl hl.1 rfl dX8_saysPath_10 hcs (Nat.le_of_ble_eq_true rfl) (fun H locs hnew hsz hoth hS => ?_)
    have hM : W8 G o [.ref (o 1), .ref (o 2), .ref (o 3), .int (iI (μ 3)), .int (iI (μ 4)), .ref (o 4), .int (iI (μ 6)), .int (iI (μ 7)), .int (iI (μ 8)), .int (iI (μ 9)), .int (iI (μ 10)), .int (iI (μ 11)), .int (iI (μ 12)), .int (iI (μ 13)), .int (iI (μ 14)), .long (iL (μ 15)), .ref (o 5), .int (iI (μ 17 + ((paL σ 20 (σ (69 + f))).length : Int)))] σ φ κ β (ouA ω (μ 17) (paL σ 20 (σ (69 + f)))) H := W8.eq hnew (by simp only [mV, zu, Int.reduceEq, reduceIte])
    have hlb := paL_b σ 20 (σ (69 + f))
    refine lv_aload_n (pc := 13) E.1 E.2 dX8_saysPath_13 rfl (lv_at hl 0 rfl) ?_
    refine z_bipush (pc := 14) E (by decide) dX8_saysPath_14 ?_
    refine z_wVv (pc := 16) (As := [.int (iI 47)]) (rest := []) E hml hown hts (mX8_says lL G o (zu μ 17 (μ 17 + ((paL σ 20 (σ (69 + f))).length : Int))) σ φ κ β (ouA ω (μ 17) (paL σ 20 (σ (69 + f)))) 47 (by first | omega | (simp only [zu, Int.reduceEq, reduceIte]; omega)) (by first | omega | (simp only [zu, Int.reduceEq, reduceIte]; omega))) (cwV 1 hts gX8_saysPath_X8_says rfl rfl rfl vdX8_says ⟨Nat.le_of_ble_eq_true rfl, Nat.le_of_ble_eq_true rfl⟩) (oB.recv hK hM.1 rfl) (W8.mu hM (by simp only [mV, zu, Int.reduceEq, reduceIte])) hK hS (fun _ h => h) rfl hl.1 rfl dX8_saysPath_16 hcs (Nat.le_of_ble_eq_true rfl) (fun H locs hnew hsz hoth hS => ?_)
    have hM : W8 G o [.ref (o 1), .ref (o 2), .ref (o 3), .int (iI (μ 3)), .int (iI (μ 4)), .ref (o 4), .int (iI (μ 6)), .int (iI (μ 7)), .int (iI (μ 8)), .int (iI (μ 9)), .int (iI (μ 10)), .int (iI (μ 11)), .int (iI (μ 12)), .int (iI (μ 13)), .int (iI (μ 14)), .long (iL (μ 15)), .ref (o 5), .int (iI ((μ 17 + ((paL σ 20 (σ (69 + f))).length : Int)) + 1))] σ φ κ β (zu (ouA ω (μ 17) (paL σ 20 (σ (69 + f)))) ((μ 17 + ((paL σ 20 (σ (69 + f))).length : Int))) 47) H := W8.eq hnew (by simp only [mV, zu, Int.reduceEq, reduceIte])
    refine lv_aload_n (pc := 19) E.1 E.2 dX8_saysPath_19 rfl (lv_at hl 0 rfl) ?_
    refine lv_aload_n (pc := 20) E.1 E.2 dX8_saysPath_20 rfl (lv_at hl 0 rfl) ?_
    refine g8_0 (pc := 21) E hts hin8 hown hK hM.1 (hts _ (List.mem_of_getElem? (i := 1) rfl)) dX8_saysPath_21 ?_
    refine z_sipush (pc := 24) E (by decide) dX8_saysPath_24 ?_
    refine lv_iload_n (pc := 27) E.1 E.2 dX8_saysPath_27 rfl (lv_at hl 1 rfl) ?_
    refine z_iadd (pc := 28) E dX8_saysPath_28 ?_
    refine z_laload (pc := 29) E hK hM.2.1 ⟨by omega, by omega⟩ (by decide) dX8_saysPath_29 ?_
    have hb29 := hI.bd (149 + f)
    refine z_wVv (pc := 30) (As := [.long (iL (σ (149 + f)))]) (rest := []) E hml hown hts (mX8_saysName7 lL G o (zu (zu μ 17 (μ 17 + ((paL σ 20 (σ (69 + f))).length : Int))) 17 ((μ 17 + ((paL σ 20 (σ (69 + f))).length : Int)) + 1)) σ φ κ β (zu (ouA ω (μ 17) (paL σ 20 (σ (69 + f)))) ((μ 17 + ((paL σ 20 (σ (69 + f))).length : Int))) 47) (σ (149 + f)) (by first | omega | (simp only [zu, Int.reduceEq, reduceIte]; omega)) (by first | omega | (simp only [zu, Int.reduceEq, reduceIte]; omega))) (cwV 1 hts gX8_saysPath_X8_saysName rfl rfl rfl vdX8_saysName ⟨Nat.le_of_ble_eq_true rfl, Nat.le_of_ble_eq_true rfl⟩) (oB.recv hK hM.1 rfl) (W8.mu hM (by simp only [mV, zu, Int.reduceEq, reduceIte])) hK hS (fun _ h => h) rfl hl.1 rfl dX8_saysPath_30 hcs (Nat.le_of_ble_eq_true rfl) (fun H locs hnew hsz hoth hS => ?_)
    have hM : W8 G o [.ref (o 1), .ref (o 2), .ref (o 3), .int (iI (μ 3)), .int (iI (μ 4)), .ref (o 4), .int (iI (μ 6)), .int (iI (μ 7)), .int (iI (μ 8)), .int (iI (μ 9)), .int (iI (μ 10)), .int (iI (μ 11)), .int (iI (μ 12)), .int (iI (μ 13)), .int (iI (μ 14)), .long (iL (μ 15)), .ref (o 5), .int (iI (((μ 17 + ((paL σ 20 (σ (69 + f))).length : Int)) + 1) + ((naL 7 (σ (149 + f))).length : Int)))] σ φ κ β (ouA (zu (ouA ω (μ 17) (paL σ 20 (σ (69 + f)))) ((μ 17 + ((paL σ 20 (σ (69 + f))).length : Int))) 47) (((μ 17 + ((paL σ 20 (σ (69 + f))).length : Int)) + 1)) (naL 7 (σ (149 + f)))) H := W8.eq hnew (by simp only [mV, zu, Int.reduceEq, reduceIte])
    exact z_retWv E hr (by rw [show paL σ 21 f = paL σ 20 (σ (69 + f)) ++ [47] ++ naL 7 (σ (149 + f)) from if_pos (by omega), ← ouA_3]; exact W8.mu hM (by rw [← ouA_l3]; simp only [mV, zu, Int.reduceEq, reduceIte])) hS hlocks dX8_saysPath_33
set_option maxHeartbeats 1000000 in
set_option maxRecDepth 100000 in
theorem mX8_saysPath22 (lL : Launch) (G : GG) (o : Nat → Nat) (μ σ φ κ β ω : Int → Int) (f : Int) (hI : In σ) (hf : 0 ≤ f ∧ f < σ 2) (hd : dpF σ f ≤ 23) (hm : 0 ≤ μ 17 ∧ μ 17 + 207 ≤ 400) : Met lL yX8_saysPath wsX8_saysPath ({ frames := 31, cells := 0, slots := 0, locals := 659 } : Room) (va_Pc [.ref (o 0), .int (iI f)] (fun U => W8 G o (mV o μ) σ φ κ β ω U.heap ∧ KK G U)) (va_Qv (fun _ : Unit => True) (fun _ tZ => W8 G o (mV o (zu μ 17 (μ 17 + ((paL σ 22 f).length : Int)))) σ φ κ β (ouA ω (μ 17) (paL σ 22 f)) tZ.heap) (Ax o 6)) 0 0 (Ax o 6) := by
  refine z_met (P := (fun H : Heap => W8 G o (mV o μ) σ φ κ β ω H)) (by decide) rfl (Nat.le_of_ble_eq_true rfl) (fun pp ee ss mm below meth cC E hr hml hown hts hlocks hM hK ls hl => ?_)
  have hl : lv_has ls 2 [(0, .ref (o 0)), (1, .int (iI f))] := hl
  have hcs : 0 ≤ (({ frames := 31, cells := 0, slots := 0, locals := 659 } : Room)).cells ∧ 0 ≤ (({ frames := 31, cells := 0, slots := 0, locals := 659 } : Room)).slots := ⟨Nat.zero_le _, Nat.zero_le _⟩
  have hS : va_S (Ax o 6) ss.heap ss.heap [] := va_S.rf
  have hin8 : ∀ w ∈ wsX80, w ∈ wsX8_saysPath := fun w h => List.mem_cons_of_mem _ (List.mem_append_right _ (h))
  have hF := hI.F
  have hMm := hI.M
  have hGn := hI.Gn
  have hnk := nmk_b (hI.nam hf.1 hf.2)
  have e9 := dpF_s hI.cs hf.1 hf.2
  refine lv_iload_n (pc := 0) E.1 E.2 dX8_saysPath_0 rfl (lv_at hl 1 rfl) ?_
  refine z_if_le (pc := 1) (tgt := 19) E ⟨by omega, by omega⟩ dX8_saysPath_1 (by decide) (fun h1 => ?_) (fun h1 => ?_)
  · refine lv_aload_n (pc := 19) E.1 E.2 dX8_saysPath_19 rfl (lv_at hl 0 rfl) ?_
    refine lv_aload_n (pc := 20) E.1 E.2 dX8_saysPath_20 rfl (lv_at hl 0 rfl) ?_
    refine g8_0 (pc := 21) E hts hin8 hown hK hM.1 (hts _ (List.mem_of_getElem? (i := 1) rfl)) dX8_saysPath_21 ?_
    refine z_sipush (pc := 24) E (by decide) dX8_saysPath_24 ?_
    refine lv_iload_n (pc := 27) E.1 E.2 dX8_saysPath_27 rfl (lv_at hl 1 rfl) ?_
    refine z_iadd (pc := 28) E dX8_saysPath_28 ?_
    refine z_laload (pc := 29) E hK hM.2.1 ⟨by omega, by omega⟩ (by decide) dX8_saysPath_29 ?_
    have hb29 := hI.bd (149 + f)
    refine z_wVv (pc := 30) (As := [.long (iL (σ (149 + f)))]) (rest := []) E hml hown hts (mX8_saysName7 lL G o μ σ φ κ β ω (σ (149 + f)) (by omega) (by omega)) (cwV 1 hts gX8_saysPath_X8_saysName rfl rfl rfl vdX8_saysName ⟨Nat.le_of_ble_eq_true rfl, Nat.le_of_ble_eq_true rfl⟩) (oB.recv hK hM.1 rfl) hM hK hS (fun _ h => h) rfl hl.1 rfl dX8_saysPath_30 hcs (Nat.le_of_ble_eq_true rfl) (fun H locs hnew hsz hoth hS => ?_)
    have hM : W8 G o [.ref (o 1), .ref (o 2), .ref (o 3), .int (iI (μ 3)), .int (iI (μ 4)), .ref (o 4), .int (iI (μ 6)), .int (iI (μ 7)), .int (iI (μ 8)), .int (iI (μ 9)), .int (iI (μ 10)), .int (iI (μ 11)), .int (iI (μ 12)), .int (iI (μ 13)), .int (iI (μ 14)), .long (iL (μ 15)), .ref (o 5), .int (iI (μ 17 + ((naL 7 (σ (149 + f))).length : Int)))] σ φ κ β (ouA ω (μ 17) (naL 7 (σ (149 + f)))) H := W8.eq hnew (by simp only [mV, zu, Int.reduceEq, reduceIte])
    exact z_retWv E hr (by rw [show paL σ 22 f = naL 7 (σ (149 + f)) from if_neg (by omega)]; exact W8.mu hM (by simp only [mV, zu, Int.reduceEq, reduceIte])) hS hlocks dX8_saysPath_33
  · have hp1 := hI.par1 (f := f) (by omega) hf.2
    refine lv_aload_n (pc := 4) E.1 E.2 dX8_saysPath_4 rfl (lv_at hl 0 rfl) ?_
    refine lv_aload_n (pc := 5) E.1 E.2 dX8_saysPath_5 rfl (lv_at hl 0 rfl) ?_
    refine lv_iload_n (pc := 6) E.1 E.2 dX8_saysPath_6 rfl (lv_at hl 1 rfl) ?_
    refine z_rVi (pc := 7) (As := [.int (iI f)]) (rest := [.ref (o 0)]) E hml hown hts (mX8_parentOf lL G o μ σ φ κ β ω f (by omega)) (cwV 1 hts gX8_saysPath_X8_parentOf rfl rfl rfl vdX8_parentOf ⟨Nat.le_of_ble_eq_true rfl, Nat.le_of_ble_eq_true rfl⟩) (oB.recv hK hM.1 rfl) hM hK rfl hl.1 rfl dX8_saysPath_7 hcs (Nat.le_of_ble_eq_true rfl) ?_
    refine z_wVv (pc := 10) (As := [.int (iI (σ (69 + f)))]) (rest := []) E hml hown hts (mX8_saysPath21 lL G o μ σ φ κ β ω (σ (69 + f)) hI (by omega) (by omega) (by omega)) (cwV 1 hts gX8_saysPath_X8_saysPath rfl rfl rfl vdX8_saysPath ⟨Nat.le_of_ble_eq_true rfl, Nat.le_of_ble_eq_true rfl⟩) (oB.recv hK hM.1 rfl) hM hK hS (fun _ h => h) rfl hl.1 rfl dX8_saysPath_10 hcs (Nat.le_of_ble_eq_true rfl) (fun H locs hnew hsz hoth hS => ?_)
    have hM : W8 G o [.ref (o 1), .ref (o 2), .ref (o 3), .int (iI (μ 3)), .int (iI (μ 4)), .ref (o 4), .int (iI (μ 6)), .int (iI (μ 7)), .int (iI (μ 8)), .int (iI (μ 9)), .int (iI (μ 10)), .int (iI (μ 11)), .int (iI (μ 12)), .int (iI (μ 13)), .int (iI (μ 14)), .long (iL (μ 15)), .ref (o 5), .int (iI (μ 17 + ((paL σ 21 (σ (69 + f))).length : Int)))] σ φ κ β (ouA ω (μ 17) (paL σ 21 (σ (69 + f)))) H := W8.eq hnew (by simp only [mV, zu, Int.reduceEq, reduceIte])
    have hlb := paL_b σ 21 (σ (69 + f))
    refine lv_aload_n (pc := 13) E.1 E.2 dX8_saysPath_13 rfl (lv_at hl 0 rfl) ?_
    refine z_bipush (pc := 14) E (by decide) dX8_saysPath_14 ?_
    refine z_wVv (pc := 16) (As := [.int (iI 47)]) (rest := []) E hml hown hts (mX8_says lL G o (zu μ 17 (μ 17 + ((paL σ 21 (σ (69 + f))).length : Int))) σ φ κ β (ouA ω (μ 17) (paL σ 21 (σ (69 + f)))) 47 (by first | omega | (simp only [zu, Int.reduceEq, reduceIte]; omega)) (by first | omega | (simp only [zu, Int.reduceEq, reduceIte]; omega))) (cwV 1 hts gX8_saysPath_X8_says rfl rfl rfl vdX8_says ⟨Nat.le_of_ble_eq_true rfl, Nat.le_of_ble_eq_true rfl⟩) (oB.recv hK hM.1 rfl) (W8.mu hM (by simp only [mV, zu, Int.reduceEq, reduceIte])) hK hS (fun _ h => h) rfl hl.1 rfl dX8_saysPath_16 hcs (Nat.le_of_ble_eq_true rfl) (fun H locs hnew hsz hoth hS => ?_)
    have hM : W8 G o [.ref (o 1), .ref (o 2), .ref (o 3), .int (iI (μ 3)), .int (iI (μ 4)), .ref (o 4), .int (iI (μ 6)), .int (iI (μ 7)), .int (iI (μ 8)), .int (iI (μ 9)), .int (iI (μ 10)), .int (iI (μ 11)), .int (iI (μ 12)), .int (iI (μ 13)), .int (iI (μ 14)), .long (iL (μ 15)), .ref (o 5), .int (iI ((μ 17 + ((paL σ 21 (σ (69 + f))).length : Int)) + 1))] σ φ κ β (zu (ouA ω (μ 17) (paL σ 21 (σ (69 + f)))) ((μ 17 + ((paL σ 21 (σ (69 + f))).length : Int))) 47) H := W8.eq hnew (by simp only [mV, zu, Int.reduceEq, reduceIte])
    refine lv_aload_n (pc := 19) E.1 E.2 dX8_saysPath_19 rfl (lv_at hl 0 rfl) ?_
    refine lv_aload_n (pc := 20) E.1 E.2 dX8_saysPath_20 rfl (lv_at hl 0 rfl) ?_
    refine g8_0 (pc := 21) E hts hin8 hown hK hM.1 (hts _ (List.mem_of_getElem? (i := 1) rfl)) dX8_saysPath_21 ?_
    refine z_sipush (pc := 24) E (by decide) dX8_saysPath_24 ?_
    refine lv_iload_n (pc := 27) E.1 E.2 dX8_saysPath_27 rfl (lv_at hl 1 rfl) ?_
    refine z_iadd (pc := 28) E dX8_saysPath_28 ?_
    refine z_laload (pc := 29) E hK hM.2.1 ⟨by omega, by omega⟩ (by decide) dX8_saysPath_29 ?_
    have hb29 := hI.bd (149 + f)
    refine z_wVv (pc := 30) (As := [.long (iL (σ (149 + f)))]) (rest := []) E hml hown hts (mX8_saysName7 lL G o (zu (zu μ 17 (μ 17 + ((paL σ 21 (σ (69 + f))).length : Int))) 17 ((μ 17 + ((paL σ 21 (σ (69 + f))).length : Int)) + 1)) σ φ κ β (zu (ouA ω (μ 17) (paL σ 21 (σ (69 + f)))) ((μ 17 + ((paL σ 21 (σ (69 + f))).length : Int))) 47) (σ (149 + f)) (by first | omega | (simp only [zu, Int.reduceEq, reduceIte]; omega)) (by first | omega | (simp only [zu, Int.reduceEq, reduceIte]; omega))) (cwV 1 hts gX8_saysPath_X8_saysName rfl rfl rfl vdX8_saysName ⟨Nat.le_of_ble_eq_true rfl, Nat.le_of_ble_eq_true rfl⟩) (oB.recv hK hM.1 rfl) (W8.mu hM (by simp only [mV, zu, Int.reduceEq, reduceIte])) hK hS (fun _ h => h) rfl hl.1 rfl dX8_saysPath_30 hcs (Nat.le_of_ble_eq_true rfl) (fun H locs hnew hsz hoth hS => ?_)
    have hM : W8 G o [.ref (o 1), .ref (o 2), .ref (o 3), .int (iI (μ 3)), .int (iI (μ 4)), .ref (o 4), .int (iI (μ 6)), .int (iI (μ 7)), .int (iI (μ 8)), .int (iI (μ 9)), .int (iI (μ 10)), .int (iI (μ 11)), .int (iI (μ 12)), .int (iI (μ 13)), .int (iI (μ 14)), .long (iL (μ 15)), .ref (o 5), .int (iI (((μ 17 + ((paL σ 21 (σ (69 + f))).length : Int)) + 1) + ((naL 7 (σ (149 + f))).length : Int)))] σ φ κ β (ouA (zu (ouA ω (μ 17) (paL σ 21 (σ (69 + f)))) ((μ 17 + ((paL σ 21 (σ (69 + f))).length : Int))) 47) (((μ 17 + ((paL σ 21 (σ (69 + f))).length : Int)) + 1)) (naL 7 (σ (149 + f)))) H := W8.eq hnew (by simp only [mV, zu, Int.reduceEq, reduceIte])
    exact z_retWv E hr (by rw [show paL σ 22 f = paL σ 21 (σ (69 + f)) ++ [47] ++ naL 7 (σ (149 + f)) from if_pos (by omega), ← ouA_3]; exact W8.mu hM (by rw [← ouA_l3]; simp only [mV, zu, Int.reduceEq, reduceIte])) hS hlocks dX8_saysPath_33
set_option maxHeartbeats 1000000 in
set_option maxRecDepth 100000 in
theorem mX8_saysPath23 (lL : Launch) (G : GG) (o : Nat → Nat) (μ σ φ κ β ω : Int → Int) (f : Int) (hI : In σ) (hf : 0 ≤ f ∧ f < σ 2) (hd : dpF σ f ≤ 24) (hm : 0 ≤ μ 17 ∧ μ 17 + 216 ≤ 400) : Met lL yX8_saysPath wsX8_saysPath ({ frames := 32, cells := 0, slots := 0, locals := 680 } : Room) (va_Pc [.ref (o 0), .int (iI f)] (fun U => W8 G o (mV o μ) σ φ κ β ω U.heap ∧ KK G U)) (va_Qv (fun _ : Unit => True) (fun _ tZ => W8 G o (mV o (zu μ 17 (μ 17 + ((paL σ 23 f).length : Int)))) σ φ κ β (ouA ω (μ 17) (paL σ 23 f)) tZ.heap) (Ax o 6)) 0 0 (Ax o 6) := by
  refine z_met (P := (fun H : Heap => W8 G o (mV o μ) σ φ κ β ω H)) (by decide) rfl (Nat.le_of_ble_eq_true rfl) (fun pp ee ss mm below meth cC E hr hml hown hts hlocks hM hK ls hl => ?_)
  have hl : lv_has ls 2 [(0, .ref (o 0)), (1, .int (iI f))] := hl
  have hcs : 0 ≤ (({ frames := 32, cells := 0, slots := 0, locals := 680 } : Room)).cells ∧ 0 ≤ (({ frames := 32, cells := 0, slots := 0, locals := 680 } : Room)).slots := ⟨Nat.zero_le _, Nat.zero_le _⟩
  have hS : va_S (Ax o 6) ss.heap ss.heap [] := va_S.rf
  have hin8 : ∀ w ∈ wsX80, w ∈ wsX8_saysPath := fun w h => List.mem_cons_of_mem _ (List.mem_append_right _ (h))
  have hF := hI.F
  have hMm := hI.M
  have hGn := hI.Gn
  have hnk := nmk_b (hI.nam hf.1 hf.2)
  have e9 := dpF_s hI.cs hf.1 hf.2
  refine lv_iload_n (pc := 0) E.1 E.2 dX8_saysPath_0 rfl (lv_at hl 1 rfl) ?_
  refine z_if_le (pc := 1) (tgt := 19) E ⟨by omega, by omega⟩ dX8_saysPath_1 (by decide) (fun h1 => ?_) (fun h1 => ?_)
  · refine lv_aload_n (pc := 19) E.1 E.2 dX8_saysPath_19 rfl (lv_at hl 0 rfl) ?_
    refine lv_aload_n (pc := 20) E.1 E.2 dX8_saysPath_20 rfl (lv_at hl 0 rfl) ?_
    refine g8_0 (pc := 21) E hts hin8 hown hK hM.1 (hts _ (List.mem_of_getElem? (i := 1) rfl)) dX8_saysPath_21 ?_
    refine z_sipush (pc := 24) E (by decide) dX8_saysPath_24 ?_
    refine lv_iload_n (pc := 27) E.1 E.2 dX8_saysPath_27 rfl (lv_at hl 1 rfl) ?_
    refine z_iadd (pc := 28) E dX8_saysPath_28 ?_
    refine z_laload (pc := 29) E hK hM.2.1 ⟨by omega, by omega⟩ (by decide) dX8_saysPath_29 ?_
    have hb29 := hI.bd (149 + f)
    refine z_wVv (pc := 30) (As := [.long (iL (σ (149 + f)))]) (rest := []) E hml hown hts (mX8_saysName7 lL G o μ σ φ κ β ω (σ (149 + f)) (by omega) (by omega)) (cwV 1 hts gX8_saysPath_X8_saysName rfl rfl rfl vdX8_saysName ⟨Nat.le_of_ble_eq_true rfl, Nat.le_of_ble_eq_true rfl⟩) (oB.recv hK hM.1 rfl) hM hK hS (fun _ h => h) rfl hl.1 rfl dX8_saysPath_30 hcs (Nat.le_of_ble_eq_true rfl) (fun H locs hnew hsz hoth hS => ?_)
    have hM : W8 G o [.ref (o 1), .ref (o 2), .ref (o 3), .int (iI (μ 3)), .int (iI (μ 4)), .ref (o 4), .int (iI (μ 6)), .int (iI (μ 7)), .int (iI (μ 8)), .int (iI (μ 9)), .int (iI (μ 10)), .int (iI (μ 11)), .int (iI (μ 12)), .int (iI (μ 13)), .int (iI (μ 14)), .long (iL (μ 15)), .ref (o 5), .int (iI (μ 17 + ((naL 7 (σ (149 + f))).length : Int)))] σ φ κ β (ouA ω (μ 17) (naL 7 (σ (149 + f)))) H := W8.eq hnew (by simp only [mV, zu, Int.reduceEq, reduceIte])
    exact z_retWv E hr (by rw [show paL σ 23 f = naL 7 (σ (149 + f)) from if_neg (by omega)]; exact W8.mu hM (by simp only [mV, zu, Int.reduceEq, reduceIte])) hS hlocks dX8_saysPath_33
  · have hp1 := hI.par1 (f := f) (by omega) hf.2
    refine lv_aload_n (pc := 4) E.1 E.2 dX8_saysPath_4 rfl (lv_at hl 0 rfl) ?_
    refine lv_aload_n (pc := 5) E.1 E.2 dX8_saysPath_5 rfl (lv_at hl 0 rfl) ?_
    refine lv_iload_n (pc := 6) E.1 E.2 dX8_saysPath_6 rfl (lv_at hl 1 rfl) ?_
    refine z_rVi (pc := 7) (As := [.int (iI f)]) (rest := [.ref (o 0)]) E hml hown hts (mX8_parentOf lL G o μ σ φ κ β ω f (by omega)) (cwV 1 hts gX8_saysPath_X8_parentOf rfl rfl rfl vdX8_parentOf ⟨Nat.le_of_ble_eq_true rfl, Nat.le_of_ble_eq_true rfl⟩) (oB.recv hK hM.1 rfl) hM hK rfl hl.1 rfl dX8_saysPath_7 hcs (Nat.le_of_ble_eq_true rfl) ?_
    refine z_wVv (pc := 10) (As := [.int (iI (σ (69 + f)))]) (rest := []) E hml hown hts (mX8_saysPath22 lL G o μ σ φ κ β ω (σ (69 + f)) hI (by omega) (by omega) (by omega)) (cwV 1 hts gX8_saysPath_X8_saysPath rfl rfl rfl vdX8_saysPath ⟨Nat.le_of_ble_eq_true rfl, Nat.le_of_ble_eq_true rfl⟩) (oB.recv hK hM.1 rfl) hM hK hS (fun _ h => h) rfl hl.1 rfl dX8_saysPath_10 hcs (Nat.le_of_ble_eq_true rfl) (fun H locs hnew hsz hoth hS => ?_)
    have hM : W8 G o [.ref (o 1), .ref (o 2), .ref (o 3), .int (iI (μ 3)), .int (iI (μ 4)), .ref (o 4), .int (iI (μ 6)), .int (iI (μ 7)), .int (iI (μ 8)), .int (iI (μ 9)), .int (iI (μ 10)), .int (iI (μ 11)), .int (iI (μ 12)), .int (iI (μ 13)), .int (iI (μ 14)), .long (iL (μ 15)), .ref (o 5), .int (iI (μ 17 + ((paL σ 22 (σ (69 + f))).length : Int)))] σ φ κ β (ouA ω (μ 17) (paL σ 22 (σ (69 + f)))) H := W8.eq hnew (by simp only [mV, zu, Int.reduceEq, reduceIte])
    have hlb := paL_b σ 22 (σ (69 + f))
    refine lv_aload_n (pc := 13) E.1 E.2 dX8_saysPath_13 rfl (lv_at hl 0 rfl) ?_
    refine z_bipush (pc := 14) E (by decide) dX8_saysPath_14 ?_
    refine z_wVv (pc := 16) (As := [.int (iI 47)]) (rest := []) E hml hown hts (mX8_says lL G o (zu μ 17 (μ 17 + ((paL σ 22 (σ (69 + f))).length : Int))) σ φ κ β (ouA ω (μ 17) (paL σ 22 (σ (69 + f)))) 47 (by first | omega | (simp only [zu, Int.reduceEq, reduceIte]; omega)) (by first | omega | (simp only [zu, Int.reduceEq, reduceIte]; omega))) (cwV 1 hts gX8_saysPath_X8_says rfl rfl rfl vdX8_says ⟨Nat.le_of_ble_eq_true rfl, Nat.le_of_ble_eq_true rfl⟩) (oB.recv hK hM.1 rfl) (W8.mu hM (by simp only [mV, zu, Int.reduceEq, reduceIte])) hK hS (fun _ h => h) rfl hl.1 rfl dX8_saysPath_16 hcs (Nat.le_of_ble_eq_true rfl) (fun H locs hnew hsz hoth hS => ?_)
    have hM : W8 G o [.ref (o 1), .ref (o 2), .ref (o 3), .int (iI (μ 3)), .int (iI (μ 4)), .ref (o 4), .int (iI (μ 6)), .int (iI (μ 7)), .int (iI (μ 8)), .int (iI (μ 9)), .int (iI (μ 10)), .int (iI (μ 11)), .int (iI (μ 12)), .int (iI (μ 13)), .int (iI (μ 14)), .long (iL (μ 15)), .ref (o 5), .int (iI ((μ 17 + ((paL σ 22 (σ (69 + f))).length : Int)) + 1))] σ φ κ β (zu (ouA ω (μ 17) (paL σ 22 (σ (69 + f)))) ((μ 17 + ((paL σ 22 (σ (69 + f))).length : Int))) 47) H := W8.eq hnew (by simp only [mV, zu, Int.reduceEq, reduceIte])
    refine lv_aload_n (pc := 19) E.1 E.2 dX8_saysPath_19 rfl (lv_at hl 0 rfl) ?_
    refine lv_aload_n (pc := 20) E.1 E.2 dX8_saysPath_20 rfl (lv_at hl 0 rfl) ?_
    refine g8_0 (pc := 21) E hts hin8 hown hK hM.1 (hts _ (List.mem_of_getElem? (i := 1) rfl)) dX8_saysPath_21 ?_
    refine z_sipush (pc := 24) E (by decide) dX8_saysPath_24 ?_
    refine lv_iload_n (pc := 27) E.1 E.2 dX8_saysPath_27 rfl (lv_at hl 1 rfl) ?_
    refine z_iadd (pc := 28) E dX8_saysPath_28 ?_
    refine z_laload (pc := 29) E hK hM.2.1 ⟨by omega, by omega⟩ (by decide) dX8_saysPath_29 ?_
    have hb29 := hI.bd (149 + f)
    refine z_wVv (pc := 30) (As := [.long (iL (σ (149 + f)))]) (rest := []) E hml hown hts (mX8_saysName7 lL G o (zu (zu μ 17 (μ 17 + ((paL σ 22 (σ (69 + f))).length : Int))) 17 ((μ 17 + ((paL σ 22 (σ (69 + f))).length : Int)) + 1)) σ φ κ β (zu (ouA ω (μ 17) (paL σ 22 (σ (69 + f)))) ((μ 17 + ((paL σ 22 (σ (69 + f))).length : Int))) 47) (σ (149 + f)) (by first | omega | (simp only [zu, Int.reduceEq, reduceIte]; omega)) (by first | omega | (simp only [zu, Int.reduceEq, reduceIte]; omega))) (cwV 1 hts gX8_saysPath_X8_saysName rfl rfl rfl vdX8_saysName ⟨Nat.le_of_ble_eq_true rfl, Nat.le_of_ble_eq_true rfl⟩) (oB.recv hK hM.1 rfl) (W8.mu hM (by simp only [mV, zu, Int.reduceEq, reduceIte])) hK hS (fun _ h => h) rfl hl.1 rfl dX8_saysPath_30 hcs (Nat.le_of_ble_eq_true rfl) (fun H locs hnew hsz hoth hS => ?_)
    have hM : W8 G o [.ref (o 1), .ref (o 2), .ref (o 3), .int (iI (μ 3)), .int (iI (μ 4)), .ref (o 4), .int (iI (μ 6)), .int (iI (μ 7)), .int (iI (μ 8)), .int (iI (μ 9)), .int (iI (μ 10)), .int (iI (μ 11)), .int (iI (μ 12)), .int (iI (μ 13)), .int (iI (μ 14)), .long (iL (μ 15)), .ref (o 5), .int (iI (((μ 17 + ((paL σ 22 (σ (69 + f))).length : Int)) + 1) + ((naL 7 (σ (149 + f))).length : Int)))] σ φ κ β (ouA (zu (ouA ω (μ 17) (paL σ 22 (σ (69 + f)))) ((μ 17 + ((paL σ 22 (σ (69 + f))).length : Int))) 47) (((μ 17 + ((paL σ 22 (σ (69 + f))).length : Int)) + 1)) (naL 7 (σ (149 + f)))) H := W8.eq hnew (by simp only [mV, zu, Int.reduceEq, reduceIte])
    exact z_retWv E hr (by rw [show paL σ 23 f = paL σ 22 (σ (69 + f)) ++ [47] ++ naL 7 (σ (149 + f)) from if_pos (by omega), ← ouA_3]; exact W8.mu hM (by rw [← ouA_l3]; simp only [mV, zu, Int.reduceEq, reduceIte])) hS hlocks dX8_saysPath_33
set_option maxHeartbeats 1000000 in
set_option maxRecDepth 100000 in
theorem mX8_saysPath24 (lL : Launch) (G : GG) (o : Nat → Nat) (μ σ φ κ β ω : Int → Int) (f : Int) (hI : In σ) (hf : 0 ≤ f ∧ f < σ 2) (hd : dpF σ f ≤ 25) (hm : 0 ≤ μ 17 ∧ μ 17 + 225 ≤ 400) : Met lL yX8_saysPath wsX8_saysPath ({ frames := 33, cells := 0, slots := 0, locals := 701 } : Room) (va_Pc [.ref (o 0), .int (iI f)] (fun U => W8 G o (mV o μ) σ φ κ β ω U.heap ∧ KK G U)) (va_Qv (fun _ : Unit => True) (fun _ tZ => W8 G o (mV o (zu μ 17 (μ 17 + ((paL σ 24 f).length : Int)))) σ φ κ β (ouA ω (μ 17) (paL σ 24 f)) tZ.heap) (Ax o 6)) 0 0 (Ax o 6) := by
  refine z_met (P := (fun H : Heap => W8 G o (mV o μ) σ φ κ β ω H)) (by decide) rfl (Nat.le_of_ble_eq_true rfl) (fun pp ee ss mm below meth cC E hr hml hown hts hlocks hM hK ls hl => ?_)
  have hl : lv_has ls 2 [(0, .ref (o 0)), (1, .int (iI f))] := hl
  have hcs : 0 ≤ (({ frames := 33, cells := 0, slots := 0, locals := 701 } : Room)).cells ∧ 0 ≤ (({ frames := 33, cells := 0, slots := 0, locals := 701 } : Room)).slots := ⟨Nat.zero_le _, Nat.zero_le _⟩
  have hS : va_S (Ax o 6) ss.heap ss.heap [] := va_S.rf
  have hin8 : ∀ w ∈ wsX80, w ∈ wsX8_saysPath := fun w h => List.mem_cons_of_mem _ (List.mem_append_right _ (h))
  have hF := hI.F
  have hMm := hI.M
  have hGn := hI.Gn
  have hnk := nmk_b (hI.nam hf.1 hf.2)
  have e9 := dpF_s hI.cs hf.1 hf.2
  refine lv_iload_n (pc := 0) E.1 E.2 dX8_saysPath_0 rfl (lv_at hl 1 rfl) ?_
  refine z_if_le (pc := 1) (tgt := 19) E ⟨by omega, by omega⟩ dX8_saysPath_1 (by decide) (fun h1 => ?_) (fun h1 => ?_)
  · refine lv_aload_n (pc := 19) E.1 E.2 dX8_saysPath_19 rfl (lv_at hl 0 rfl) ?_
    refine lv_aload_n (pc := 20) E.1 E.2 dX8_saysPath_20 rfl (lv_at hl 0 rfl) ?_
    refine g8_0 (pc := 21) E hts hin8 hown hK hM.1 (hts _ (List.mem_of_getElem? (i := 1) rfl)) dX8_saysPath_21 ?_
    refine z_sipush (pc := 24) E (by decide) dX8_saysPath_24 ?_
    refine lv_iload_n (pc := 27) E.1 E.2 dX8_saysPath_27 rfl (lv_at hl 1 rfl) ?_
    refine z_iadd (pc := 28) E dX8_saysPath_28 ?_
    refine z_laload (pc := 29) E hK hM.2.1 ⟨by omega, by omega⟩ (by decide) dX8_saysPath_29 ?_
    have hb29 := hI.bd (149 + f)
    refine z_wVv (pc := 30) (As := [.long (iL (σ (149 + f)))]) (rest := []) E hml hown hts (mX8_saysName7 lL G o μ σ φ κ β ω (σ (149 + f)) (by omega) (by omega)) (cwV 1 hts gX8_saysPath_X8_saysName rfl rfl rfl vdX8_saysName ⟨Nat.le_of_ble_eq_true rfl, Nat.le_of_ble_eq_true rfl⟩) (oB.recv hK hM.1 rfl) hM hK hS (fun _ h => h) rfl hl.1 rfl dX8_saysPath_30 hcs (Nat.le_of_ble_eq_true rfl) (fun H locs hnew hsz hoth hS => ?_)
    have hM : W8 G o [.ref (o 1), .ref (o 2), .ref (o 3), .int (iI (μ 3)), .int (iI (μ 4)), .ref (o 4), .int (iI (μ 6)), .int (iI (μ 7)), .int (iI (μ 8)), .int (iI (μ 9)), .int (iI (μ 10)), .int (iI (μ 11)), .int (iI (μ 12)), .int (iI (μ 13)), .int (iI (μ 14)), .long (iL (μ 15)), .ref (o 5), .int (iI (μ 17 + ((naL 7 (σ (149 + f))).length : Int)))] σ φ κ β (ouA ω (μ 17) (naL 7 (σ (149 + f)))) H := W8.eq hnew (by simp only [mV, zu, Int.reduceEq, reduceIte])
    exact z_retWv E hr (by rw [show paL σ 24 f = naL 7 (σ (149 + f)) from if_neg (by omega)]; exact W8.mu hM (by simp only [mV, zu, Int.reduceEq, reduceIte])) hS hlocks dX8_saysPath_33
  · have hp1 := hI.par1 (f := f) (by omega) hf.2
    refine lv_aload_n (pc := 4) E.1 E.2 dX8_saysPath_4 rfl (lv_at hl 0 rfl) ?_
    refine lv_aload_n (pc := 5) E.1 E.2 dX8_saysPath_5 rfl (lv_at hl 0 rfl) ?_
    refine lv_iload_n (pc := 6) E.1 E.2 dX8_saysPath_6 rfl (lv_at hl 1 rfl) ?_
    refine z_rVi (pc := 7) (As := [.int (iI f)]) (rest := [.ref (o 0)]) E hml hown hts (mX8_parentOf lL G o μ σ φ κ β ω f (by omega)) (cwV 1 hts gX8_saysPath_X8_parentOf rfl rfl rfl vdX8_parentOf ⟨Nat.le_of_ble_eq_true rfl, Nat.le_of_ble_eq_true rfl⟩) (oB.recv hK hM.1 rfl) hM hK rfl hl.1 rfl dX8_saysPath_7 hcs (Nat.le_of_ble_eq_true rfl) ?_
    refine z_wVv (pc := 10) (As := [.int (iI (σ (69 + f)))]) (rest := []) E hml hown hts (mX8_saysPath23 lL G o μ σ φ κ β ω (σ (69 + f)) hI (by omega) (by omega) (by omega)) (cwV 1 hts gX8_saysPath_X8_saysPath rfl rfl rfl vdX8_saysPath ⟨Nat.le_of_ble_eq_true rfl, Nat.le_of_ble_eq_true rfl⟩) (oB.recv hK hM.1 rfl) hM hK hS (fun _ h => h) rfl hl.1 rfl dX8_saysPath_10 hcs (Nat.le_of_ble_eq_true rfl) (fun H locs hnew hsz hoth hS => ?_)
    have hM : W8 G o [.ref (o 1), .ref (o 2), .ref (o 3), .int (iI (μ 3)), .int (iI (μ 4)), .ref (o 4), .int (iI (μ 6)), .int (iI (μ 7)), .int (iI (μ 8)), .int (iI (μ 9)), .int (iI (μ 10)), .int (iI (μ 11)), .int (iI (μ 12)), .int (iI (μ 13)), .int (iI (μ 14)), .long (iL (μ 15)), .ref (o 5), .int (iI (μ 17 + ((paL σ 23 (σ (69 + f))).length : Int)))] σ φ κ β (ouA ω (μ 17) (paL σ 23 (σ (69 + f)))) H := W8.eq hnew (by simp only [mV, zu, Int.reduceEq, reduceIte])
    have hlb := paL_b σ 23 (σ (69 + f))
    refine lv_aload_n (pc := 13) E.1 E.2 dX8_saysPath_13 rfl (lv_at hl 0 rfl) ?_
    refine z_bipush (pc := 14) E (by decide) dX8_saysPath_14 ?_
    refine z_wVv (pc := 16) (As := [.int (iI 47)]) (rest := []) E hml hown hts (mX8_says lL G o (zu μ 17 (μ 17 + ((paL σ 23 (σ (69 + f))).length : Int))) σ φ κ β (ouA ω (μ 17) (paL σ 23 (σ (69 + f)))) 47 (by first | omega | (simp only [zu, Int.reduceEq, reduceIte]; omega)) (by first | omega | (simp only [zu, Int.reduceEq, reduceIte]; omega))) (cwV 1 hts gX8_saysPath_X8_says rfl rfl rfl vdX8_says ⟨Nat.le_of_ble_eq_true rfl, Nat.le_of_ble_eq_true rfl⟩) (oB.recv hK hM.1 rfl) (W8.mu hM (by simp only [mV, zu, Int.reduceEq, reduceIte])) hK hS (fun _ h => h) rfl hl.1 rfl dX8_saysPath_16 hcs (Nat.le_of_ble_eq_true rfl) (fun H locs hnew hsz hoth hS => ?_)
    have hM : W8 G o [.ref (o 1), .ref (o 2), .ref (o 3), .int (iI (μ 3)), .int (iI (μ 4)), .ref (o 4), .int (iI (μ 6)), .int (iI (μ 7)), .int (iI (μ 8)), .int (iI (μ 9)), .int (iI (μ 10)), .int (iI (μ 11)), .int (iI (μ 12)), .int (iI (μ 13)), .int (iI (μ 14)), .long (iL (μ 15)), .ref (o 5), .int (iI ((μ 17 + ((paL σ 23 (σ (69 + f))).length : Int)) + 1))] σ φ κ β (zu (ouA ω (μ 17) (paL σ 23 (σ (69 + f)))) ((μ 17 + ((paL σ 23 (σ (69 + f))).length : Int))) 47) H := W8.eq hnew (by simp only [mV, zu, Int.reduceEq, reduceIte])
    refine lv_aload_n (pc := 19) E.1 E.2 dX8_saysPath_19 rfl (lv_at hl 0 rfl) ?_
    refine lv_aload_n (pc := 20) E.1 E.2 dX8_saysPath_20 rfl (lv_at hl 0 rfl) ?_
    refine g8_0 (pc := 21) E hts hin8 hown hK hM.1 (hts _ (List.mem_of_getElem? (i := 1) rfl)) dX8_saysPath_21 ?_
    refine z_sipush (pc := 24) E (by decide) dX8_saysPath_24 ?_
    refine lv_iload_n (pc := 27) E.1 E.2 dX8_saysPath_27 rfl (lv_at hl 1 rfl) ?_
    refine z_iadd (pc := 28) E dX8_saysPath_28 ?_
    refine z_laload (pc := 29) E hK hM.2.1 ⟨by omega, by omega⟩ (by decide) dX8_saysPath_29 ?_
    have hb29 := hI.bd (149 + f)
    refine z_wVv (pc := 30) (As := [.long (iL (σ (149 + f)))]) (rest := []) E hml hown hts (mX8_saysName7 lL G o (zu (zu μ 17 (μ 17 + ((paL σ 23 (σ (69 + f))).length : Int))) 17 ((μ 17 + ((paL σ 23 (σ (69 + f))).length : Int)) + 1)) σ φ κ β (zu (ouA ω (μ 17) (paL σ 23 (σ (69 + f)))) ((μ 17 + ((paL σ 23 (σ (69 + f))).length : Int))) 47) (σ (149 + f)) (by first | omega | (simp only [zu, Int.reduceEq, reduceIte]; omega)) (by first | omega | (simp only [zu, Int.reduceEq, reduceIte]; omega))) (cwV 1 hts gX8_saysPath_X8_saysName rfl rfl rfl vdX8_saysName ⟨Nat.le_of_ble_eq_true rfl, Nat.le_of_ble_eq_true rfl⟩) (oB.recv hK hM.1 rfl) (W8.mu hM (by simp only [mV, zu, Int.reduceEq, reduceIte])) hK hS (fun _ h => h) rfl hl.1 rfl dX8_saysPath_30 hcs (Nat.le_of_ble_eq_true rfl) (fun H locs hnew hsz hoth hS => ?_)
    have hM : W8 G o [.ref (o 1), .ref (o 2), .ref (o 3), .int (iI (μ 3)), .int (iI (μ 4)), .ref (o 4), .int (iI (μ 6)), .int (iI (μ 7)), .int (iI (μ 8)), .int (iI (μ 9)), .int (iI (μ 10)), .int (iI (μ 11)), .int (iI (μ 12)), .int (iI (μ 13)), .int (iI (μ 14)), .long (iL (μ 15)), .ref (o 5), .int (iI (((μ 17 + ((paL σ 23 (σ (69 + f))).length : Int)) + 1) + ((naL 7 (σ (149 + f))).length : Int)))] σ φ κ β (ouA (zu (ouA ω (μ 17) (paL σ 23 (σ (69 + f)))) ((μ 17 + ((paL σ 23 (σ (69 + f))).length : Int))) 47) (((μ 17 + ((paL σ 23 (σ (69 + f))).length : Int)) + 1)) (naL 7 (σ (149 + f)))) H := W8.eq hnew (by simp only [mV, zu, Int.reduceEq, reduceIte])
    exact z_retWv E hr (by rw [show paL σ 24 f = paL σ 23 (σ (69 + f)) ++ [47] ++ naL 7 (σ (149 + f)) from if_pos (by omega), ← ouA_3]; exact W8.mu hM (by rw [← ouA_l3]; simp only [mV, zu, Int.reduceEq, reduceIte])) hS hlocks dX8_saysPath_33
set_option maxHeartbeats 1000000 in
set_option maxRecDepth 100000 in
theorem mX8_saysPath25 (lL : Launch) (G : GG) (o : Nat → Nat) (μ σ φ κ β ω : Int → Int) (f : Int) (hI : In σ) (hf : 0 ≤ f ∧ f < σ 2) (hd : dpF σ f ≤ 26) (hm : 0 ≤ μ 17 ∧ μ 17 + 234 ≤ 400) : Met lL yX8_saysPath wsX8_saysPath ({ frames := 34, cells := 0, slots := 0, locals := 722 } : Room) (va_Pc [.ref (o 0), .int (iI f)] (fun U => W8 G o (mV o μ) σ φ κ β ω U.heap ∧ KK G U)) (va_Qv (fun _ : Unit => True) (fun _ tZ => W8 G o (mV o (zu μ 17 (μ 17 + ((paL σ 25 f).length : Int)))) σ φ κ β (ouA ω (μ 17) (paL σ 25 f)) tZ.heap) (Ax o 6)) 0 0 (Ax o 6) := by
  refine z_met (P := (fun H : Heap => W8 G o (mV o μ) σ φ κ β ω H)) (by decide) rfl (Nat.le_of_ble_eq_true rfl) (fun pp ee ss mm below meth cC E hr hml hown hts hlocks hM hK ls hl => ?_)
  have hl : lv_has ls 2 [(0, .ref (o 0)), (1, .int (iI f))] := hl
  have hcs : 0 ≤ (({ frames := 34, cells := 0, slots := 0, locals := 722 } : Room)).cells ∧ 0 ≤ (({ frames := 34, cells := 0, slots := 0, locals := 722 } : Room)).slots := ⟨Nat.zero_le _, Nat.zero_le _⟩
  have hS : va_S (Ax o 6) ss.heap ss.heap [] := va_S.rf
  have hin8 : ∀ w ∈ wsX80, w ∈ wsX8_saysPath := fun w h => List.mem_cons_of_mem _ (List.mem_append_right _ (h))
  have hF := hI.F
  have hMm := hI.M
  have hGn := hI.Gn
  have hnk := nmk_b (hI.nam hf.1 hf.2)
  have e9 := dpF_s hI.cs hf.1 hf.2
  refine lv_iload_n (pc := 0) E.1 E.2 dX8_saysPath_0 rfl (lv_at hl 1 rfl) ?_
  refine z_if_le (pc := 1) (tgt := 19) E ⟨by omega, by omega⟩ dX8_saysPath_1 (by decide) (fun h1 => ?_) (fun h1 => ?_)
  · refine lv_aload_n (pc := 19) E.1 E.2 dX8_saysPath_19 rfl (lv_at hl 0 rfl) ?_
    refine lv_aload_n (pc := 20) E.1 E.2 dX8_saysPath_20 rfl (lv_at hl 0 rfl) ?_
    refine g8_0 (pc := 21) E hts hin8 hown hK hM.1 (hts _ (List.mem_of_getElem? (i := 1) rfl)) dX8_saysPath_21 ?_
    refine z_sipush (pc := 24) E (by decide) dX8_saysPath_24 ?_
    refine lv_iload_n (pc := 27) E.1 E.2 dX8_saysPath_27 rfl (lv_at hl 1 rfl) ?_
    refine z_iadd (pc := 28) E dX8_saysPath_28 ?_
    refine z_laload (pc := 29) E hK hM.2.1 ⟨by omega, by omega⟩ (by decide) dX8_saysPath_29 ?_
    have hb29 := hI.bd (149 + f)
    refine z_wVv (pc := 30) (As := [.long (iL (σ (149 + f)))]) (rest := []) E hml hown hts (mX8_saysName7 lL G o μ σ φ κ β ω (σ (149 + f)) (by omega) (by omega)) (cwV 1 hts gX8_saysPath_X8_saysName rfl rfl rfl vdX8_saysName ⟨Nat.le_of_ble_eq_true rfl, Nat.le_of_ble_eq_true rfl⟩) (oB.recv hK hM.1 rfl) hM hK hS (fun _ h => h) rfl hl.1 rfl dX8_saysPath_30 hcs (Nat.le_of_ble_eq_true rfl) (fun H locs hnew hsz hoth hS => ?_)
    have hM : W8 G o [.ref (o 1), .ref (o 2), .ref (o 3), .int (iI (μ 3)), .int (iI (μ 4)), .ref (o 4), .int (iI (μ 6)), .int (iI (μ 7)), .int (iI (μ 8)), .int (iI (μ 9)), .int (iI (μ 10)), .int (iI (μ 11)), .int (iI (μ 12)), .int (iI (μ 13)), .int (iI (μ 14)), .long (iL (μ 15)), .ref (o 5), .int (iI (μ 17 + ((naL 7 (σ (149 + f))).length : Int)))] σ φ κ β (ouA ω (μ 17) (naL 7 (σ (149 + f)))) H := W8.eq hnew (by simp only [mV, zu, Int.reduceEq, reduceIte])
    exact z_retWv E hr (by rw [show paL σ 25 f = naL 7 (σ (149 + f)) from if_neg (by omega)]; exact W8.mu hM (by simp only [mV, zu, Int.reduceEq, reduceIte])) hS hlocks dX8_saysPath_33
  · have hp1 := hI.par1 (f := f) (by omega) hf.2
    refine lv_aload_n (pc := 4) E.1 E.2 dX8_saysPath_4 rfl (lv_at hl 0 rfl) ?_
    refine lv_aload_n (pc := 5) E.1 E.2 dX8_saysPath_5 rfl (lv_at hl 0 rfl) ?_
    refine lv_iload_n (pc := 6) E.1 E.2 dX8_saysPath_6 rfl (lv_at hl 1 rfl) ?_
    refine z_rVi (pc := 7) (As := [.int (iI f)]) (rest := [.ref (o 0)]) E hml hown hts (mX8_parentOf lL G o μ σ φ κ β ω f (by omega)) (cwV 1 hts gX8_saysPath_X8_parentOf rfl rfl rfl vdX8_parentOf ⟨Nat.le_of_ble_eq_true rfl, Nat.le_of_ble_eq_true rfl⟩) (oB.recv hK hM.1 rfl) hM hK rfl hl.1 rfl dX8_saysPath_7 hcs (Nat.le_of_ble_eq_true rfl) ?_
    refine z_wVv (pc := 10) (As := [.int (iI (σ (69 + f)))]) (rest := []) E hml hown hts (mX8_saysPath24 lL G o μ σ φ κ β ω (σ (69 + f)) hI (by omega) (by omega) (by omega)) (cwV 1 hts gX8_saysPath_X8_saysPath rfl rfl rfl vdX8_saysPath ⟨Nat.le_of_ble_eq_true rfl, Nat.le_of_ble_eq_true rfl⟩) (oB.recv hK hM.1 rfl) hM hK hS (fun _ h => h) rfl hl.1 rfl dX8_saysPath_10 hcs (Nat.le_of_ble_eq_true rfl) (fun H locs hnew hsz hoth hS => ?_)
    have hM : W8 G o [.ref (o 1), .ref (o 2), .ref (o 3), .int (iI (μ 3)), .int (iI (μ 4)), .ref (o 4), .int (iI (μ 6)), .int (iI (μ 7)), .int (iI (μ 8)), .int (iI (μ 9)), .int (iI (μ 10)), .int (iI (μ 11)), .int (iI (μ 12)), .int (iI (μ 13)), .int (iI (μ 14)), .long (iL (μ 15)), .ref (o 5), .int (iI (μ 17 + ((paL σ 24 (σ (69 + f))).length : Int)))] σ φ κ β (ouA ω (μ 17) (paL σ 24 (σ (69 + f)))) H := W8.eq hnew (by simp only [mV, zu, Int.reduceEq, reduceIte])
    have hlb := paL_b σ 24 (σ (69 + f))
    refine lv_aload_n (pc := 13) E.1 E.2 dX8_saysPath_13 rfl (lv_at hl 0 rfl) ?_
    refine z_bipush (pc := 14) E (by decide) dX8_saysPath_14 ?_
    refine z_wVv (pc := 16) (As := [.int (iI 47)]) (rest := []) E hml hown hts (mX8_says lL G o (zu μ 17 (μ 17 + ((paL σ 24 (σ (69 + f))).length : Int))) σ φ κ β (ouA ω (μ 17) (paL σ 24 (σ (69 + f)))) 47 (by first | omega | (simp only [zu, Int.reduceEq, reduceIte]; omega)) (by first | omega | (simp only [zu, Int.reduceEq, reduceIte]; omega))) (cwV 1 hts gX8_saysPath_X8_says rfl rfl rfl vdX8_says ⟨Nat.le_of_ble_eq_true rfl, Nat.le_of_ble_eq_true rfl⟩) (oB.recv hK hM.1 rfl) (W8.mu hM (by simp only [mV, zu, Int.reduceEq, reduceIte])) hK hS (fun _ h => h) rfl hl.1 rfl dX8_saysPath_16 hcs (Nat.le_of_ble_eq_true rfl) (fun H locs hnew hsz hoth hS => ?_)
    have hM : W8 G o [.ref (o 1), .ref (o 2), .ref (o 3), .int (iI (μ 3)), .int (iI (μ 4)), .ref (o 4), .int (iI (μ 6)), .int (iI (μ 7)), .int (iI (μ 8)), .int (iI (μ 9)), .int (iI (μ 10)), .int (iI (μ 11)), .int (iI (μ 12)), .int (iI (μ 13)), .int (iI (μ 14)), .long (iL (μ 15)), .ref (o 5), .int (iI ((μ 17 + ((paL σ 24 (σ (69 + f))).length : Int)) + 1))] σ φ κ β (zu (ouA ω (μ 17) (paL σ 24 (σ (69 + f)))) ((μ 17 + ((paL σ 24 (σ (69 + f))).length : Int))) 47) H := W8.eq hnew (by simp only [mV, zu, Int.reduceEq, reduceIte])
    refine lv_aload_n (pc := 19) E.1 E.2 dX8_saysPath_19 rfl (lv_at hl 0 rfl) ?_
    refine lv_aload_n (pc := 20) E.1 E.2 dX8_saysPath_20 rfl (lv_at hl 0 rfl) ?_
    refine g8_0 (pc := 21) E hts hin8 hown hK hM.1 (hts _ (List.mem_of_getElem? (i := 1) rfl)) dX8_saysPath_21 ?_
    refine z_sipush (pc := 24) E (by decide) dX8_saysPath_24 ?_
    refine lv_iload_n (pc := 27) E.1 E.2 dX8_saysPath_27 rfl (lv_at hl 1 rfl) ?_
    refine z_iadd (pc := 28) E dX8_saysPath_28 ?_
    refine z_laload (pc := 29) E hK hM.2.1 ⟨by omega, by omega⟩ (by decide) dX8_saysPath_29 ?_
    have hb29 := hI.bd (149 + f)
    refine z_wVv (pc := 30) (As := [.long (iL (σ (149 + f)))]) (rest := []) E hml hown hts (mX8_saysName7 lL G o (zu (zu μ 17 (μ 17 + ((paL σ 24 (σ (69 + f))).length : Int))) 17 ((μ 17 + ((paL σ 24 (σ (69 + f))).length : Int)) + 1)) σ φ κ β (zu (ouA ω (μ 17) (paL σ 24 (σ (69 + f)))) ((μ 17 + ((paL σ 24 (σ (69 + f))).length : Int))) 47) (σ (149 + f)) (by first | omega | (simp only [zu, Int.reduceEq, reduceIte]; omega)) (by first | omega | (simp only [zu, Int.reduceEq, reduceIte]; omega))) (cwV 1 hts gX8_saysPath_X8_saysName rfl rfl rfl vdX8_saysName ⟨Nat.le_of_ble_eq_true rfl, Nat.le_of_ble_eq_true rfl⟩) (oB.recv hK hM.1 rfl) (W8.mu hM (by simp only [mV, zu, Int.reduceEq, reduceIte])) hK hS (fun _ h => h) rfl hl.1 rfl dX8_saysPath_30 hcs (Nat.le_of_ble_eq_true rfl) (fun H locs hnew hsz hoth hS => ?_)
    have hM : W8 G o [.ref (o 1), .ref (o 2), .ref (o 3), .int (iI (μ 3)), .int (iI (μ 4)), .ref (o 4), .int (iI (μ 6)), .int (iI (μ 7)), .int (iI (μ 8)), .int (iI (μ 9)), .int (iI (μ 10)), .int (iI (μ 11)), .int (iI (μ 12)), .int (iI (μ 13)), .int (iI (μ 14)), .long (iL (μ 15)), .ref (o 5), .int (iI (((μ 17 + ((paL σ 24 (σ (69 + f))).length : Int)) + 1) + ((naL 7 (σ (149 + f))).length : Int)))] σ φ κ β (ouA (zu (ouA ω (μ 17) (paL σ 24 (σ (69 + f)))) ((μ 17 + ((paL σ 24 (σ (69 + f))).length : Int))) 47) (((μ 17 + ((paL σ 24 (σ (69 + f))).length : Int)) + 1)) (naL 7 (σ (149 + f)))) H := W8.eq hnew (by simp only [mV, zu, Int.reduceEq, reduceIte])
    exact z_retWv E hr (by rw [show paL σ 25 f = paL σ 24 (σ (69 + f)) ++ [47] ++ naL 7 (σ (149 + f)) from if_pos (by omega), ← ouA_3]; exact W8.mu hM (by rw [← ouA_l3]; simp only [mV, zu, Int.reduceEq, reduceIte])) hS hlocks dX8_saysPath_33
set_option maxHeartbeats 1000000 in
set_option maxRecDepth 100000 in
theorem mX8_saysPath26 (lL : Launch) (G : GG) (o : Nat → Nat) (μ σ φ κ β ω : Int → Int) (f : Int) (hI : In σ) (hf : 0 ≤ f ∧ f < σ 2) (hd : dpF σ f ≤ 27) (hm : 0 ≤ μ 17 ∧ μ 17 + 243 ≤ 400) : Met lL yX8_saysPath wsX8_saysPath ({ frames := 35, cells := 0, slots := 0, locals := 743 } : Room) (va_Pc [.ref (o 0), .int (iI f)] (fun U => W8 G o (mV o μ) σ φ κ β ω U.heap ∧ KK G U)) (va_Qv (fun _ : Unit => True) (fun _ tZ => W8 G o (mV o (zu μ 17 (μ 17 + ((paL σ 26 f).length : Int)))) σ φ κ β (ouA ω (μ 17) (paL σ 26 f)) tZ.heap) (Ax o 6)) 0 0 (Ax o 6) := by
  refine z_met (P := (fun H : Heap => W8 G o (mV o μ) σ φ κ β ω H)) (by decide) rfl (Nat.le_of_ble_eq_true rfl) (fun pp ee ss mm below meth cC E hr hml hown hts hlocks hM hK ls hl => ?_)
  have hl : lv_has ls 2 [(0, .ref (o 0)), (1, .int (iI f))] := hl
  have hcs : 0 ≤ (({ frames := 35, cells := 0, slots := 0, locals := 743 } : Room)).cells ∧ 0 ≤ (({ frames := 35, cells := 0, slots := 0, locals := 743 } : Room)).slots := ⟨Nat.zero_le _, Nat.zero_le _⟩
  have hS : va_S (Ax o 6) ss.heap ss.heap [] := va_S.rf
  have hin8 : ∀ w ∈ wsX80, w ∈ wsX8_saysPath := fun w h => List.mem_cons_of_mem _ (List.mem_append_right _ (h))
  have hF := hI.F
  have hMm := hI.M
  have hGn := hI.Gn
  have hnk := nmk_b (hI.nam hf.1 hf.2)
  have e9 := dpF_s hI.cs hf.1 hf.2
  refine lv_iload_n (pc := 0) E.1 E.2 dX8_saysPath_0 rfl (lv_at hl 1 rfl) ?_
  refine z_if_le (pc := 1) (tgt := 19) E ⟨by omega, by omega⟩ dX8_saysPath_1 (by decide) (fun h1 => ?_) (fun h1 => ?_)
  · refine lv_aload_n (pc := 19) E.1 E.2 dX8_saysPath_19 rfl (lv_at hl 0 rfl) ?_
    refine lv_aload_n (pc := 20) E.1 E.2 dX8_saysPath_20 rfl (lv_at hl 0 rfl) ?_
    refine g8_0 (pc := 21) E hts hin8 hown hK hM.1 (hts _ (List.mem_of_getElem? (i := 1) rfl)) dX8_saysPath_21 ?_
    refine z_sipush (pc := 24) E (by decide) dX8_saysPath_24 ?_
    refine lv_iload_n (pc := 27) E.1 E.2 dX8_saysPath_27 rfl (lv_at hl 1 rfl) ?_
    refine z_iadd (pc := 28) E dX8_saysPath_28 ?_
    refine z_laload (pc := 29) E hK hM.2.1 ⟨by omega, by omega⟩ (by decide) dX8_saysPath_29 ?_
    have hb29 := hI.bd (149 + f)
    refine z_wVv (pc := 30) (As := [.long (iL (σ (149 + f)))]) (rest := []) E hml hown hts (mX8_saysName7 lL G o μ σ φ κ β ω (σ (149 + f)) (by omega) (by omega)) (cwV 1 hts gX8_saysPath_X8_saysName rfl rfl rfl vdX8_saysName ⟨Nat.le_of_ble_eq_true rfl, Nat.le_of_ble_eq_true rfl⟩) (oB.recv hK hM.1 rfl) hM hK hS (fun _ h => h) rfl hl.1 rfl dX8_saysPath_30 hcs (Nat.le_of_ble_eq_true rfl) (fun H locs hnew hsz hoth hS => ?_)
    have hM : W8 G o [.ref (o 1), .ref (o 2), .ref (o 3), .int (iI (μ 3)), .int (iI (μ 4)), .ref (o 4), .int (iI (μ 6)), .int (iI (μ 7)), .int (iI (μ 8)), .int (iI (μ 9)), .int (iI (μ 10)), .int (iI (μ 11)), .int (iI (μ 12)), .int (iI (μ 13)), .int (iI (μ 14)), .long (iL (μ 15)), .ref (o 5), .int (iI (μ 17 + ((naL 7 (σ (149 + f))).length : Int)))] σ φ κ β (ouA ω (μ 17) (naL 7 (σ (149 + f)))) H := W8.eq hnew (by simp only [mV, zu, Int.reduceEq, reduceIte])
    exact z_retWv E hr (by rw [show paL σ 26 f = naL 7 (σ (149 + f)) from if_neg (by omega)]; exact W8.mu hM (by simp only [mV, zu, Int.reduceEq, reduceIte])) hS hlocks dX8_saysPath_33
  · have hp1 := hI.par1 (f := f) (by omega) hf.2
    refine lv_aload_n (pc := 4) E.1 E.2 dX8_saysPath_4 rfl (lv_at hl 0 rfl) ?_
    refine lv_aload_n (pc := 5) E.1 E.2 dX8_saysPath_5 rfl (lv_at hl 0 rfl) ?_
    refine lv_iload_n (pc := 6) E.1 E.2 dX8_saysPath_6 rfl (lv_at hl 1 rfl) ?_
    refine z_rVi (pc := 7) (As := [.int (iI f)]) (rest := [.ref (o 0)]) E hml hown hts (mX8_parentOf lL G o μ σ φ κ β ω f (by omega)) (cwV 1 hts gX8_saysPath_X8_parentOf rfl rfl rfl vdX8_parentOf ⟨Nat.le_of_ble_eq_true rfl, Nat.le_of_ble_eq_true rfl⟩) (oB.recv hK hM.1 rfl) hM hK rfl hl.1 rfl dX8_saysPath_7 hcs (Nat.le_of_ble_eq_true rfl) ?_
    refine z_wVv (pc := 10) (As := [.int (iI (σ (69 + f)))]) (rest := []) E hml hown hts (mX8_saysPath25 lL G o μ σ φ κ β ω (σ (69 + f)) hI (by omega) (by omega) (by omega)) (cwV 1 hts gX8_saysPath_X8_saysPath rfl rfl rfl vdX8_saysPath ⟨Nat.le_of_ble_eq_true rfl, Nat.le_of_ble_eq_true rfl⟩) (oB.recv hK hM.1 rfl) hM hK hS (fun _ h => h) rfl hl.1 rfl dX8_saysPath_10 hcs (Nat.le_of_ble_eq_true rfl) (fun H locs hnew hsz hoth hS => ?_)
    have hM : W8 G o [.ref (o 1), .ref (o 2), .ref (o 3), .int (iI (μ 3)), .int (iI (μ 4)), .ref (o 4), .int (iI (μ 6)), .int (iI (μ 7)), .int (iI (μ 8)), .int (iI (μ 9)), .int (iI (μ 10)), .int (iI (μ 11)), .int (iI (μ 12)), .int (iI (μ 13)), .int (iI (μ 14)), .long (iL (μ 15)), .ref (o 5), .int (iI (μ 17 + ((paL σ 25 (σ (69 + f))).length : Int)))] σ φ κ β (ouA ω (μ 17) (paL σ 25 (σ (69 + f)))) H := W8.eq hnew (by simp only [mV, zu, Int.reduceEq, reduceIte])
    have hlb := paL_b σ 25 (σ (69 + f))
    refine lv_aload_n (pc := 13) E.1 E.2 dX8_saysPath_13 rfl (lv_at hl 0 rfl) ?_
    refine z_bipush (pc := 14) E (by decide) dX8_saysPath_14 ?_
    refine z_wVv (pc := 16) (As := [.int (iI 47)]) (rest := []) E hml hown hts (mX8_says lL G o (zu μ 17 (μ 17 + ((paL σ 25 (σ (69 + f))).length : Int))) σ φ κ β (ouA ω (μ 17) (paL σ 25 (σ (69 + f)))) 47 (by first | omega | (simp only [zu, Int.reduceEq, reduceIte]; omega)) (by first | omega | (simp only [zu, Int.reduceEq, reduceIte]; omega))) (cwV 1 hts gX8_saysPath_X8_says rfl rfl rfl vdX8_says ⟨Nat.le_of_ble_eq_true rfl, Nat.le_of_ble_eq_true rfl⟩) (oB.recv hK hM.1 rfl) (W8.mu hM (by simp only [mV, zu, Int.reduceEq, reduceIte])) hK hS (fun _ h => h) rfl hl.1 rfl dX8_saysPath_16 hcs (Nat.le_of_ble_eq_true rfl) (fun H locs hnew hsz hoth hS => ?_)
    have hM : W8 G o [.ref (o 1), .ref (o 2), .ref (o 3), .int (iI (μ 3)), .int (iI (μ 4)), .ref (o 4), .int (iI (μ 6)), .int (iI (μ 7)), .int (iI (μ 8)), .int (iI (μ 9)), .int (iI (μ 10)), .int (iI (μ 11)), .int (iI (μ 12)), .int (iI (μ 13)), .int (iI (μ 14)), .long (iL (μ 15)), .ref (o 5), .int (iI ((μ 17 + ((paL σ 25 (σ (69 + f))).length : Int)) + 1))] σ φ κ β (zu (ouA ω (μ 17) (paL σ 25 (σ (69 + f)))) ((μ 17 + ((paL σ 25 (σ (69 + f))).length : Int))) 47) H := W8.eq hnew (by simp only [mV, zu, Int.reduceEq, reduceIte])
    refine lv_aload_n (pc := 19) E.1 E.2 dX8_saysPath_19 rfl (lv_at hl 0 rfl) ?_
    refine lv_aload_n (pc := 20) E.1 E.2 dX8_saysPath_20 rfl (lv_at hl 0 rfl) ?_
    refine g8_0 (pc := 21) E hts hin8 hown hK hM.1 (hts _ (List.mem_of_getElem? (i := 1) rfl)) dX8_saysPath_21 ?_
    refine z_sipush (pc := 24) E (by decide) dX8_saysPath_24 ?_
    refine lv_iload_n (pc := 27) E.1 E.2 dX8_saysPath_27 rfl (lv_at hl 1 rfl) ?_
    refine z_iadd (pc := 28) E dX8_saysPath_28 ?_
    refine z_laload (pc := 29) E hK hM.2.1 ⟨by omega, by omega⟩ (by decide) dX8_saysPath_29 ?_
    have hb29 := hI.bd (149 + f)
    refine z_wVv (pc := 30) (As := [.long (iL (σ (149 + f)))]) (rest := []) E hml hown hts (mX8_saysName7 lL G o (zu (zu μ 17 (μ 17 + ((paL σ 25 (σ (69 + f))).length : Int))) 17 ((μ 17 + ((paL σ 25 (σ (69 + f))).length : Int)) + 1)) σ φ κ β (zu (ouA ω (μ 17) (paL σ 25 (σ (69 + f)))) ((μ 17 + ((paL σ 25 (σ (69 + f))).length : Int))) 47) (σ (149 + f)) (by first | omega | (simp only [zu, Int.reduceEq, reduceIte]; omega)) (by first | omega | (simp only [zu, Int.reduceEq, reduceIte]; omega))) (cwV 1 hts gX8_saysPath_X8_saysName rfl rfl rfl vdX8_saysName ⟨Nat.le_of_ble_eq_true rfl, Nat.le_of_ble_eq_true rfl⟩) (oB.recv hK hM.1 rfl) (W8.mu hM (by simp only [mV, zu, Int.reduceEq, reduceIte])) hK hS (fun _ h => h) rfl hl.1 rfl dX8_saysPath_30 hcs (Nat.le_of_ble_eq_true rfl) (fun H locs hnew hsz hoth hS => ?_)
    have hM : W8 G o [.ref (o 1), .ref (o 2), .ref (o 3), .int (iI (μ 3)), .int (iI (μ 4)), .ref (o 4), .int (iI (μ 6)), .int (iI (μ 7)), .int (iI (μ 8)), .int (iI (μ 9)), .int (iI (μ 10)), .int (iI (μ 11)), .int (iI (μ 12)), .int (iI (μ 13)), .int (iI (μ 14)), .long (iL (μ 15)), .ref (o 5), .int (iI (((μ 17 + ((paL σ 25 (σ (69 + f))).length : Int)) + 1) + ((naL 7 (σ (149 + f))).length : Int)))] σ φ κ β (ouA (zu (ouA ω (μ 17) (paL σ 25 (σ (69 + f)))) ((μ 17 + ((paL σ 25 (σ (69 + f))).length : Int))) 47) (((μ 17 + ((paL σ 25 (σ (69 + f))).length : Int)) + 1)) (naL 7 (σ (149 + f)))) H := W8.eq hnew (by simp only [mV, zu, Int.reduceEq, reduceIte])
    exact z_retWv E hr (by rw [show paL σ 26 f = paL σ 25 (σ (69 + f)) ++ [47] ++ naL 7 (σ (149 + f)) from if_pos (by omega), ← ouA_3]; exact W8.mu hM (by rw [← ouA_l3]; simp only [mV, zu, Int.reduceEq, reduceIte])) hS hlocks dX8_saysPath_33
set_option maxHeartbeats 1000000 in
set_option maxRecDepth 100000 in
theorem mX8_saysPath27 (lL : Launch) (G : GG) (o : Nat → Nat) (μ σ φ κ β ω : Int → Int) (f : Int) (hI : In σ) (hf : 0 ≤ f ∧ f < σ 2) (hd : dpF σ f ≤ 28) (hm : 0 ≤ μ 17 ∧ μ 17 + 252 ≤ 400) : Met lL yX8_saysPath wsX8_saysPath ({ frames := 36, cells := 0, slots := 0, locals := 764 } : Room) (va_Pc [.ref (o 0), .int (iI f)] (fun U => W8 G o (mV o μ) σ φ κ β ω U.heap ∧ KK G U)) (va_Qv (fun _ : Unit => True) (fun _ tZ => W8 G o (mV o (zu μ 17 (μ 17 + ((paL σ 27 f).length : Int)))) σ φ κ β (ouA ω (μ 17) (paL σ 27 f)) tZ.heap) (Ax o 6)) 0 0 (Ax o 6) := by
  refine z_met (P := (fun H : Heap => W8 G o (mV o μ) σ φ κ β ω H)) (by decide) rfl (Nat.le_of_ble_eq_true rfl) (fun pp ee ss mm below meth cC E hr hml hown hts hlocks hM hK ls hl => ?_)
  have hl : lv_has ls 2 [(0, .ref (o 0)), (1, .int (iI f))] := hl
  have hcs : 0 ≤ (({ frames := 36, cells := 0, slots := 0, locals := 764 } : Room)).cells ∧ 0 ≤ (({ frames := 36, cells := 0, slots := 0, locals := 764 } : Room)).slots := ⟨Nat.zero_le _, Nat.zero_le _⟩
  have hS : va_S (Ax o 6) ss.heap ss.heap [] := va_S.rf
  have hin8 : ∀ w ∈ wsX80, w ∈ wsX8_saysPath := fun w h => List.mem_cons_of_mem _ (List.mem_append_right _ (h))
  have hF := hI.F
  have hMm := hI.M
  have hGn := hI.Gn
  have hnk := nmk_b (hI.nam hf.1 hf.2)
  have e9 := dpF_s hI.cs hf.1 hf.2
  refine lv_iload_n (pc := 0) E.1 E.2 dX8_saysPath_0 rfl (lv_at hl 1 rfl) ?_
  refine z_if_le (pc := 1) (tgt := 19) E ⟨by omega, by omega⟩ dX8_saysPath_1 (by decide) (fun h1 => ?_) (fun h1 => ?_)
  · refine lv_aload_n (pc := 19) E.1 E.2 dX8_saysPath_19 rfl (lv_at hl 0 rfl) ?_
    refine lv_aload_n (pc := 20) E.1 E.2 dX8_saysPath_20 rfl (lv_at hl 0 rfl) ?_
    refine g8_0 (pc := 21) E hts hin8 hown hK hM.1 (hts _ (List.mem_of_getElem? (i := 1) rfl)) dX8_saysPath_21 ?_
    refine z_sipush (pc := 24) E (by decide) dX8_saysPath_24 ?_
    refine lv_iload_n (pc := 27) E.1 E.2 dX8_saysPath_27 rfl (lv_at hl 1 rfl) ?_
    refine z_iadd (pc := 28) E dX8_saysPath_28 ?_
    refine z_laload (pc := 29) E hK hM.2.1 ⟨by omega, by omega⟩ (by decide) dX8_saysPath_29 ?_
    have hb29 := hI.bd (149 + f)
    refine z_wVv (pc := 30) (As := [.long (iL (σ (149 + f)))]) (rest := []) E hml hown hts (mX8_saysName7 lL G o μ σ φ κ β ω (σ (149 + f)) (by omega) (by omega)) (cwV 1 hts gX8_saysPath_X8_saysName rfl rfl rfl vdX8_saysName ⟨Nat.le_of_ble_eq_true rfl, Nat.le_of_ble_eq_true rfl⟩) (oB.recv hK hM.1 rfl) hM hK hS (fun _ h => h) rfl hl.1 rfl dX8_saysPath_30 hcs (Nat.le_of_ble_eq_true rfl) (fun H locs hnew hsz hoth hS => ?_)
    have hM : W8 G o [.ref (o 1), .ref (o 2), .ref (o 3), .int (iI (μ 3)), .int (iI (μ 4)), .ref (o 4), .int (iI (μ 6)), .int (iI (μ 7)), .int (iI (μ 8)), .int (iI (μ 9)), .int (iI (μ 10)), .int (iI (μ 11)), .int (iI (μ 12)), .int (iI (μ 13)), .int (iI (μ 14)), .long (iL (μ 15)), .ref (o 5), .int (iI (μ 17 + ((naL 7 (σ (149 + f))).length : Int)))] σ φ κ β (ouA ω (μ 17) (naL 7 (σ (149 + f)))) H := W8.eq hnew (by simp only [mV, zu, Int.reduceEq, reduceIte])
    exact z_retWv E hr (by rw [show paL σ 27 f = naL 7 (σ (149 + f)) from if_neg (by omega)]; exact W8.mu hM (by simp only [mV, zu, Int.reduceEq, reduceIte])) hS hlocks dX8_saysPath_33
  · have hp1 := hI.par1 (f := f) (by omega) hf.2
    refine lv_aload_n (pc := 4) E.1 E.2 dX8_saysPath_4 rfl (lv_at hl 0 rfl) ?_
    refine lv_aload_n (pc := 5) E.1 E.2 dX8_saysPath_5 rfl (lv_at hl 0 rfl) ?_
    refine lv_iload_n (pc := 6) E.1 E.2 dX8_saysPath_6 rfl (lv_at hl 1 rfl) ?_
    refine z_rVi (pc := 7) (As := [.int (iI f)]) (rest := [.ref (o 0)]) E hml hown hts (mX8_parentOf lL G o μ σ φ κ β ω f (by omega)) (cwV 1 hts gX8_saysPath_X8_parentOf rfl rfl rfl vdX8_parentOf ⟨Nat.le_of_ble_eq_true rfl, Nat.le_of_ble_eq_true rfl⟩) (oB.recv hK hM.1 rfl) hM hK rfl hl.1 rfl dX8_saysPath_7 hcs (Nat.le_of_ble_eq_true rfl) ?_
    refine z_wVv (pc := 10) (As := [.int (iI (σ (69 + f)))]) (rest := []) E hml hown hts (mX8_saysPath26 lL G o μ σ φ κ β ω (σ (69 + f)) hI (by omega) (by omega) (by omega)) (cwV 1 hts gX8_saysPath_X8_saysPath rfl rfl rfl vdX8_saysPath ⟨Nat.le_of_ble_eq_true rfl, Nat.le_of_ble_eq_true rfl⟩) (oB.recv hK hM.1 rfl) hM hK hS (fun _ h => h) rfl hl.1 rfl dX8_saysPath_10 hcs (Nat.le_of_ble_eq_true rfl) (fun H locs hnew hsz hoth hS => ?_)
    have hM : W8 G o [.ref (o 1), .ref (o 2), .ref (o 3), .int (iI (μ 3)), .int (iI (μ 4)), .ref (o 4), .int (iI (μ 6)), .int (iI (μ 7)), .int (iI (μ 8)), .int (iI (μ 9)), .int (iI (μ 10)), .int (iI (μ 11)), .int (iI (μ 12)), .int (iI (μ 13)), .int (iI (μ 14)), .long (iL (μ 15)), .ref (o 5), .int (iI (μ 17 + ((paL σ 26 (σ (69 + f))).length : Int)))] σ φ κ β (ouA ω (μ 17) (paL σ 26 (σ (69 + f)))) H := W8.eq hnew (by simp only [mV, zu, Int.reduceEq, reduceIte])
    have hlb := paL_b σ 26 (σ (69 + f))
    refine lv_aload_n (pc := 13) E.1 E.2 dX8_saysPath_13 rfl (lv_at hl 0 rfl) ?_
    refine z_bipush (pc := 14) E (by decide) dX8_saysPath_14 ?_
    refine z_wVv (pc := 16) (As := [.int (iI 47)]) (rest := []) E hml hown hts (mX8_says lL G o (zu μ 17 (μ 17 + ((paL σ 26 (σ (69 + f))).length : Int))) σ φ κ β (ouA ω (μ 17) (paL σ 26 (σ (69 + f)))) 47 (by first | omega | (simp only [zu, Int.reduceEq, reduceIte]; omega)) (by first | omega | (simp only [zu, Int.reduceEq, reduceIte]; omega))) (cwV 1 hts gX8_saysPath_X8_says rfl rfl rfl vdX8_says ⟨Nat.le_of_ble_eq_true rfl, Nat.le_of_ble_eq_true rfl⟩) (oB.recv hK hM.1 rfl) (W8.mu hM (by simp only [mV, zu, Int.reduceEq, reduceIte])) hK hS (fun _ h => h) rfl hl.1 rfl dX8_saysPath_16 hcs (Nat.le_of_ble_eq_true rfl) (fun H locs hnew hsz hoth hS => ?_)
    have hM : W8 G o [.ref (o 1), .ref (o 2), .ref (o 3), .int (iI (μ 3)), .int (iI (μ 4)), .ref (o 4), .int (iI (μ 6)), .int (iI (μ 7)), .int (iI (μ 8)), .int (iI (μ 9)), .int (iI (μ 10)), .int (iI (μ 11)), .int (iI (μ 12)), .int (iI (μ 13)), .int (iI (μ 14)), .long (iL (μ 15)), .ref (o 5), .int (iI ((μ 17 + ((paL σ 26 (σ (69 + f))).length : Int)) + 1))] σ φ κ β (zu (ouA ω (μ 17) (paL σ 26 (σ (69 + f)))) ((μ 17 + ((paL σ 26 (σ (69 + f))).length : Int))) 47) H := W8.eq hnew (by simp only [mV, zu, Int.reduceEq, reduceIte])
    refine lv_aload_n (pc := 19) E.1 E.2 dX8_saysPath_19 rfl (lv_at hl 0 rfl) ?_
    refine lv_aload_n (pc := 20) E.1 E.2 dX8_saysPath_20 rfl (lv_at hl 0 rfl) ?_
    refine g8_0 (pc := 21) E hts hin8 hown hK hM.1 (hts _ (List.mem_of_getElem? (i := 1) rfl)) dX8_saysPath_21 ?_
    refine z_sipush (pc := 24) E (by decide) dX8_saysPath_24 ?_
    refine lv_iload_n (pc := 27) E.1 E.2 dX8_saysPath_27 rfl (lv_at hl 1 rfl) ?_
    refine z_iadd (pc := 28) E dX8_saysPath_28 ?_
    refine z_laload (pc := 29) E hK hM.2.1 ⟨by omega, by omega⟩ (by decide) dX8_saysPath_29 ?_
    have hb29 := hI.bd (149 + f)
    refine z_wVv (pc := 30) (As := [.long (iL (σ (149 + f)))]) (rest := []) E hml hown hts (mX8_saysName7 lL G o (zu (zu μ 17 (μ 17 + ((paL σ 26 (σ (69 + f))).length : Int))) 17 ((μ 17 + ((paL σ 26 (σ (69 + f))).length : Int)) + 1)) σ φ κ β (zu (ouA ω (μ 17) (paL σ 26 (σ (69 + f)))) ((μ 17 + ((paL σ 26 (σ (69 + f))).length : Int))) 47) (σ (149 + f)) (by first | omega | (simp only [zu, Int.reduceEq, reduceIte]; omega)) (by first | omega | (simp only [zu, Int.reduceEq, reduceIte]; omega))) (cwV 1 hts gX8_saysPath_X8_saysName rfl rfl rfl vdX8_saysName ⟨Nat.le_of_ble_eq_true rfl, Nat.le_of_ble_eq_true rfl⟩) (oB.recv hK hM.1 rfl) (W8.mu hM (by simp only [mV, zu, Int.reduceEq, reduceIte])) hK hS (fun _ h => h) rfl hl.1 rfl dX8_saysPath_30 hcs (Nat.le_of_ble_eq_true rfl) (fun H locs hnew hsz hoth hS => ?_)
    have hM : W8 G o [.ref (o 1), .ref (o 2), .ref (o 3), .int (iI (μ 3)), .int (iI (μ 4)), .ref (o 4), .int (iI (μ 6)), .int (iI (μ 7)), .int (iI (μ 8)), .int (iI (μ 9)), .int (iI (μ 10)), .int (iI (μ 11)), .int (iI (μ 12)), .int (iI (μ 13)), .int (iI (μ 14)), .long (iL (μ 15)), .ref (o 5), .int (iI (((μ 17 + ((paL σ 26 (σ (69 + f))).length : Int)) + 1) + ((naL 7 (σ (149 + f))).length : Int)))] σ φ κ β (ouA (zu (ouA ω (μ 17) (paL σ 26 (σ (69 + f)))) ((μ 17 + ((paL σ 26 (σ (69 + f))).length : Int))) 47) (((μ 17 + ((paL σ 26 (σ (69 + f))).length : Int)) + 1)) (naL 7 (σ (149 + f)))) H := W8.eq hnew (by simp only [mV, zu, Int.reduceEq, reduceIte])
    exact z_retWv E hr (by rw [show paL σ 27 f = paL σ 26 (σ (69 + f)) ++ [47] ++ naL 7 (σ (149 + f)) from if_pos (by omega), ← ouA_3]; exact W8.mu hM (by rw [← ouA_l3]; simp only [mV, zu, Int.reduceEq, reduceIte])) hS hlocks dX8_saysPath_33
set_option maxHeartbeats 1000000 in
set_option maxRecDepth 100000 in
theorem mX8_saysPath28 (lL : Launch) (G : GG) (o : Nat → Nat) (μ σ φ κ β ω : Int → Int) (f : Int) (hI : In σ) (hf : 0 ≤ f ∧ f < σ 2) (hd : dpF σ f ≤ 29) (hm : 0 ≤ μ 17 ∧ μ 17 + 261 ≤ 400) : Met lL yX8_saysPath wsX8_saysPath ({ frames := 37, cells := 0, slots := 0, locals := 785 } : Room) (va_Pc [.ref (o 0), .int (iI f)] (fun U => W8 G o (mV o μ) σ φ κ β ω U.heap ∧ KK G U)) (va_Qv (fun _ : Unit => True) (fun _ tZ => W8 G o (mV o (zu μ 17 (μ 17 + ((paL σ 28 f).length : Int)))) σ φ κ β (ouA ω (μ 17) (paL σ 28 f)) tZ.heap) (Ax o 6)) 0 0 (Ax o 6) := by
  refine z_met (P := (fun H : Heap => W8 G o (mV o μ) σ φ κ β ω H)) (by decide) rfl (Nat.le_of_ble_eq_true rfl) (fun pp ee ss mm below meth cC E hr hml hown hts hlocks hM hK ls hl => ?_)
  have hl : lv_has ls 2 [(0, .ref (o 0)), (1, .int (iI f))] := hl
  have hcs : 0 ≤ (({ frames := 37, cells := 0, slots := 0, locals := 785 } : Room)).cells ∧ 0 ≤ (({ frames := 37, cells := 0, slots := 0, locals := 785 } : Room)).slots := ⟨Nat.zero_le _, Nat.zero_le _⟩
  have hS : va_S (Ax o 6) ss.heap ss.heap [] := va_S.rf
  have hin8 : ∀ w ∈ wsX80, w ∈ wsX8_saysPath := fun w h => List.mem_cons_of_mem _ (List.mem_append_right _ (h))
  have hF := hI.F
  have hMm := hI.M
  have hGn := hI.Gn
  have hnk := nmk_b (hI.nam hf.1 hf.2)
  have e9 := dpF_s hI.cs hf.1 hf.2
  refine lv_iload_n (pc := 0) E.1 E.2 dX8_saysPath_0 rfl (lv_at hl 1 rfl) ?_
  refine z_if_le (pc := 1) (tgt := 19) E ⟨by omega, by omega⟩ dX8_saysPath_1 (by decide) (fun h1 => ?_) (fun h1 => ?_)
  · refine lv_aload_n (pc := 19) E.1 E.2 dX8_saysPath_19 rfl (lv_at hl 0 rfl) ?_
    refine lv_aload_n (pc := 20) E.1 E.2 dX8_saysPath_20 rfl (lv_at hl 0 rfl) ?_
    refine g8_0 (pc := 21) E hts hin8 hown hK hM.1 (hts _ (List.mem_of_getElem? (i := 1) rfl)) dX8_saysPath_21 ?_
    refine z_sipush (pc := 24) E (by decide) dX8_saysPath_24 ?_
    refine lv_iload_n (pc := 27) E.1 E.2 dX8_saysPath_27 rfl (lv_at hl 1 rfl) ?_
    refine z_iadd (pc := 28) E dX8_saysPath_28 ?_
    refine z_laload (pc := 29) E hK hM.2.1 ⟨by omega, by omega⟩ (by decide) dX8_saysPath_29 ?_
    have hb29 := hI.bd (149 + f)
    refine z_wVv (pc := 30) (As := [.long (iL (σ (149 + f)))]) (rest := []) E hml hown hts (mX8_saysName7 lL G o μ σ φ κ β ω (σ (149 + f)) (by omega) (by omega)) (cwV 1 hts gX8_saysPath_X8_saysName rfl rfl rfl vdX8_saysName ⟨Nat.le_of_ble_eq_true rfl, Nat.le_of_ble_eq_true rfl⟩) (oB.recv hK hM.1 rfl) hM hK hS (fun _ h => h) rfl hl.1 rfl dX8_saysPath_30 hcs (Nat.le_of_ble_eq_true rfl) (fun H locs hnew hsz hoth hS => ?_)
    have hM : W8 G o [.ref (o 1), .ref (o 2), .ref (o 3), .int (iI (μ 3)), .int (iI (μ 4)), .ref (o 4), .int (iI (μ 6)), .int (iI (μ 7)), .int (iI (μ 8)), .int (iI (μ 9)), .int (iI (μ 10)), .int (iI (μ 11)), .int (iI (μ 12)), .int (iI (μ 13)), .int (iI (μ 14)), .long (iL (μ 15)), .ref (o 5), .int (iI (μ 17 + ((naL 7 (σ (149 + f))).length : Int)))] σ φ κ β (ouA ω (μ 17) (naL 7 (σ (149 + f)))) H := W8.eq hnew (by simp only [mV, zu, Int.reduceEq, reduceIte])
    exact z_retWv E hr (by rw [show paL σ 28 f = naL 7 (σ (149 + f)) from if_neg (by omega)]; exact W8.mu hM (by simp only [mV, zu, Int.reduceEq, reduceIte])) hS hlocks dX8_saysPath_33
  · have hp1 := hI.par1 (f := f) (by omega) hf.2
    refine lv_aload_n (pc := 4) E.1 E.2 dX8_saysPath_4 rfl (lv_at hl 0 rfl) ?_
    refine lv_aload_n (pc := 5) E.1 E.2 dX8_saysPath_5 rfl (lv_at hl 0 rfl) ?_
    refine lv_iload_n (pc := 6) E.1 E.2 dX8_saysPath_6 rfl (lv_at hl 1 rfl) ?_
    refine z_rVi (pc := 7) (As := [.int (iI f)]) (rest := [.ref (o 0)]) E hml hown hts (mX8_parentOf lL G o μ σ φ κ β ω f (by omega)) (cwV 1 hts gX8_saysPath_X8_parentOf rfl rfl rfl vdX8_parentOf ⟨Nat.le_of_ble_eq_true rfl, Nat.le_of_ble_eq_true rfl⟩) (oB.recv hK hM.1 rfl) hM hK rfl hl.1 rfl dX8_saysPath_7 hcs (Nat.le_of_ble_eq_true rfl) ?_
    refine z_wVv (pc := 10) (As := [.int (iI (σ (69 + f)))]) (rest := []) E hml hown hts (mX8_saysPath27 lL G o μ σ φ κ β ω (σ (69 + f)) hI (by omega) (by omega) (by omega)) (cwV 1 hts gX8_saysPath_X8_saysPath rfl rfl rfl vdX8_saysPath ⟨Nat.le_of_ble_eq_true rfl, Nat.le_of_ble_eq_true rfl⟩) (oB.recv hK hM.1 rfl) hM hK hS (fun _ h => h) rfl hl.1 rfl dX8_saysPath_10 hcs (Nat.le_of_ble_eq_true rfl) (fun H locs hnew hsz hoth hS => ?_)
    have hM : W8 G o [.ref (o 1), .ref (o 2), .ref (o 3), .int (iI (μ 3)), .int (iI (μ 4)), .ref (o 4), .int (iI (μ 6)), .int (iI (μ 7)), .int (iI (μ 8)), .int (iI (μ 9)), .int (iI (μ 10)), .int (iI (μ 11)), .int (iI (μ 12)), .int (iI (μ 13)), .int (iI (μ 14)), .long (iL (μ 15)), .ref (o 5), .int (iI (μ 17 + ((paL σ 27 (σ (69 + f))).length : Int)))] σ φ κ β (ouA ω (μ 17) (paL σ 27 (σ (69 + f)))) H := W8.eq hnew (by simp only [mV, zu, Int.reduceEq, reduceIte])
    have hlb := paL_b σ 27 (σ (69 + f))
    refine lv_aload_n (pc := 13) E.1 E.2 dX8_saysPath_13 rfl (lv_at hl 0 rfl) ?_
    refine z_bipush (pc := 14) E (by decide) dX8_saysPath_14 ?_
    refine z_wVv (pc := 16) (As := [.int (iI 47)]) (rest := []) E hml hown hts (mX8_says lL G o (zu μ 17 (μ 17 + ((paL σ 27 (σ (69 + f))).length : Int))) σ φ κ β (ouA ω (μ 17) (paL σ 27 (σ (69 + f)))) 47 (by first | omega | (simp only [zu, Int.reduceEq, reduceIte]; omega)) (by first | omega | (simp only [zu, Int.reduceEq, reduceIte]; omega))) (cwV 1 hts gX8_saysPath_X8_says rfl rfl rfl vdX8_says ⟨Nat.le_of_ble_eq_true rfl, Nat.le_of_ble_eq_true rfl⟩) (oB.recv hK hM.1 rfl) (W8.mu hM (by simp only [mV, zu, Int.reduceEq, reduceIte])) hK hS (fun _ h => h) rfl hl.1 rfl dX8_saysPath_16 hcs (Nat.le_of_ble_eq_true rfl) (fun H locs hnew hsz hoth hS => ?_)
    have hM : W8 G o [.ref (o 1), .ref (o 2), .ref (o 3), .int (iI (μ 3)), .int (iI (μ 4)), .ref (o 4), .int (iI (μ 6)), .int (iI (μ 7)), .int (iI (μ 8)), .int (iI (μ 9)), .int (iI (μ 10)), .int (iI (μ 11)), .int (iI (μ 12)), .int (iI (μ 13)), .int (iI (μ 14)), .long (iL (μ 15)), .ref (o 5), .int (iI ((μ 17 + ((paL σ 27 (σ (69 + f))).length : Int)) + 1))] σ φ κ β (zu (ouA ω (μ 17) (paL σ 27 (σ (69 + f)))) ((μ 17 + ((paL σ 27 (σ (69 + f))).length : Int))) 47) H := W8.eq hnew (by simp only [mV, zu, Int.reduceEq, reduceIte])
    refine lv_aload_n (pc := 19) E.1 E.2 dX8_saysPath_19 rfl (lv_at hl 0 rfl) ?_
    refine lv_aload_n (pc := 20) E.1 E.2 dX8_saysPath_20 rfl (lv_at hl 0 rfl) ?_
    refine g8_0 (pc := 21) E hts hin8 hown hK hM.1 (hts _ (List.mem_of_getElem? (i := 1) rfl)) dX8_saysPath_21 ?_
    refine z_sipush (pc := 24) E (by decide) dX8_saysPath_24 ?_
    refine lv_iload_n (pc := 27) E.1 E.2 dX8_saysPath_27 rfl (lv_at hl 1 rfl) ?_
    refine z_iadd (pc := 28) E dX8_saysPath_28 ?_
    refine z_laload (pc := 29) E hK hM.2.1 ⟨by omega, by omega⟩ (by decide) dX8_saysPath_29 ?_
    have hb29 := hI.bd (149 + f)
    refine z_wVv (pc := 30) (As := [.long (iL (σ (149 + f)))]) (rest := []) E hml hown hts (mX8_saysName7 lL G o (zu (zu μ 17 (μ 17 + ((paL σ 27 (σ (69 + f))).length : Int))) 17 ((μ 17 + ((paL σ 27 (σ (69 + f))).length : Int)) + 1)) σ φ κ β (zu (ouA ω (μ 17) (paL σ 27 (σ (69 + f)))) ((μ 17 + ((paL σ 27 (σ (69 + f))).length : Int))) 47) (σ (149 + f)) (by first | omega | (simp only [zu, Int.reduceEq, reduceIte]; omega)) (by first | omega | (simp only [zu, Int.reduceEq, reduceIte]; omega))) (cwV 1 hts gX8_saysPath_X8_saysName rfl rfl rfl vdX8_saysName ⟨Nat.le_of_ble_eq_true rfl, Nat.le_of_ble_eq_true rfl⟩) (oB.recv hK hM.1 rfl) (W8.mu hM (by simp only [mV, zu, Int.reduceEq, reduceIte])) hK hS (fun _ h => h) rfl hl.1 rfl dX8_saysPath_30 hcs (Nat.le_of_ble_eq_true rfl) (fun H locs hnew hsz hoth hS => ?_)
    have hM : W8 G o [.ref (o 1), .ref (o 2), .ref (o 3), .int (iI (μ 3)), .int (iI (μ 4)), .ref (o 4), .int (iI (μ 6)), .int (iI (μ 7)), .int (iI (μ 8)), .int (iI (μ 9)), .int (iI (μ 10)), .int (iI (μ 11)), .int (iI (μ 12)), .int (iI (μ 13)), .int (iI (μ 14)), .long (iL (μ 15)), .ref (o 5), .int (iI (((μ 17 + ((paL σ 27 (σ (69 + f))).length : Int)) + 1) + ((naL 7 (σ (149 + f))).length : Int)))] σ φ κ β (ouA (zu (ouA ω (μ 17) (paL σ 27 (σ (69 + f)))) ((μ 17 + ((paL σ 27 (σ (69 + f))).length : Int))) 47) (((μ 17 + ((paL σ 27 (σ (69 + f))).length : Int)) + 1)) (naL 7 (σ (149 + f)))) H := W8.eq hnew (by simp only [mV, zu, Int.reduceEq, reduceIte])
    exact z_retWv E hr (by rw [show paL σ 28 f = paL σ 27 (σ (69 + f)) ++ [47] ++ naL 7 (σ (149 + f)) from if_pos (by omega), ← ouA_3]; exact W8.mu hM (by rw [← ouA_l3]; simp only [mV, zu, Int.reduceEq, reduceIte])) hS hlocks dX8_saysPath_33
set_option maxHeartbeats 1000000 in
set_option maxRecDepth 100000 in
theorem mX8_saysPath29 (lL : Launch) (G : GG) (o : Nat → Nat) (μ σ φ κ β ω : Int → Int) (f : Int) (hI : In σ) (hf : 0 ≤ f ∧ f < σ 2) (hd : dpF σ f ≤ 30) (hm : 0 ≤ μ 17 ∧ μ 17 + 270 ≤ 400) : Met lL yX8_saysPath wsX8_saysPath ({ frames := 38, cells := 0, slots := 0, locals := 806 } : Room) (va_Pc [.ref (o 0), .int (iI f)] (fun U => W8 G o (mV o μ) σ φ κ β ω U.heap ∧ KK G U)) (va_Qv (fun _ : Unit => True) (fun _ tZ => W8 G o (mV o (zu μ 17 (μ 17 + ((paL σ 29 f).length : Int)))) σ φ κ β (ouA ω (μ 17) (paL σ 29 f)) tZ.heap) (Ax o 6)) 0 0 (Ax o 6) := by
  refine z_met (P := (fun H : Heap => W8 G o (mV o μ) σ φ κ β ω H)) (by decide) rfl (Nat.le_of_ble_eq_true rfl) (fun pp ee ss mm below meth cC E hr hml hown hts hlocks hM hK ls hl => ?_)
  have hl : lv_has ls 2 [(0, .ref (o 0)), (1, .int (iI f))] := hl
  have hcs : 0 ≤ (({ frames := 38, cells := 0, slots := 0, locals := 806 } : Room)).cells ∧ 0 ≤ (({ frames := 38, cells := 0, slots := 0, locals := 806 } : Room)).slots := ⟨Nat.zero_le _, Nat.zero_le _⟩
  have hS : va_S (Ax o 6) ss.heap ss.heap [] := va_S.rf
  have hin8 : ∀ w ∈ wsX80, w ∈ wsX8_saysPath := fun w h => List.mem_cons_of_mem _ (List.mem_append_right _ (h))
  have hF := hI.F
  have hMm := hI.M
  have hGn := hI.Gn
  have hnk := nmk_b (hI.nam hf.1 hf.2)
  have e9 := dpF_s hI.cs hf.1 hf.2
  refine lv_iload_n (pc := 0) E.1 E.2 dX8_saysPath_0 rfl (lv_at hl 1 rfl) ?_
  refine z_if_le (pc := 1) (tgt := 19) E ⟨by omega, by omega⟩ dX8_saysPath_1 (by decide) (fun h1 => ?_) (fun h1 => ?_)
  · refine lv_aload_n (pc := 19) E.1 E.2 dX8_saysPath_19 rfl (lv_at hl 0 rfl) ?_
    refine lv_aload_n (pc := 20) E.1 E.2 dX8_saysPath_20 rfl (lv_at hl 0 rfl) ?_
    refine g8_0 (pc := 21) E hts hin8 hown hK hM.1 (hts _ (List.mem_of_getElem? (i := 1) rfl)) dX8_saysPath_21 ?_
    refine z_sipush (pc := 24) E (by decide) dX8_saysPath_24 ?_
    refine lv_iload_n (pc := 27) E.1 E.2 dX8_saysPath_27 rfl (lv_at hl 1 rfl) ?_
    refine z_iadd (pc := 28) E dX8_saysPath_28 ?_
    refine z_laload (pc := 29) E hK hM.2.1 ⟨by omega, by omega⟩ (by decide) dX8_saysPath_29 ?_
    have hb29 := hI.bd (149 + f)
    refine z_wVv (pc := 30) (As := [.long (iL (σ (149 + f)))]) (rest := []) E hml hown hts (mX8_saysName7 lL G o μ σ φ κ β ω (σ (149 + f)) (by omega) (by omega)) (cwV 1 hts gX8_saysPath_X8_saysName rfl rfl rfl vdX8_saysName ⟨Nat.le_of_ble_eq_true rfl, Nat.le_of_ble_eq_true rfl⟩) (oB.recv hK hM.1 rfl) hM hK hS (fun _ h => h) rfl hl.1 rfl dX8_saysPath_30 hcs (Nat.le_of_ble_eq_true rfl) (fun H locs hnew hsz hoth hS => ?_)
    have hM : W8 G o [.ref (o 1), .ref (o 2), .ref (o 3), .int (iI (μ 3)), .int (iI (μ 4)), .ref (o 4), .int (iI (μ 6)), .int (iI (μ 7)), .int (iI (μ 8)), .int (iI (μ 9)), .int (iI (μ 10)), .int (iI (μ 11)), .int (iI (μ 12)), .int (iI (μ 13)), .int (iI (μ 14)), .long (iL (μ 15)), .ref (o 5), .int (iI (μ 17 + ((naL 7 (σ (149 + f))).length : Int)))] σ φ κ β (ouA ω (μ 17) (naL 7 (σ (149 + f)))) H := W8.eq hnew (by simp only [mV, zu, Int.reduceEq, reduceIte])
    exact z_retWv E hr (by rw [show paL σ 29 f = naL 7 (σ (149 + f)) from if_neg (by omega)]; exact W8.mu hM (by simp only [mV, zu, Int.reduceEq, reduceIte])) hS hlocks dX8_saysPath_33
  · have hp1 := hI.par1 (f := f) (by omega) hf.2
    refine lv_aload_n (pc := 4) E.1 E.2 dX8_saysPath_4 rfl (lv_at hl 0 rfl) ?_
    refine lv_aload_n (pc := 5) E.1 E.2 dX8_saysPath_5 rfl (lv_at hl 0 rfl) ?_
    refine lv_iload_n (pc := 6) E.1 E.2 dX8_saysPath_6 rfl (lv_at hl 1 rfl) ?_
    refine z_rVi (pc := 7) (As := [.int (iI f)]) (rest := [.ref (o 0)]) E hml hown hts (mX8_parentOf lL G o μ σ φ κ β ω f (by omega)) (cwV 1 hts gX8_saysPath_X8_parentOf rfl rfl rfl vdX8_parentOf ⟨Nat.le_of_ble_eq_true rfl, Nat.le_of_ble_eq_true rfl⟩) (oB.recv hK hM.1 rfl) hM hK rfl hl.1 rfl dX8_saysPath_7 hcs (Nat.le_of_ble_eq_true rfl) ?_
    refine z_wVv (pc := 10) (As := [.int (iI (σ (69 + f)))]) (rest := []) E hml hown hts (mX8_saysPath28 lL G o μ σ φ κ β ω (σ (69 + f)) hI (by omega) (by omega) (by omega)) (cwV 1 hts gX8_saysPath_X8_saysPath rfl rfl rfl vdX8_saysPath ⟨Nat.le_of_ble_eq_true rfl, Nat.le_of_ble_eq_true rfl⟩) (oB.recv hK hM.1 rfl) hM hK hS (fun _ h => h) rfl hl.1 rfl dX8_saysPath_10 hcs (Nat.le_of_ble_eq_true rfl) (fun H locs hnew hsz hoth hS => ?_)
    have hM : W8 G o [.ref (o 1), .ref (o 2), .ref (o 3), .int (iI (μ 3)), .int (iI (μ 4)), .ref (o 4), .int (iI (μ 6)), .int (iI (μ 7)), .int (iI (μ 8)), .int (iI (μ 9)), .int (iI (μ 10)), .int (iI (μ 11)), .int (iI (μ 12)), .int (iI (μ 13)), .int (iI (μ 14)), .long (iL (μ 15)), .ref (o 5), .int (iI (μ 17 + ((paL σ 28 (σ (69 + f))).length : Int)))] σ φ κ β (ouA ω (μ 17) (paL σ 28 (σ (69 + f)))) H := W8.eq hnew (by simp only [mV, zu, Int.reduceEq, reduceIte])
    have hlb := paL_b σ 28 (σ (69 + f))
    refine lv_aload_n (pc := 13) E.1 E.2 dX8_saysPath_13 rfl (lv_at hl 0 rfl) ?_
    refine z_bipush (pc := 14) E (by decide) dX8_saysPath_14 ?_
    refine z_wVv (pc := 16) (As := [.int (iI 47)]) (rest := []) E hml hown hts (mX8_says lL G o (zu μ 17 (μ 17 + ((paL σ 28 (σ (69 + f))).length : Int))) σ φ κ β (ouA ω (μ 17) (paL σ 28 (σ (69 + f)))) 47 (by first | omega | (simp only [zu, Int.reduceEq, reduceIte]; omega)) (by first | omega | (simp only [zu, Int.reduceEq, reduceIte]; omega))) (cwV 1 hts gX8_saysPath_X8_says rfl rfl rfl vdX8_says ⟨Nat.le_of_ble_eq_true rfl, Nat.le_of_ble_eq_true rfl⟩) (oB.recv hK hM.1 rfl) (W8.mu hM (by simp only [mV, zu, Int.reduceEq, reduceIte])) hK hS (fun _ h => h) rfl hl.1 rfl dX8_saysPath_16 hcs (Nat.le_of_ble_eq_true rfl) (fun H locs hnew hsz hoth hS => ?_)
    have hM : W8 G o [.ref (o 1), .ref (o 2), .ref (o 3), .int (iI (μ 3)), .int (iI (μ 4)), .ref (o 4), .int (iI (μ 6)), .int (iI (μ 7)), .int (iI (μ 8)), .int (iI (μ 9)), .int (iI (μ 10)), .int (iI (μ 11)), .int (iI (μ 12)), .int (iI (μ 13)), .int (iI (μ 14)), .long (iL (μ 15)), .ref (o 5), .int (iI ((μ 17 + ((paL σ 28 (σ (69 + f))).length : Int)) + 1))] σ φ κ β (zu (ouA ω (μ 17) (paL σ 28 (σ (69 + f)))) ((μ 17 + ((paL σ 28 (σ (69 + f))).length : Int))) 47) H := W8.eq hnew (by simp only [mV, zu, Int.reduceEq, reduceIte])
    refine lv_aload_n (pc := 19) E.1 E.2 dX8_saysPath_19 rfl (lv_at hl 0 rfl) ?_
    refine lv_aload_n (pc := 20) E.1 E.2 dX8_saysPath_20 rfl (lv_at hl 0 rfl) ?_
    refine g8_0 (pc := 21) E hts hin8 hown hK hM.1 (hts _ (List.mem_of_getElem? (i := 1) rfl)) dX8_saysPath_21 ?_
    refine z_sipush (pc := 24) E (by decide) dX8_saysPath_24 ?_
    refine lv_iload_n (pc := 27) E.1 E.2 dX8_saysPath_27 rfl (lv_at hl 1 rfl) ?_
    refine z_iadd (pc := 28) E dX8_saysPath_28 ?_
    refine z_laload (pc := 29) E hK hM.2.1 ⟨by omega, by omega⟩ (by decide) dX8_saysPath_29 ?_
    have hb29 := hI.bd (149 + f)
    refine z_wVv (pc := 30) (As := [.long (iL (σ (149 + f)))]) (rest := []) E hml hown hts (mX8_saysName7 lL G o (zu (zu μ 17 (μ 17 + ((paL σ 28 (σ (69 + f))).length : Int))) 17 ((μ 17 + ((paL σ 28 (σ (69 + f))).length : Int)) + 1)) σ φ κ β (zu (ouA ω (μ 17) (paL σ 28 (σ (69 + f)))) ((μ 17 + ((paL σ 28 (σ (69 + f))).length : Int))) 47) (σ (149 + f)) (by first | omega | (simp only [zu, Int.reduceEq, reduceIte]; omega)) (by first | omega | (simp only [zu, Int.reduceEq, reduceIte]; omega))) (cwV 1 hts gX8_saysPath_X8_saysName rfl rfl rfl vdX8_saysName ⟨Nat.le_of_ble_eq_true rfl, Nat.le_of_ble_eq_true rfl⟩) (oB.recv hK hM.1 rfl) (W8.mu hM (by simp only [mV, zu, Int.reduceEq, reduceIte])) hK hS (fun _ h => h) rfl hl.1 rfl dX8_saysPath_30 hcs (Nat.le_of_ble_eq_true rfl) (fun H locs hnew hsz hoth hS => ?_)
    have hM : W8 G o [.ref (o 1), .ref (o 2), .ref (o 3), .int (iI (μ 3)), .int (iI (μ 4)), .ref (o 4), .int (iI (μ 6)), .int (iI (μ 7)), .int (iI (μ 8)), .int (iI (μ 9)), .int (iI (μ 10)), .int (iI (μ 11)), .int (iI (μ 12)), .int (iI (μ 13)), .int (iI (μ 14)), .long (iL (μ 15)), .ref (o 5), .int (iI (((μ 17 + ((paL σ 28 (σ (69 + f))).length : Int)) + 1) + ((naL 7 (σ (149 + f))).length : Int)))] σ φ κ β (ouA (zu (ouA ω (μ 17) (paL σ 28 (σ (69 + f)))) ((μ 17 + ((paL σ 28 (σ (69 + f))).length : Int))) 47) (((μ 17 + ((paL σ 28 (σ (69 + f))).length : Int)) + 1)) (naL 7 (σ (149 + f)))) H := W8.eq hnew (by simp only [mV, zu, Int.reduceEq, reduceIte])
    exact z_retWv E hr (by rw [show paL σ 29 f = paL σ 28 (σ (69 + f)) ++ [47] ++ naL 7 (σ (149 + f)) from if_pos (by omega), ← ouA_3]; exact W8.mu hM (by rw [← ouA_l3]; simp only [mV, zu, Int.reduceEq, reduceIte])) hS hlocks dX8_saysPath_33
set_option maxHeartbeats 1000000 in
set_option maxRecDepth 100000 in
theorem mX8_saysPath30 (lL : Launch) (G : GG) (o : Nat → Nat) (μ σ φ κ β ω : Int → Int) (f : Int) (hI : In σ) (hf : 0 ≤ f ∧ f < σ 2) (hd : dpF σ f ≤ 31) (hm : 0 ≤ μ 17 ∧ μ 17 + 279 ≤ 400) : Met lL yX8_saysPath wsX8_saysPath ({ frames := 39, cells := 0, slots := 0, locals := 827 } : Room) (va_Pc [.ref (o 0), .int (iI f)] (fun U => W8 G o (mV o μ) σ φ κ β ω U.heap ∧ KK G U)) (va_Qv (fun _ : Unit => True) (fun _ tZ => W8 G o (mV o (zu μ 17 (μ 17 + ((paL σ 30 f).length : Int)))) σ φ κ β (ouA ω (μ 17) (paL σ 30 f)) tZ.heap) (Ax o 6)) 0 0 (Ax o 6) := by
  refine z_met (P := (fun H : Heap => W8 G o (mV o μ) σ φ κ β ω H)) (by decide) rfl (Nat.le_of_ble_eq_true rfl) (fun pp ee ss mm below meth cC E hr hml hown hts hlocks hM hK ls hl => ?_)
  have hl : lv_has ls 2 [(0, .ref (o 0)), (1, .int (iI f))] := hl
  have hcs : 0 ≤ (({ frames := 39, cells := 0, slots := 0, locals := 827 } : Room)).cells ∧ 0 ≤ (({ frames := 39, cells := 0, slots := 0, locals := 827 } : Room)).slots := ⟨Nat.zero_le _, Nat.zero_le _⟩
  have hS : va_S (Ax o 6) ss.heap ss.heap [] := va_S.rf
  have hin8 : ∀ w ∈ wsX80, w ∈ wsX8_saysPath := fun w h => List.mem_cons_of_mem _ (List.mem_append_right _ (h))
  have hF := hI.F
  have hMm := hI.M
  have hGn := hI.Gn
  have hnk := nmk_b (hI.nam hf.1 hf.2)
  have e9 := dpF_s hI.cs hf.1 hf.2
  refine lv_iload_n (pc := 0) E.1 E.2 dX8_saysPath_0 rfl (lv_at hl 1 rfl) ?_
  refine z_if_le (pc := 1) (tgt := 19) E ⟨by omega, by omega⟩ dX8_saysPath_1 (by decide) (fun h1 => ?_) (fun h1 => ?_)
  · refine lv_aload_n (pc := 19) E.1 E.2 dX8_saysPath_19 rfl (lv_at hl 0 rfl) ?_
    refine lv_aload_n (pc := 20) E.1 E.2 dX8_saysPath_20 rfl (lv_at hl 0 rfl) ?_
    refine g8_0 (pc := 21) E hts hin8 hown hK hM.1 (hts _ (List.mem_of_getElem? (i := 1) rfl)) dX8_saysPath_21 ?_
    refine z_sipush (pc := 24) E (by decide) dX8_saysPath_24 ?_
    refine lv_iload_n (pc := 27) E.1 E.2 dX8_saysPath_27 rfl (lv_at hl 1 rfl) ?_
    refine z_iadd (pc := 28) E dX8_saysPath_28 ?_
    refine z_laload (pc := 29) E hK hM.2.1 ⟨by omega, by omega⟩ (by decide) dX8_saysPath_29 ?_
    have hb29 := hI.bd (149 + f)
    refine z_wVv (pc := 30) (As := [.long (iL (σ (149 + f)))]) (rest := []) E hml hown hts (mX8_saysName7 lL G o μ σ φ κ β ω (σ (149 + f)) (by omega) (by omega)) (cwV 1 hts gX8_saysPath_X8_saysName rfl rfl rfl vdX8_saysName ⟨Nat.le_of_ble_eq_true rfl, Nat.le_of_ble_eq_true rfl⟩) (oB.recv hK hM.1 rfl) hM hK hS (fun _ h => h) rfl hl.1 rfl dX8_saysPath_30 hcs (Nat.le_of_ble_eq_true rfl) (fun H locs hnew hsz hoth hS => ?_)
    have hM : W8 G o [.ref (o 1), .ref (o 2), .ref (o 3), .int (iI (μ 3)), .int (iI (μ 4)), .ref (o 4), .int (iI (μ 6)), .int (iI (μ 7)), .int (iI (μ 8)), .int (iI (μ 9)), .int (iI (μ 10)), .int (iI (μ 11)), .int (iI (μ 12)), .int (iI (μ 13)), .int (iI (μ 14)), .long (iL (μ 15)), .ref (o 5), .int (iI (μ 17 + ((naL 7 (σ (149 + f))).length : Int)))] σ φ κ β (ouA ω (μ 17) (naL 7 (σ (149 + f)))) H := W8.eq hnew (by simp only [mV, zu, Int.reduceEq, reduceIte])
    exact z_retWv E hr (by rw [show paL σ 30 f = naL 7 (σ (149 + f)) from if_neg (by omega)]; exact W8.mu hM (by simp only [mV, zu, Int.reduceEq, reduceIte])) hS hlocks dX8_saysPath_33
  · have hp1 := hI.par1 (f := f) (by omega) hf.2
    refine lv_aload_n (pc := 4) E.1 E.2 dX8_saysPath_4 rfl (lv_at hl 0 rfl) ?_
    refine lv_aload_n (pc := 5) E.1 E.2 dX8_saysPath_5 rfl (lv_at hl 0 rfl) ?_
    refine lv_iload_n (pc := 6) E.1 E.2 dX8_saysPath_6 rfl (lv_at hl 1 rfl) ?_
    refine z_rVi (pc := 7) (As := [.int (iI f)]) (rest := [.ref (o 0)]) E hml hown hts (mX8_parentOf lL G o μ σ φ κ β ω f (by omega)) (cwV 1 hts gX8_saysPath_X8_parentOf rfl rfl rfl vdX8_parentOf ⟨Nat.le_of_ble_eq_true rfl, Nat.le_of_ble_eq_true rfl⟩) (oB.recv hK hM.1 rfl) hM hK rfl hl.1 rfl dX8_saysPath_7 hcs (Nat.le_of_ble_eq_true rfl) ?_
    refine z_wVv (pc := 10) (As := [.int (iI (σ (69 + f)))]) (rest := []) E hml hown hts (mX8_saysPath29 lL G o μ σ φ κ β ω (σ (69 + f)) hI (by omega) (by omega) (by omega)) (cwV 1 hts gX8_saysPath_X8_saysPath rfl rfl rfl vdX8_saysPath ⟨Nat.le_of_ble_eq_true rfl, Nat.le_of_ble_eq_true rfl⟩) (oB.recv hK hM.1 rfl) hM hK hS (fun _ h => h) rfl hl.1 rfl dX8_saysPath_10 hcs (Nat.le_of_ble_eq_true rfl) (fun H locs hnew hsz hoth hS => ?_)
    have hM : W8 G o [.ref (o 1), .ref (o 2), .ref (o 3), .int (iI (μ 3)), .int (iI (μ 4)), .ref (o 4), .int (iI (μ 6)), .int (iI (μ 7)), .int (iI (μ 8)), .int (iI (μ 9)), .int (iI (μ 10)), .int (iI (μ 11)), .int (iI (μ 12)), .int (iI (μ 13)), .int (iI (μ 14)), .long (iL (μ 15)), .ref (o 5), .int (iI (μ 17 + ((paL σ 29 (σ (69 + f))).length : Int)))] σ φ κ β (ouA ω (μ 17) (paL σ 29 (σ (69 + f)))) H := W8.eq hnew (by simp only [mV, zu, Int.reduceEq, reduceIte])
    have hlb := paL_b σ 29 (σ (69 + f))
    refine lv_aload_n (pc := 13) E.1 E.2 dX8_saysPath_13 rfl (lv_at hl 0 rfl) ?_
    refine z_bipush (pc := 14) E (by decide) dX8_saysPath_14 ?_
    refine z_wVv (pc := 16) (As := [.int (iI 47)]) (rest := []) E hml hown hts (mX8_says lL G o (zu μ 17 (μ 17 + ((paL σ 29 (σ (69 + f))).length : Int))) σ φ κ β (ouA ω (μ 17) (paL σ 29 (σ (69 + f)))) 47 (by first | omega | (simp only [zu, Int.reduceEq, reduceIte]; omega)) (by first | omega | (simp only [zu, Int.reduceEq, reduceIte]; omega))) (cwV 1 hts gX8_saysPath_X8_says rfl rfl rfl vdX8_says ⟨Nat.le_of_ble_eq_true rfl, Nat.le_of_ble_eq_true rfl⟩) (oB.recv hK hM.1 rfl) (W8.mu hM (by simp only [mV, zu, Int.reduceEq, reduceIte])) hK hS (fun _ h => h) rfl hl.1 rfl dX8_saysPath_16 hcs (Nat.le_of_ble_eq_true rfl) (fun H locs hnew hsz hoth hS => ?_)
    have hM : W8 G o [.ref (o 1), .ref (o 2), .ref (o 3), .int (iI (μ 3)), .int (iI (μ 4)), .ref (o 4), .int (iI (μ 6)), .int (iI (μ 7)), .int (iI (μ 8)), .int (iI (μ 9)), .int (iI (μ 10)), .int (iI (μ 11)), .int (iI (μ 12)), .int (iI (μ 13)), .int (iI (μ 14)), .long (iL (μ 15)), .ref (o 5), .int (iI ((μ 17 + ((paL σ 29 (σ (69 + f))).length : Int)) + 1))] σ φ κ β (zu (ouA ω (μ 17) (paL σ 29 (σ (69 + f)))) ((μ 17 + ((paL σ 29 (σ (69 + f))).length : Int))) 47) H := W8.eq hnew (by simp only [mV, zu, Int.reduceEq, reduceIte])
    refine lv_aload_n (pc := 19) E.1 E.2 dX8_saysPath_19 rfl (lv_at hl 0 rfl) ?_
    refine lv_aload_n (pc := 20) E.1 E.2 dX8_saysPath_20 rfl (lv_at hl 0 rfl) ?_
    refine g8_0 (pc := 21) E hts hin8 hown hK hM.1 (hts _ (List.mem_of_getElem? (i := 1) rfl)) dX8_saysPath_21 ?_
    refine z_sipush (pc := 24) E (by decide) dX8_saysPath_24 ?_
    refine lv_iload_n (pc := 27) E.1 E.2 dX8_saysPath_27 rfl (lv_at hl 1 rfl) ?_
    refine z_iadd (pc := 28) E dX8_saysPath_28 ?_
    refine z_laload (pc := 29) E hK hM.2.1 ⟨by omega, by omega⟩ (by decide) dX8_saysPath_29 ?_
    have hb29 := hI.bd (149 + f)
    refine z_wVv (pc := 30) (As := [.long (iL (σ (149 + f)))]) (rest := []) E hml hown hts (mX8_saysName7 lL G o (zu (zu μ 17 (μ 17 + ((paL σ 29 (σ (69 + f))).length : Int))) 17 ((μ 17 + ((paL σ 29 (σ (69 + f))).length : Int)) + 1)) σ φ κ β (zu (ouA ω (μ 17) (paL σ 29 (σ (69 + f)))) ((μ 17 + ((paL σ 29 (σ (69 + f))).length : Int))) 47) (σ (149 + f)) (by first | omega | (simp only [zu, Int.reduceEq, reduceIte]; omega)) (by first | omega | (simp only [zu, Int.reduceEq, reduceIte]; omega))) (cwV 1 hts gX8_saysPath_X8_saysName rfl rfl rfl vdX8_saysName ⟨Nat.le_of_ble_eq_true rfl, Nat.le_of_ble_eq_true rfl⟩) (oB.recv hK hM.1 rfl) (W8.mu hM (by simp only [mV, zu, Int.reduceEq, reduceIte])) hK hS (fun _ h => h) rfl hl.1 rfl dX8_saysPath_30 hcs (Nat.le_of_ble_eq_true rfl) (fun H locs hnew hsz hoth hS => ?_)
    have hM : W8 G o [.ref (o 1), .ref (o 2), .ref (o 3), .int (iI (μ 3)), .int (iI (μ 4)), .ref (o 4), .int (iI (μ 6)), .int (iI (μ 7)), .int (iI (μ 8)), .int (iI (μ 9)), .int (iI (μ 10)), .int (iI (μ 11)), .int (iI (μ 12)), .int (iI (μ 13)), .int (iI (μ 14)), .long (iL (μ 15)), .ref (o 5), .int (iI (((μ 17 + ((paL σ 29 (σ (69 + f))).length : Int)) + 1) + ((naL 7 (σ (149 + f))).length : Int)))] σ φ κ β (ouA (zu (ouA ω (μ 17) (paL σ 29 (σ (69 + f)))) ((μ 17 + ((paL σ 29 (σ (69 + f))).length : Int))) 47) (((μ 17 + ((paL σ 29 (σ (69 + f))).length : Int)) + 1)) (naL 7 (σ (149 + f)))) H := W8.eq hnew (by simp only [mV, zu, Int.reduceEq, reduceIte])
    exact z_retWv E hr (by rw [show paL σ 30 f = paL σ 29 (σ (69 + f)) ++ [47] ++ naL 7 (σ (149 + f)) from if_pos (by omega), ← ouA_3]; exact W8.mu hM (by rw [← ouA_l3]; simp only [mV, zu, Int.reduceEq, reduceIte])) hS hlocks dX8_saysPath_33
set_option maxHeartbeats 1000000 in
set_option maxRecDepth 100000 in
theorem mX8_saysPath31 (lL : Launch) (G : GG) (o : Nat → Nat) (μ σ φ κ β ω : Int → Int) (f : Int) (hI : In σ) (hf : 0 ≤ f ∧ f < σ 2) (hd : dpF σ f ≤ 32) (hm : 0 ≤ μ 17 ∧ μ 17 + 288 ≤ 400) : Met lL yX8_saysPath wsX8_saysPath ({ frames := 40, cells := 0, slots := 0, locals := 848 } : Room) (va_Pc [.ref (o 0), .int (iI f)] (fun U => W8 G o (mV o μ) σ φ κ β ω U.heap ∧ KK G U)) (va_Qv (fun _ : Unit => True) (fun _ tZ => W8 G o (mV o (zu μ 17 (μ 17 + ((paL σ 31 f).length : Int)))) σ φ κ β (ouA ω (μ 17) (paL σ 31 f)) tZ.heap) (Ax o 6)) 0 0 (Ax o 6) := by
  refine z_met (P := (fun H : Heap => W8 G o (mV o μ) σ φ κ β ω H)) (by decide) rfl (Nat.le_of_ble_eq_true rfl) (fun pp ee ss mm below meth cC E hr hml hown hts hlocks hM hK ls hl => ?_)
  have hl : lv_has ls 2 [(0, .ref (o 0)), (1, .int (iI f))] := hl
  have hcs : 0 ≤ (({ frames := 40, cells := 0, slots := 0, locals := 848 } : Room)).cells ∧ 0 ≤ (({ frames := 40, cells := 0, slots := 0, locals := 848 } : Room)).slots := ⟨Nat.zero_le _, Nat.zero_le _⟩
  have hS : va_S (Ax o 6) ss.heap ss.heap [] := va_S.rf
  have hin8 : ∀ w ∈ wsX80, w ∈ wsX8_saysPath := fun w h => List.mem_cons_of_mem _ (List.mem_append_right _ (h))
  have hF := hI.F
  have hMm := hI.M
  have hGn := hI.Gn
  have hnk := nmk_b (hI.nam hf.1 hf.2)
  have e9 := dpF_s hI.cs hf.1 hf.2
  refine lv_iload_n (pc := 0) E.1 E.2 dX8_saysPath_0 rfl (lv_at hl 1 rfl) ?_
  refine z_if_le (pc := 1) (tgt := 19) E ⟨by omega, by omega⟩ dX8_saysPath_1 (by decide) (fun h1 => ?_) (fun h1 => ?_)
  · refine lv_aload_n (pc := 19) E.1 E.2 dX8_saysPath_19 rfl (lv_at hl 0 rfl) ?_
    refine lv_aload_n (pc := 20) E.1 E.2 dX8_saysPath_20 rfl (lv_at hl 0 rfl) ?_
    refine g8_0 (pc := 21) E hts hin8 hown hK hM.1 (hts _ (List.mem_of_getElem? (i := 1) rfl)) dX8_saysPath_21 ?_
    refine z_sipush (pc := 24) E (by decide) dX8_saysPath_24 ?_
    refine lv_iload_n (pc := 27) E.1 E.2 dX8_saysPath_27 rfl (lv_at hl 1 rfl) ?_
    refine z_iadd (pc := 28) E dX8_saysPath_28 ?_
    refine z_laload (pc := 29) E hK hM.2.1 ⟨by omega, by omega⟩ (by decide) dX8_saysPath_29 ?_
    have hb29 := hI.bd (149 + f)
    refine z_wVv (pc := 30) (As := [.long (iL (σ (149 + f)))]) (rest := []) E hml hown hts (mX8_saysName7 lL G o μ σ φ κ β ω (σ (149 + f)) (by omega) (by omega)) (cwV 1 hts gX8_saysPath_X8_saysName rfl rfl rfl vdX8_saysName ⟨Nat.le_of_ble_eq_true rfl, Nat.le_of_ble_eq_true rfl⟩) (oB.recv hK hM.1 rfl) hM hK hS (fun _ h => h) rfl hl.1 rfl dX8_saysPath_30 hcs (Nat.le_of_ble_eq_true rfl) (fun H locs hnew hsz hoth hS => ?_)
    have hM : W8 G o [.ref (o 1), .ref (o 2), .ref (o 3), .int (iI (μ 3)), .int (iI (μ 4)), .ref (o 4), .int (iI (μ 6)), .int (iI (μ 7)), .int (iI (μ 8)), .int (iI (μ 9)), .int (iI (μ 10)), .int (iI (μ 11)), .int (iI (μ 12)), .int (iI (μ 13)), .int (iI (μ 14)), .long (iL (μ 15)), .ref (o 5), .int (iI (μ 17 + ((naL 7 (σ (149 + f))).length : Int)))] σ φ κ β (ouA ω (μ 17) (naL 7 (σ (149 + f)))) H := W8.eq hnew (by simp only [mV, zu, Int.reduceEq, reduceIte])
    exact z_retWv E hr (by rw [show paL σ 31 f = naL 7 (σ (149 + f)) from if_neg (by omega)]; exact W8.mu hM (by simp only [mV, zu, Int.reduceEq, reduceIte])) hS hlocks dX8_saysPath_33
  · have hp1 := hI.par1 (f := f) (by omega) hf.2
    refine lv_aload_n (pc := 4) E.1 E.2 dX8_saysPath_4 rfl (lv_at hl 0 rfl) ?_
    refine lv_aload_n (pc := 5) E.1 E.2 dX8_saysPath_5 rfl (lv_at hl 0 rfl) ?_
    refine lv_iload_n (pc := 6) E.1 E.2 dX8_saysPath_6 rfl (lv_at hl 1 rfl) ?_
    refine z_rVi (pc := 7) (As := [.int (iI f)]) (rest := [.ref (o 0)]) E hml hown hts (mX8_parentOf lL G o μ σ φ κ β ω f (by omega)) (cwV 1 hts gX8_saysPath_X8_parentOf rfl rfl rfl vdX8_parentOf ⟨Nat.le_of_ble_eq_true rfl, Nat.le_of_ble_eq_true rfl⟩) (oB.recv hK hM.1 rfl) hM hK rfl hl.1 rfl dX8_saysPath_7 hcs (Nat.le_of_ble_eq_true rfl) ?_
    refine z_wVv (pc := 10) (As := [.int (iI (σ (69 + f)))]) (rest := []) E hml hown hts (mX8_saysPath30 lL G o μ σ φ κ β ω (σ (69 + f)) hI (by omega) (by omega) (by omega)) (cwV 1 hts gX8_saysPath_X8_saysPath rfl rfl rfl vdX8_saysPath ⟨Nat.le_of_ble_eq_true rfl, Nat.le_of_ble_eq_true rfl⟩) (oB.recv hK hM.1 rfl) hM hK hS (fun _ h => h) rfl hl.1 rfl dX8_saysPath_10 hcs (Nat.le_of_ble_eq_true rfl) (fun H locs hnew hsz hoth hS => ?_)
    have hM : W8 G o [.ref (o 1), .ref (o 2), .ref (o 3), .int (iI (μ 3)), .int (iI (μ 4)), .ref (o 4), .int (iI (μ 6)), .int (iI (μ 7)), .int (iI (μ 8)), .int (iI (μ 9)), .int (iI (μ 10)), .int (iI (μ 11)), .int (iI (μ 12)), .int (iI (μ 13)), .int (iI (μ 14)), .long (iL (μ 15)), .ref (o 5), .int (iI (μ 17 + ((paL σ 30 (σ (69 + f))).length : Int)))] σ φ κ β (ouA ω (μ 17) (paL σ 30 (σ (69 + f)))) H := W8.eq hnew (by simp only [mV, zu, Int.reduceEq, reduceIte])
    have hlb := paL_b σ 30 (σ (69 + f))
    refine lv_aload_n (pc := 13) E.1 E.2 dX8_saysPath_13 rfl (lv_at hl 0 rfl) ?_
    refine z_bipush (pc := 14) E (by decide) dX8_saysPath_14 ?_
    refine z_wVv (pc := 16) (As := [.int (iI 47)]) (rest := []) E hml hown hts (mX8_says lL G o (zu μ 17 (μ 17 + ((paL σ 30 (σ (69 + f))).length : Int))) σ φ κ β (ouA ω (μ 17) (paL σ 30 (σ (69 + f)))) 47 (by first | omega | (simp only [zu, Int.reduceEq, reduceIte]; omega)) (by first | omega | (simp only [zu, Int.reduceEq, reduceIte]; omega))) (cwV 1 hts gX8_saysPath_X8_says rfl rfl rfl vdX8_says ⟨Nat.le_of_ble_eq_true rfl, Nat.le_of_ble_eq_true rfl⟩) (oB.recv hK hM.1 rfl) (W8.mu hM (by simp only [mV, zu, Int.reduceEq, reduceIte])) hK hS (fun _ h => h) rfl hl.1 rfl dX8_saysPath_16 hcs (Nat.le_of_ble_eq_true rfl) (fun H locs hnew hsz hoth hS => ?_)
    have hM : W8 G o [.ref (o 1), .ref (o 2), .ref (o 3), .int (iI (μ 3)), .int (iI (μ 4)), .ref (o 4), .int (iI (μ 6)), .int (iI (μ 7)), .int (iI (μ 8)), .int (iI (μ 9)), .int (iI (μ 10)), .int (iI (μ 11)), .int (iI (μ 12)), .int (iI (μ 13)), .int (iI (μ 14)), .long (iL (μ 15)), .ref (o 5), .int (iI ((μ 17 + ((paL σ 30 (σ (69 + f))).length : Int)) + 1))] σ φ κ β (zu (ouA ω (μ 17) (paL σ 30 (σ (69 + f)))) ((μ 17 + ((paL σ 30 (σ (69 + f))).length : Int))) 47) H := W8.eq hnew (by simp only [mV, zu, Int.reduceEq, reduceIte])
    refine lv_aload_n (pc := 19) E.1 E.2 dX8_saysPath_19 rfl (lv_at hl 0 rfl) ?_
    refine lv_aload_n (pc := 20) E.1 E.2 dX8_saysPath_20 rfl (lv_at hl 0 rfl) ?_
    refine g8_0 (pc := 21) E hts hin8 hown hK hM.1 (hts _ (List.mem_of_getElem? (i := 1) rfl)) dX8_saysPath_21 ?_
    refine z_sipush (pc := 24) E (by decide) dX8_saysPath_24 ?_
    refine lv_iload_n (pc := 27) E.1 E.2 dX8_saysPath_27 rfl (lv_at hl 1 rfl) ?_
    refine z_iadd (pc := 28) E dX8_saysPath_28 ?_
    refine z_laload (pc := 29) E hK hM.2.1 ⟨by omega, by omega⟩ (by decide) dX8_saysPath_29 ?_
    have hb29 := hI.bd (149 + f)
    refine z_wVv (pc := 30) (As := [.long (iL (σ (149 + f)))]) (rest := []) E hml hown hts (mX8_saysName7 lL G o (zu (zu μ 17 (μ 17 + ((paL σ 30 (σ (69 + f))).length : Int))) 17 ((μ 17 + ((paL σ 30 (σ (69 + f))).length : Int)) + 1)) σ φ κ β (zu (ouA ω (μ 17) (paL σ 30 (σ (69 + f)))) ((μ 17 + ((paL σ 30 (σ (69 + f))).length : Int))) 47) (σ (149 + f)) (by first | omega | (simp only [zu, Int.reduceEq, reduceIte]; omega)) (by first | omega | (simp only [zu, Int.reduceEq, reduceIte]; omega))) (cwV 1 hts gX8_saysPath_X8_saysName rfl rfl rfl vdX8_saysName ⟨Nat.le_of_ble_eq_true rfl, Nat.le_of_ble_eq_true rfl⟩) (oB.recv hK hM.1 rfl) (W8.mu hM (by simp only [mV, zu, Int.reduceEq, reduceIte])) hK hS (fun _ h => h) rfl hl.1 rfl dX8_saysPath_30 hcs (Nat.le_of_ble_eq_true rfl) (fun H locs hnew hsz hoth hS => ?_)
    have hM : W8 G o [.ref (o 1), .ref (o 2), .ref (o 3), .int (iI (μ 3)), .int (iI (μ 4)), .ref (o 4), .int (iI (μ 6)), .int (iI (μ 7)), .int (iI (μ 8)), .int (iI (μ 9)), .int (iI (μ 10)), .int (iI (μ 11)), .int (iI (μ 12)), .int (iI (μ 13)), .int (iI (μ 14)), .long (iL (μ 15)), .ref (o 5), .int (iI (((μ 17 + ((paL σ 30 (σ (69 + f))).length : Int)) + 1) + ((naL 7 (σ (149 + f))).length : Int)))] σ φ κ β (ouA (zu (ouA ω (μ 17) (paL σ 30 (σ (69 + f)))) ((μ 17 + ((paL σ 30 (σ (69 + f))).length : Int))) 47) (((μ 17 + ((paL σ 30 (σ (69 + f))).length : Int)) + 1)) (naL 7 (σ (149 + f)))) H := W8.eq hnew (by simp only [mV, zu, Int.reduceEq, reduceIte])
    exact z_retWv E hr (by rw [show paL σ 31 f = paL σ 30 (σ (69 + f)) ++ [47] ++ naL 7 (σ (149 + f)) from if_pos (by omega), ← ouA_3]; exact W8.mu hM (by rw [← ouA_l3]; simp only [mV, zu, Int.reduceEq, reduceIte])) hS hlocks dX8_saysPath_33
set_option maxHeartbeats 1000000 in
set_option maxRecDepth 100000 in
theorem mX8_saysPath32 (lL : Launch) (G : GG) (o : Nat → Nat) (μ σ φ κ β ω : Int → Int) (f : Int) (hI : In σ) (hf : 0 ≤ f ∧ f < σ 2) (hd : dpF σ f ≤ 33) (hm : 0 ≤ μ 17 ∧ μ 17 + 297 ≤ 400) : Met lL yX8_saysPath wsX8_saysPath ({ frames := 41, cells := 0, slots := 0, locals := 869 } : Room) (va_Pc [.ref (o 0), .int (iI f)] (fun U => W8 G o (mV o μ) σ φ κ β ω U.heap ∧ KK G U)) (va_Qv (fun _ : Unit => True) (fun _ tZ => W8 G o (mV o (zu μ 17 (μ 17 + ((paL σ 32 f).length : Int)))) σ φ κ β (ouA ω (μ 17) (paL σ 32 f)) tZ.heap) (Ax o 6)) 0 0 (Ax o 6) := by
  refine z_met (P := (fun H : Heap => W8 G o (mV o μ) σ φ κ β ω H)) (by decide) rfl (Nat.le_of_ble_eq_true rfl) (fun pp ee ss mm below meth cC E hr hml hown hts hlocks hM hK ls hl => ?_)
  have hl : lv_has ls 2 [(0, .ref (o 0)), (1, .int (iI f))] := hl
  have hcs : 0 ≤ (({ frames := 41, cells := 0, slots := 0, locals := 869 } : Room)).cells ∧ 0 ≤ (({ frames := 41, cells := 0, slots := 0, locals := 869 } : Room)).slots := ⟨Nat.zero_le _, Nat.zero_le _⟩
  have hS : va_S (Ax o 6) ss.heap ss.heap [] := va_S.rf
  have hin8 : ∀ w ∈ wsX80, w ∈ wsX8_saysPath := fun w h => List.mem_cons_of_mem _ (List.mem_append_right _ (h))
  have hF := hI.F
  have hMm := hI.M
  have hGn := hI.Gn
  have hnk := nmk_b (hI.nam hf.1 hf.2)
  have e9 := dpF_s hI.cs hf.1 hf.2
  refine lv_iload_n (pc := 0) E.1 E.2 dX8_saysPath_0 rfl (lv_at hl 1 rfl) ?_
  refine z_if_le (pc := 1) (tgt := 19) E ⟨by omega, by omega⟩ dX8_saysPath_1 (by decide) (fun h1 => ?_) (fun h1 => ?_)
  · refine lv_aload_n (pc := 19) E.1 E.2 dX8_saysPath_19 rfl (lv_at hl 0 rfl) ?_
    refine lv_aload_n (pc := 20) E.1 E.2 dX8_saysPath_20 rfl (lv_at hl 0 rfl) ?_
    refine g8_0 (pc := 21) E hts hin8 hown hK hM.1 (hts _ (List.mem_of_getElem? (i := 1) rfl)) dX8_saysPath_21 ?_
    refine z_sipush (pc := 24) E (by decide) dX8_saysPath_24 ?_
    refine lv_iload_n (pc := 27) E.1 E.2 dX8_saysPath_27 rfl (lv_at hl 1 rfl) ?_
    refine z_iadd (pc := 28) E dX8_saysPath_28 ?_
    refine z_laload (pc := 29) E hK hM.2.1 ⟨by omega, by omega⟩ (by decide) dX8_saysPath_29 ?_
    have hb29 := hI.bd (149 + f)
    refine z_wVv (pc := 30) (As := [.long (iL (σ (149 + f)))]) (rest := []) E hml hown hts (mX8_saysName7 lL G o μ σ φ κ β ω (σ (149 + f)) (by omega) (by omega)) (cwV 1 hts gX8_saysPath_X8_saysName rfl rfl rfl vdX8_saysName ⟨Nat.le_of_ble_eq_true rfl, Nat.le_of_ble_eq_true rfl⟩) (oB.recv hK hM.1 rfl) hM hK hS (fun _ h => h) rfl hl.1 rfl dX8_saysPath_30 hcs (Nat.le_of_ble_eq_true rfl) (fun H locs hnew hsz hoth hS => ?_)
    have hM : W8 G o [.ref (o 1), .ref (o 2), .ref (o 3), .int (iI (μ 3)), .int (iI (μ 4)), .ref (o 4), .int (iI (μ 6)), .int (iI (μ 7)), .int (iI (μ 8)), .int (iI (μ 9)), .int (iI (μ 10)), .int (iI (μ 11)), .int (iI (μ 12)), .int (iI (μ 13)), .int (iI (μ 14)), .long (iL (μ 15)), .ref (o 5), .int (iI (μ 17 + ((naL 7 (σ (149 + f))).length : Int)))] σ φ κ β (ouA ω (μ 17) (naL 7 (σ (149 + f)))) H := W8.eq hnew (by simp only [mV, zu, Int.reduceEq, reduceIte])
    exact z_retWv E hr (by rw [show paL σ 32 f = naL 7 (σ (149 + f)) from if_neg (by omega)]; exact W8.mu hM (by simp only [mV, zu, Int.reduceEq, reduceIte])) hS hlocks dX8_saysPath_33
  · have hp1 := hI.par1 (f := f) (by omega) hf.2
    refine lv_aload_n (pc := 4) E.1 E.2 dX8_saysPath_4 rfl (lv_at hl 0 rfl) ?_
    refine lv_aload_n (pc := 5) E.1 E.2 dX8_saysPath_5 rfl (lv_at hl 0 rfl) ?_
    refine lv_iload_n (pc := 6) E.1 E.2 dX8_saysPath_6 rfl (lv_at hl 1 rfl) ?_
    refine z_rVi (pc := 7) (As := [.int (iI f)]) (rest := [.ref (o 0)]) E hml hown hts (mX8_parentOf lL G o μ σ φ κ β ω f (by omega)) (cwV 1 hts gX8_saysPath_X8_parentOf rfl rfl rfl vdX8_parentOf ⟨Nat.le_of_ble_eq_true rfl, Nat.le_of_ble_eq_true rfl⟩) (oB.recv hK hM.1 rfl) hM hK rfl hl.1 rfl dX8_saysPath_7 hcs (Nat.le_of_ble_eq_true rfl) ?_
    refine z_wVv (pc := 10) (As := [.int (iI (σ (69 + f)))]) (rest := []) E hml hown hts (mX8_saysPath31 lL G o μ σ φ κ β ω (σ (69 + f)) hI (by omega) (by omega) (by omega)) (cwV 1 hts gX8_saysPath_X8_saysPath rfl rfl rfl vdX8_saysPath ⟨Nat.le_of_ble_eq_true rfl, Nat.le_of_ble_eq_true rfl⟩) (oB.recv hK hM.1 rfl) hM hK hS (fun _ h => h) rfl hl.1 rfl dX8_saysPath_10 hcs (Nat.le_of_ble_eq_true rfl) (fun H locs hnew hsz hoth hS => ?_)
    have hM : W8 G o [.ref (o 1), .ref (o 2), .ref (o 3), .int (iI (μ 3)), .int (iI (μ 4)), .ref (o 4), .int (iI (μ 6)), .int (iI (μ 7)), .int (iI (μ 8)), .int (iI (μ 9)), .int (iI (μ 10)), .int (iI (μ 11)), .int (iI (μ 12)), .int (iI (μ 13)), .int (iI (μ 14)), .long (iL (μ 15)), .ref (o 5), .int (iI (μ 17 + ((paL σ 31 (σ (69 + f))).length : Int)))] σ φ κ β (ouA ω (μ 17) (paL σ 31 (σ (69 + f)))) H := W8.eq hnew (by simp only [mV, zu, Int.reduceEq, reduceIte])
    have hlb := paL_b σ 31 (σ (69 + f))
    refine lv_aload_n (pc := 13) E.1 E.2 dX8_saysPath_13 rfl (lv_at hl 0 rfl) ?_
    refine z_bipush (pc := 14) E (by decide) dX8_saysPath_14 ?_
    refine z_wVv (pc := 16) (As := [.int (iI 47)]) (rest := []) E hml hown hts (mX8_says lL G o (zu μ 17 (μ 17 + ((paL σ 31 (σ (69 + f))).length : Int))) σ φ κ β (ouA ω (μ 17) (paL σ 31 (σ (69 + f)))) 47 (by first | omega | (simp only [zu, Int.reduceEq, reduceIte]; omega)) (by first | omega | (simp only [zu, Int.reduceEq, reduceIte]; omega))) (cwV 1 hts gX8_saysPath_X8_says rfl rfl rfl vdX8_says ⟨Nat.le_of_ble_eq_true rfl, Nat.le_of_ble_eq_true rfl⟩) (oB.recv hK hM.1 rfl) (W8.mu hM (by simp only [mV, zu, Int.reduceEq, reduceIte])) hK hS (fun _ h => h) rfl hl.1 rfl dX8_saysPath_16 hcs (Nat.le_of_ble_eq_true rfl) (fun H locs hnew hsz hoth hS => ?_)
    have hM : W8 G o [.ref (o 1), .ref (o 2), .ref (o 3), .int (iI (μ 3)), .int (iI (μ 4)), .ref (o 4), .int (iI (μ 6)), .int (iI (μ 7)), .int (iI (μ 8)), .int (iI (μ 9)), .int (iI (μ 10)), .int (iI (μ 11)), .int (iI (μ 12)), .int (iI (μ 13)), .int (iI (μ 14)), .long (iL (μ 15)), .ref (o 5), .int (iI ((μ 17 + ((paL σ 31 (σ (69 + f))).length : Int)) + 1))] σ φ κ β (zu (ouA ω (μ 17) (paL σ 31 (σ (69 + f)))) ((μ 17 + ((paL σ 31 (σ (69 + f))).length : Int))) 47) H := W8.eq hnew (by simp only [mV, zu, Int.reduceEq, reduceIte])
    refine lv_aload_n (pc := 19) E.1 E.2 dX8_saysPath_19 rfl (lv_at hl 0 rfl) ?_
    refine lv_aload_n (pc := 20) E.1 E.2 dX8_saysPath_20 rfl (lv_at hl 0 rfl) ?_
    refine g8_0 (pc := 21) E hts hin8 hown hK hM.1 (hts _ (List.mem_of_getElem? (i := 1) rfl)) dX8_saysPath_21 ?_
    refine z_sipush (pc := 24) E (by decide) dX8_saysPath_24 ?_
    refine lv_iload_n (pc := 27) E.1 E.2 dX8_saysPath_27 rfl (lv_at hl 1 rfl) ?_
    refine z_iadd (pc := 28) E dX8_saysPath_28 ?_
    refine z_laload (pc := 29) E hK hM.2.1 ⟨by omega, by omega⟩ (by decide) dX8_saysPath_29 ?_
    have hb29 := hI.bd (149 + f)
    refine z_wVv (pc := 30) (As := [.long (iL (σ (149 + f)))]) (rest := []) E hml hown hts (mX8_saysName7 lL G o (zu (zu μ 17 (μ 17 + ((paL σ 31 (σ (69 + f))).length : Int))) 17 ((μ 17 + ((paL σ 31 (σ (69 + f))).length : Int)) + 1)) σ φ κ β (zu (ouA ω (μ 17) (paL σ 31 (σ (69 + f)))) ((μ 17 + ((paL σ 31 (σ (69 + f))).length : Int))) 47) (σ (149 + f)) (by first | omega | (simp only [zu, Int.reduceEq, reduceIte]; omega)) (by first | omega | (simp only [zu, Int.reduceEq, reduceIte]; omega))) (cwV 1 hts gX8_saysPath_X8_saysName rfl rfl rfl vdX8_saysName ⟨Nat.le_of_ble_eq_true rfl, Nat.le_of_ble_eq_true rfl⟩) (oB.recv hK hM.1 rfl) (W8.mu hM (by simp only [mV, zu, Int.reduceEq, reduceIte])) hK hS (fun _ h => h) rfl hl.1 rfl dX8_saysPath_30 hcs (Nat.le_of_ble_eq_true rfl) (fun H locs hnew hsz hoth hS => ?_)
    have hM : W8 G o [.ref (o 1), .ref (o 2), .ref (o 3), .int (iI (μ 3)), .int (iI (μ 4)), .ref (o 4), .int (iI (μ 6)), .int (iI (μ 7)), .int (iI (μ 8)), .int (iI (μ 9)), .int (iI (μ 10)), .int (iI (μ 11)), .int (iI (μ 12)), .int (iI (μ 13)), .int (iI (μ 14)), .long (iL (μ 15)), .ref (o 5), .int (iI (((μ 17 + ((paL σ 31 (σ (69 + f))).length : Int)) + 1) + ((naL 7 (σ (149 + f))).length : Int)))] σ φ κ β (ouA (zu (ouA ω (μ 17) (paL σ 31 (σ (69 + f)))) ((μ 17 + ((paL σ 31 (σ (69 + f))).length : Int))) 47) (((μ 17 + ((paL σ 31 (σ (69 + f))).length : Int)) + 1)) (naL 7 (σ (149 + f)))) H := W8.eq hnew (by simp only [mV, zu, Int.reduceEq, reduceIte])
    exact z_retWv E hr (by rw [show paL σ 32 f = paL σ 31 (σ (69 + f)) ++ [47] ++ naL 7 (σ (149 + f)) from if_pos (by omega), ← ouA_3]; exact W8.mu hM (by rw [← ouA_l3]; simp only [mV, zu, Int.reduceEq, reduceIte])) hS hlocks dX8_saysPath_33
set_option maxHeartbeats 1000000 in
set_option maxRecDepth 100000 in
theorem mX8_saysPath33 (lL : Launch) (G : GG) (o : Nat → Nat) (μ σ φ κ β ω : Int → Int) (f : Int) (hI : In σ) (hf : 0 ≤ f ∧ f < σ 2) (hd : dpF σ f ≤ 34) (hm : 0 ≤ μ 17 ∧ μ 17 + 306 ≤ 400) : Met lL yX8_saysPath wsX8_saysPath ({ frames := 42, cells := 0, slots := 0, locals := 890 } : Room) (va_Pc [.ref (o 0), .int (iI f)] (fun U => W8 G o (mV o μ) σ φ κ β ω U.heap ∧ KK G U)) (va_Qv (fun _ : Unit => True) (fun _ tZ => W8 G o (mV o (zu μ 17 (μ 17 + ((paL σ 33 f).length : Int)))) σ φ κ β (ouA ω (μ 17) (paL σ 33 f)) tZ.heap) (Ax o 6)) 0 0 (Ax o 6) := by
  refine z_met (P := (fun H : Heap => W8 G o (mV o μ) σ φ κ β ω H)) (by decide) rfl (Nat.le_of_ble_eq_true rfl) (fun pp ee ss mm below meth cC E hr hml hown hts hlocks hM hK ls hl => ?_)
  have hl : lv_has ls 2 [(0, .ref (o 0)), (1, .int (iI f))] := hl
  have hcs : 0 ≤ (({ frames := 42, cells := 0, slots := 0, locals := 890 } : Room)).cells ∧ 0 ≤ (({ frames := 42, cells := 0, slots := 0, locals := 890 } : Room)).slots := ⟨Nat.zero_le _, Nat.zero_le _⟩
  have hS : va_S (Ax o 6) ss.heap ss.heap [] := va_S.rf
  have hin8 : ∀ w ∈ wsX80, w ∈ wsX8_saysPath := fun w h => List.mem_cons_of_mem _ (List.mem_append_right _ (h))
  have hF := hI.F
  have hMm := hI.M
  have hGn := hI.Gn
  have hnk := nmk_b (hI.nam hf.1 hf.2)
  have e9 := dpF_s hI.cs hf.1 hf.2
  refine lv_iload_n (pc := 0) E.1 E.2 dX8_saysPath_0 rfl (lv_at hl 1 rfl) ?_
  refine z_if_le (pc := 1) (tgt := 19) E ⟨by omega, by omega⟩ dX8_saysPath_1 (by decide) (fun h1 => ?_) (fun h1 => ?_)
  · refine lv_aload_n (pc := 19) E.1 E.2 dX8_saysPath_19 rfl (lv_at hl 0 rfl) ?_
    refine lv_aload_n (pc := 20) E.1 E.2 dX8_saysPath_20 rfl (lv_at hl 0 rfl) ?_
    refine g8_0 (pc := 21) E hts hin8 hown hK hM.1 (hts _ (List.mem_of_getElem? (i := 1) rfl)) dX8_saysPath_21 ?_
    refine z_sipush (pc := 24) E (by decide) dX8_saysPath_24 ?_
    refine lv_iload_n (pc := 27) E.1 E.2 dX8_saysPath_27 rfl (lv_at hl 1 rfl) ?_
    refine z_iadd (pc := 28) E dX8_saysPath_28 ?_
    refine z_laload (pc := 29) E hK hM.2.1 ⟨by omega, by omega⟩ (by decide) dX8_saysPath_29 ?_
    have hb29 := hI.bd (149 + f)
    refine z_wVv (pc := 30) (As := [.long (iL (σ (149 + f)))]) (rest := []) E hml hown hts (mX8_saysName7 lL G o μ σ φ κ β ω (σ (149 + f)) (by omega) (by omega)) (cwV 1 hts gX8_saysPath_X8_saysName rfl rfl rfl vdX8_saysName ⟨Nat.le_of_ble_eq_true rfl, Nat.le_of_ble_eq_true rfl⟩) (oB.recv hK hM.1 rfl) hM hK hS (fun _ h => h) rfl hl.1 rfl dX8_saysPath_30 hcs (Nat.le_of_ble_eq_true rfl) (fun H locs hnew hsz hoth hS => ?_)
    have hM : W8 G o [.ref (o 1), .ref (o 2), .ref (o 3), .int (iI (μ 3)), .int (iI (μ 4)), .ref (o 4), .int (iI (μ 6)), .int (iI (μ 7)), .int (iI (μ 8)), .int (iI (μ 9)), .int (iI (μ 10)), .int (iI (μ 11)), .int (iI (μ 12)), .int (iI (μ 13)), .int (iI (μ 14)), .long (iL (μ 15)), .ref (o 5), .int (iI (μ 17 + ((naL 7 (σ (149 + f))).length : Int)))] σ φ κ β (ouA ω (μ 17) (naL 7 (σ (149 + f)))) H := W8.eq hnew (by simp only [mV, zu, Int.reduceEq, reduceIte])
    exact z_retWv E hr (by rw [show paL σ 33 f = naL 7 (σ (149 + f)) from if_neg (by omega)]; exact W8.mu hM (by simp only [mV, zu, Int.reduceEq, reduceIte])) hS hlocks dX8_saysPath_33
  · have hp1 := hI.par1 (f := f) (by omega) hf.2
    refine lv_aload_n (pc := 4) E.1 E.2 dX8_saysPath_4 rfl (lv_at hl 0 rfl) ?_
    refine lv_aload_n (pc := 5) E.1 E.2 dX8_saysPath_5 rfl (lv_at hl 0 rfl) ?_
    refine lv_iload_n (pc := 6) E.1 E.2 dX8_saysPath_6 rfl (lv_at hl 1 rfl) ?_
    refine z_rVi (pc := 7) (As := [.int (iI f)]) (rest := [.ref (o 0)]) E hml hown hts (mX8_parentOf lL G o μ σ φ κ β ω f (by omega)) (cwV 1 hts gX8_saysPath_X8_parentOf rfl rfl rfl vdX8_parentOf ⟨Nat.le_of_ble_eq_true rfl, Nat.le_of_ble_eq_true rfl⟩) (oB.recv hK hM.1 rfl) hM hK rfl hl.1 rfl dX8_saysPath_7 hcs (Nat.le_of_ble_eq_true rfl) ?_
    refine z_wVv (pc := 10) (As := [.int (iI (σ (69 + f)))]) (rest := []) E hml hown hts (mX8_saysPath32 lL G o μ σ φ κ β ω (σ (69 + f)) hI (by omega) (by omega) (by omega)) (cwV 1 hts gX8_saysPath_X8_saysPath rfl rfl rfl vdX8_saysPath ⟨Nat.le_of_ble_eq_true rfl, Nat.le_of_ble_eq_true rfl⟩) (oB.recv hK hM.1 rfl) hM hK hS (fun _ h => h) rfl hl.1 rfl dX8_saysPath_10 hcs (Nat.le_of_ble_eq_true rfl) (fun H locs hnew hsz hoth hS => ?_)
    have hM : W8 G o [.ref (o 1), .ref (o 2), .ref (o 3), .int (iI (μ 3)), .int (iI (μ 4)), .ref (o 4), .int (iI (μ 6)), .int (iI (μ 7)), .int (iI (μ 8)), .int (iI (μ 9)), .int (iI (μ 10)), .int (iI (μ 11)), .int (iI (μ 12)), .int (iI (μ 13)), .int (iI (μ 14)), .long (iL (μ 15)), .ref (o 5), .int (iI (μ 17 + ((paL σ 32 (σ (69 + f))).length : Int)))] σ φ κ β (ouA ω (μ 17) (paL σ 32 (σ (69 + f)))) H := W8.eq hnew (by simp only [mV, zu, Int.reduceEq, reduceIte])
    have hlb := paL_b σ 32 (σ (69 + f))
    refine lv_aload_n (pc := 13) E.1 E.2 dX8_saysPath_13 rfl (lv_at hl 0 rfl) ?_
    refine z_bipush (pc := 14) E (by decide) dX8_saysPath_14 ?_
    refine z_wVv (pc := 16) (As := [.int (iI 47)]) (rest := []) E hml hown hts (mX8_says lL G o (zu μ 17 (μ 17 + ((paL σ 32 (σ (69 + f))).length : Int))) σ φ κ β (ouA ω (μ 17) (paL σ 32 (σ (69 + f)))) 47 (by first | omega | (simp only [zu, Int.reduceEq, reduceIte]; omega)) (by first | omega | (simp only [zu, Int.reduceEq, reduceIte]; omega))) (cwV 1 hts gX8_saysPath_X8_says rfl rfl rfl vdX8_says ⟨Nat.le_of_ble_eq_true rfl, Nat.le_of_ble_eq_true rfl⟩) (oB.recv hK hM.1 rfl) (W8.mu hM (by simp only [mV, zu, Int.reduceEq, reduceIte])) hK hS (fun _ h => h) rfl hl.1 rfl dX8_saysPath_16 hcs (Nat.le_of_ble_eq_true rfl) (fun H locs hnew hsz hoth hS => ?_)
    have hM : W8 G o [.ref (o 1), .ref (o 2), .ref (o 3), .int (iI (μ 3)), .int (iI (μ 4)), .ref (o 4), .int (iI (μ 6)), .int (iI (μ 7)), .int (iI (μ 8)), .int (iI (μ 9)), .int (iI (μ 10)), .int (iI (μ 11)), .int (iI (μ 12)), .int (iI (μ 13)), .int (iI (μ 14)), .long (iL (μ 15)), .ref (o 5), .int (iI ((μ 17 + ((paL σ 32 (σ (69 + f))).length : Int)) + 1))] σ φ κ β (zu (ouA ω (μ 17) (paL σ 32 (σ (69 + f)))) ((μ 17 + ((paL σ 32 (σ (69 + f))).length : Int))) 47) H := W8.eq hnew (by simp only [mV, zu, Int.reduceEq, reduceIte])
    refine lv_aload_n (pc := 19) E.1 E.2 dX8_saysPath_19 rfl (lv_at hl 0 rfl) ?_
    refine lv_aload_n (pc := 20) E.1 E.2 dX8_saysPath_20 rfl (lv_at hl 0 rfl) ?_
    refine g8_0 (pc := 21) E hts hin8 hown hK hM.1 (hts _ (List.mem_of_getElem? (i := 1) rfl)) dX8_saysPath_21 ?_
    refine z_sipush (pc := 24) E (by decide) dX8_saysPath_24 ?_
    refine lv_iload_n (pc := 27) E.1 E.2 dX8_saysPath_27 rfl (lv_at hl 1 rfl) ?_
    refine z_iadd (pc := 28) E dX8_saysPath_28 ?_
    refine z_laload (pc := 29) E hK hM.2.1 ⟨by omega, by omega⟩ (by decide) dX8_saysPath_29 ?_
    have hb29 := hI.bd (149 + f)
    refine z_wVv (pc := 30) (As := [.long (iL (σ (149 + f)))]) (rest := []) E hml hown hts (mX8_saysName7 lL G o (zu (zu μ 17 (μ 17 + ((paL σ 32 (σ (69 + f))).length : Int))) 17 ((μ 17 + ((paL σ 32 (σ (69 + f))).length : Int)) + 1)) σ φ κ β (zu (ouA ω (μ 17) (paL σ 32 (σ (69 + f)))) ((μ 17 + ((paL σ 32 (σ (69 + f))).length : Int))) 47) (σ (149 + f)) (by first | omega | (simp only [zu, Int.reduceEq, reduceIte]; omega)) (by first | omega | (simp only [zu, Int.reduceEq, reduceIte]; omega))) (cwV 1 hts gX8_saysPath_X8_saysName rfl rfl rfl vdX8_saysName ⟨Nat.le_of_ble_eq_true rfl, Nat.le_of_ble_eq_true rfl⟩) (oB.recv hK hM.1 rfl) (W8.mu hM (by simp only [mV, zu, Int.reduceEq, reduceIte])) hK hS (fun _ h => h) rfl hl.1 rfl dX8_saysPath_30 hcs (Nat.le_of_ble_eq_true rfl) (fun H locs hnew hsz hoth hS => ?_)
    have hM : W8 G o [.ref (o 1), .ref (o 2), .ref (o 3), .int (iI (μ 3)), .int (iI (μ 4)), .ref (o 4), .int (iI (μ 6)), .int (iI (μ 7)), .int (iI (μ 8)), .int (iI (μ 9)), .int (iI (μ 10)), .int (iI (μ 11)), .int (iI (μ 12)), .int (iI (μ 13)), .int (iI (μ 14)), .long (iL (μ 15)), .ref (o 5), .int (iI (((μ 17 + ((paL σ 32 (σ (69 + f))).length : Int)) + 1) + ((naL 7 (σ (149 + f))).length : Int)))] σ φ κ β (ouA (zu (ouA ω (μ 17) (paL σ 32 (σ (69 + f)))) ((μ 17 + ((paL σ 32 (σ (69 + f))).length : Int))) 47) (((μ 17 + ((paL σ 32 (σ (69 + f))).length : Int)) + 1)) (naL 7 (σ (149 + f)))) H := W8.eq hnew (by simp only [mV, zu, Int.reduceEq, reduceIte])
    exact z_retWv E hr (by rw [show paL σ 33 f = paL σ 32 (σ (69 + f)) ++ [47] ++ naL 7 (σ (149 + f)) from if_pos (by omega), ← ouA_3]; exact W8.mu hM (by rw [← ouA_l3]; simp only [mV, zu, Int.reduceEq, reduceIte])) hS hlocks dX8_saysPath_33
set_option maxHeartbeats 1000000 in
set_option maxRecDepth 100000 in
theorem mX8_saysPath34 (lL : Launch) (G : GG) (o : Nat → Nat) (μ σ φ κ β ω : Int → Int) (f : Int) (hI : In σ) (hf : 0 ≤ f ∧ f < σ 2) (hd : dpF σ f ≤ 35) (hm : 0 ≤ μ 17 ∧ μ 17 + 315 ≤ 400) : Met lL yX8_saysPath wsX8_saysPath ({ frames := 43, cells := 0, slots := 0, locals := 911 } : Room) (va_Pc [.ref (o 0), .int (iI f)] (fun U => W8 G o (mV o μ) σ φ κ β ω U.heap ∧ KK G U)) (va_Qv (fun _ : Unit => True) (fun _ tZ => W8 G o (mV o (zu μ 17 (μ 17 + ((paL σ 34 f).length : Int)))) σ φ κ β (ouA ω (μ 17) (paL σ 34 f)) tZ.heap) (Ax o 6)) 0 0 (Ax o 6) := by
  refine z_met (P := (fun H : Heap => W8 G o (mV o μ) σ φ κ β ω H)) (by decide) rfl (Nat.le_of_ble_eq_true rfl) (fun pp ee ss mm below meth cC E hr hml hown hts hlocks hM hK ls hl => ?_)
  have hl : lv_has ls 2 [(0, .ref (o 0)), (1, .int (iI f))] := hl
  have hcs : 0 ≤ (({ frames := 43, cells := 0, slots := 0, locals := 911 } : Room)).cells ∧ 0 ≤ (({ frames := 43, cells := 0, slots := 0, locals := 911 } : Room)).slots := ⟨Nat.zero_le _, Nat.zero_le _⟩
  have hS : va_S (Ax o 6) ss.heap ss.heap [] := va_S.rf
  have hin8 : ∀ w ∈ wsX80, w ∈ wsX8_saysPath := fun w h => List.mem_cons_of_mem _ (List.mem_append_right _ (h))
  have hF := hI.F
  have hMm := hI.M
  have hGn := hI.Gn
  have hnk := nmk_b (hI.nam hf.1 hf.2)
  have e9 := dpF_s hI.cs hf.1 hf.2
  refine lv_iload_n (pc := 0) E.1 E.2 dX8_saysPath_0 rfl (lv_at hl 1 rfl) ?_
  refine z_if_le (pc := 1) (tgt := 19) E ⟨by omega, by omega⟩ dX8_saysPath_1 (by decide) (fun h1 => ?_) (fun h1 => ?_)
  · refine lv_aload_n (pc := 19) E.1 E.2 dX8_saysPath_19 rfl (lv_at hl 0 rfl) ?_
    refine lv_aload_n (pc := 20) E.1 E.2 dX8_saysPath_20 rfl (lv_at hl 0 rfl) ?_
    refine g8_0 (pc := 21) E hts hin8 hown hK hM.1 (hts _ (List.mem_of_getElem? (i := 1) rfl)) dX8_saysPath_21 ?_
    refine z_sipush (pc := 24) E (by decide) dX8_saysPath_24 ?_
    refine lv_iload_n (pc := 27) E.1 E.2 dX8_saysPath_27 rfl (lv_at hl 1 rfl) ?_
    refine z_iadd (pc := 28) E dX8_saysPath_28 ?_
    refine z_laload (pc := 29) E hK hM.2.1 ⟨by omega, by omega⟩ (by decide) dX8_saysPath_29 ?_
    have hb29 := hI.bd (149 + f)
    refine z_wVv (pc := 30) (As := [.long (iL (σ (149 + f)))]) (rest := []) E hml hown hts (mX8_saysName7 lL G o μ σ φ κ β ω (σ (149 + f)) (by omega) (by omega)) (cwV 1 hts gX8_saysPath_X8_saysName rfl rfl rfl vdX8_saysName ⟨Nat.le_of_ble_eq_true rfl, Nat.le_of_ble_eq_true rfl⟩) (oB.recv hK hM.1 rfl) hM hK hS (fun _ h => h) rfl hl.1 rfl dX8_saysPath_30 hcs (Nat.le_of_ble_eq_true rfl) (fun H locs hnew hsz hoth hS => ?_)
    have hM : W8 G o [.ref (o 1), .ref (o 2), .ref (o 3), .int (iI (μ 3)), .int (iI (μ 4)), .ref (o 4), .int (iI (μ 6)), .int (iI (μ 7)), .int (iI (μ 8)), .int (iI (μ 9)), .int (iI (μ 10)), .int (iI (μ 11)), .int (iI (μ 12)), .int (iI (μ 13)), .int (iI (μ 14)), .long (iL (μ 15)), .ref (o 5), .int (iI (μ 17 + ((naL 7 (σ (149 + f))).length : Int)))] σ φ κ β (ouA ω (μ 17) (naL 7 (σ (149 + f)))) H := W8.eq hnew (by simp only [mV, zu, Int.reduceEq, reduceIte])
    exact z_retWv E hr (by rw [show paL σ 34 f = naL 7 (σ (149 + f)) from if_neg (by omega)]; exact W8.mu hM (by simp only [mV, zu, Int.reduceEq, reduceIte])) hS hlocks dX8_saysPath_33
  · have hp1 := hI.par1 (f := f) (by omega) hf.2
    refine lv_aload_n (pc := 4) E.1 E.2 dX8_saysPath_4 rfl (lv_at hl 0 rfl) ?_
    refine lv_aload_n (pc := 5) E.1 E.2 dX8_saysPath_5 rfl (lv_at hl 0 rfl) ?_
    refine lv_iload_n (pc := 6) E.1 E.2 dX8_saysPath_6 rfl (lv_at hl 1 rfl) ?_
    refine z_rVi (pc := 7) (As := [.int (iI f)]) (rest := [.ref (o 0)]) E hml hown hts (mX8_parentOf lL G o μ σ φ κ β ω f (by omega)) (cwV 1 hts gX8_saysPath_X8_parentOf rfl rfl rfl vdX8_parentOf ⟨Nat.le_of_ble_eq_true rfl, Nat.le_of_ble_eq_true rfl⟩) (oB.recv hK hM.1 rfl) hM hK rfl hl.1 rfl dX8_saysPath_7 hcs (Nat.le_of_ble_eq_true rfl) ?_
    refine z_wVv (pc := 10) (As := [.int (iI (σ (69 + f)))]) (rest := []) E hml hown hts (mX8_saysPath33 lL G o μ σ φ κ β ω (σ (69 + f)) hI (by omega) (by omega) (by omega)) (cwV 1 hts gX8_saysPath_X8_saysPath rfl rfl rfl vdX8_saysPath ⟨Nat.le_of_ble_eq_true rfl, Nat.le_of_ble_eq_true rfl⟩) (oB.recv hK hM.1 rfl) hM hK hS (fun _ h => h) rfl hl.1 rfl dX8_saysPath_10 hcs (Nat.le_of_ble_eq_true rfl) (fun H locs hnew hsz hoth hS => ?_)
    have hM : W8 G o [.ref (o 1), .ref (o 2), .ref (o 3), .int (iI (μ 3)), .int (iI (μ 4)), .ref (o 4), .int (iI (μ 6)), .int (iI (μ 7)), .int (iI (μ 8)), .int (iI (μ 9)), .int (iI (μ 10)), .int (iI (μ 11)), .int (iI (μ 12)), .int (iI (μ 13)), .int (iI (μ 14)), .long (iL (μ 15)), .ref (o 5), .int (iI (μ 17 + ((paL σ 33 (σ (69 + f))).length : Int)))] σ φ κ β (ouA ω (μ 17) (paL σ 33 (σ (69 + f)))) H := W8.eq hnew (by simp only [mV, zu, Int.reduceEq, reduceIte])
    have hlb := paL_b σ 33 (σ (69 + f))
    refine lv_aload_n (pc := 13) E.1 E.2 dX8_saysPath_13 rfl (lv_at hl 0 rfl) ?_
    refine z_bipush (pc := 14) E (by decide) dX8_saysPath_14 ?_
    refine z_wVv (pc := 16) (As := [.int (iI 47)]) (rest := []) E hml hown hts (mX8_says lL G o (zu μ 17 (μ 17 + ((paL σ 33 (σ (69 + f))).length : Int))) σ φ κ β (ouA ω (μ 17) (paL σ 33 (σ (69 + f)))) 47 (by first | omega | (simp only [zu, Int.reduceEq, reduceIte]; omega)) (by first | omega | (simp only [zu, Int.reduceEq, reduceIte]; omega))) (cwV 1 hts gX8_saysPath_X8_says rfl rfl rfl vdX8_says ⟨Nat.le_of_ble_eq_true rfl, Nat.le_of_ble_eq_true rfl⟩) (oB.recv hK hM.1 rfl) (W8.mu hM (by simp only [mV, zu, Int.reduceEq, reduceIte])) hK hS (fun _ h => h) rfl hl.1 rfl dX8_saysPath_16 hcs (Nat.le_of_ble_eq_true rfl) (fun H locs hnew hsz hoth hS => ?_)
    have hM : W8 G o [.ref (o 1), .ref (o 2), .ref (o 3), .int (iI (μ 3)), .int (iI (μ 4)), .ref (o 4), .int (iI (μ 6)), .int (iI (μ 7)), .int (iI (μ 8)), .int (iI (μ 9)), .int (iI (μ 10)), .int (iI (μ 11)), .int (iI (μ 12)), .int (iI (μ 13)), .int (iI (μ 14)), .long (iL (μ 15)), .ref (o 5), .int (iI ((μ 17 + ((paL σ 33 (σ (69 + f))).length : Int)) + 1))] σ φ κ β (zu (ouA ω (μ 17) (paL σ 33 (σ (69 + f)))) ((μ 17 + ((paL σ 33 (σ (69 + f))).length : Int))) 47) H := W8.eq hnew (by simp only [mV, zu, Int.reduceEq, reduceIte])
    refine lv_aload_n (pc := 19) E.1 E.2 dX8_saysPath_19 rfl (lv_at hl 0 rfl) ?_
    refine lv_aload_n (pc := 20) E.1 E.2 dX8_saysPath_20 rfl (lv_at hl 0 rfl) ?_
    refine g8_0 (pc := 21) E hts hin8 hown hK hM.1 (hts _ (List.mem_of_getElem? (i := 1) rfl)) dX8_saysPath_21 ?_
    refine z_sipush (pc := 24) E (by decide) dX8_saysPath_24 ?_
    refine lv_iload_n (pc := 27) E.1 E.2 dX8_saysPath_27 rfl (lv_at hl 1 rfl) ?_
    refine z_iadd (pc := 28) E dX8_saysPath_28 ?_
    refine z_laload (pc := 29) E hK hM.2.1 ⟨by omega, by omega⟩ (by decide) dX8_saysPath_29 ?_
    have hb29 := hI.bd (149 + f)
    refine z_wVv (pc := 30) (As := [.long (iL (σ (149 + f)))]) (rest := []) E hml hown hts (mX8_saysName7 lL G o (zu (zu μ 17 (μ 17 + ((paL σ 33 (σ (69 + f))).length : Int))) 17 ((μ 17 + ((paL σ 33 (σ (69 + f))).length : Int)) + 1)) σ φ κ β (zu (ouA ω (μ 17) (paL σ 33 (σ (69 + f)))) ((μ 17 + ((paL σ 33 (σ (69 + f))).length : Int))) 47) (σ (149 + f)) (by first | omega | (simp only [zu, Int.reduceEq, reduceIte]; omega)) (by first | omega | (simp only [zu, Int.reduceEq, reduceIte]; omega))) (cwV 1 hts gX8_saysPath_X8_saysName rfl rfl rfl vdX8_saysName ⟨Nat.le_of_ble_eq_true rfl, Nat.le_of_ble_eq_true rfl⟩) (oB.recv hK hM.1 rfl) (W8.mu hM (by simp only [mV, zu, Int.reduceEq, reduceIte])) hK hS (fun _ h => h) rfl hl.1 rfl dX8_saysPath_30 hcs (Nat.le_of_ble_eq_true rfl) (fun H locs hnew hsz hoth hS => ?_)
    have hM : W8 G o [.ref (o 1), .ref (o 2), .ref (o 3), .int (iI (μ 3)), .int (iI (μ 4)), .ref (o 4), .int (iI (μ 6)), .int (iI (μ 7)), .int (iI (μ 8)), .int (iI (μ 9)), .int (iI (μ 10)), .int (iI (μ 11)), .int (iI (μ 12)), .int (iI (μ 13)), .int (iI (μ 14)), .long (iL (μ 15)), .ref (o 5), .int (iI (((μ 17 + ((paL σ 33 (σ (69 + f))).length : Int)) + 1) + ((naL 7 (σ (149 + f))).length : Int)))] σ φ κ β (ouA (zu (ouA ω (μ 17) (paL σ 33 (σ (69 + f)))) ((μ 17 + ((paL σ 33 (σ (69 + f))).length : Int))) 47) (((μ 17 + ((paL σ 33 (σ (69 + f))).length : Int)) + 1)) (naL 7 (σ (149 + f)))) H := W8.eq hnew (by simp only [mV, zu, Int.reduceEq, reduceIte])
    exact z_retWv E hr (by rw [show paL σ 34 f = paL σ 33 (σ (69 + f)) ++ [47] ++ naL 7 (σ (149 + f)) from if_pos (by omega), ← ouA_3]; exact W8.mu hM (by rw [← ouA_l3]; simp only [mV, zu, Int.reduceEq, reduceIte])) hS hlocks dX8_saysPath_33
set_option maxHeartbeats 1000000 in
set_option maxRecDepth 100000 in
theorem mX8_saysPath35 (lL : Launch) (G : GG) (o : Nat → Nat) (μ σ φ κ β ω : Int → Int) (f : Int) (hI : In σ) (hf : 0 ≤ f ∧ f < σ 2) (hd : dpF σ f ≤ 36) (hm : 0 ≤ μ 17 ∧ μ 17 + 324 ≤ 400) : Met lL yX8_saysPath wsX8_saysPath ({ frames := 44, cells := 0, slots := 0, locals := 932 } : Room) (va_Pc [.ref (o 0), .int (iI f)] (fun U => W8 G o (mV o μ) σ φ κ β ω U.heap ∧ KK G U)) (va_Qv (fun _ : Unit => True) (fun _ tZ => W8 G o (mV o (zu μ 17 (μ 17 + ((paL σ 35 f).length : Int)))) σ φ κ β (ouA ω (μ 17) (paL σ 35 f)) tZ.heap) (Ax o 6)) 0 0 (Ax o 6) := by
  refine z_met (P := (fun H : Heap => W8 G o (mV o μ) σ φ κ β ω H)) (by decide) rfl (Nat.le_of_ble_eq_true rfl) (fun pp ee ss mm below meth cC E hr hml hown hts hlocks hM hK ls hl => ?_)
  have hl : lv_has ls 2 [(0, .ref (o 0)), (1, .int (iI f))] := hl
  have hcs : 0 ≤ (({ frames := 44, cells := 0, slots := 0, locals := 932 } : Room)).cells ∧ 0 ≤ (({ frames := 44, cells := 0, slots := 0, locals := 932 } : Room)).slots := ⟨Nat.zero_le _, Nat.zero_le _⟩
  have hS : va_S (Ax o 6) ss.heap ss.heap [] := va_S.rf
  have hin8 : ∀ w ∈ wsX80, w ∈ wsX8_saysPath := fun w h => List.mem_cons_of_mem _ (List.mem_append_right _ (h))
  have hF := hI.F
  have hMm := hI.M
  have hGn := hI.Gn
  have hnk := nmk_b (hI.nam hf.1 hf.2)
  have e9 := dpF_s hI.cs hf.1 hf.2
  refine lv_iload_n (pc := 0) E.1 E.2 dX8_saysPath_0 rfl (lv_at hl 1 rfl) ?_
  refine z_if_le (pc := 1) (tgt := 19) E ⟨by omega, by omega⟩ dX8_saysPath_1 (by decide) (fun h1 => ?_) (fun h1 => ?_)
  · refine lv_aload_n (pc := 19) E.1 E.2 dX8_saysPath_19 rfl (lv_at hl 0 rfl) ?_
    refine lv_aload_n (pc := 20) E.1 E.2 dX8_saysPath_20 rfl (lv_at hl 0 rfl) ?_
    refine g8_0 (pc := 21) E hts hin8 hown hK hM.1 (hts _ (List.mem_of_getElem? (i := 1) rfl)) dX8_saysPath_21 ?_
    refine z_sipush (pc := 24) E (by decide) dX8_saysPath_24 ?_
    refine lv_iload_n (pc := 27) E.1 E.2 dX8_saysPath_27 rfl (lv_at hl 1 rfl) ?_
    refine z_iadd (pc := 28) E dX8_saysPath_28 ?_
    refine z_laload (pc := 29) E hK hM.2.1 ⟨by omega, by omega⟩ (by decide) dX8_saysPath_29 ?_
    have hb29 := hI.bd (149 + f)
    refine z_wVv (pc := 30) (As := [.long (iL (σ (149 + f)))]) (rest := []) E hml hown hts (mX8_saysName7 lL G o μ σ φ κ β ω (σ (149 + f)) (by omega) (by omega)) (cwV 1 hts gX8_saysPath_X8_saysName rfl rfl rfl vdX8_saysName ⟨Nat.le_of_ble_eq_true rfl, Nat.le_of_ble_eq_true rfl⟩) (oB.recv hK hM.1 rfl) hM hK hS (fun _ h => h) rfl hl.1 rfl dX8_saysPath_30 hcs (Nat.le_of_ble_eq_true rfl) (fun H locs hnew hsz hoth hS => ?_)
    have hM : W8 G o [.ref (o 1), .ref (o 2), .ref (o 3), .int (iI (μ 3)), .int (iI (μ 4)), .ref (o 4), .int (iI (μ 6)), .int (iI (μ 7)), .int (iI (μ 8)), .int (iI (μ 9)), .int (iI (μ 10)), .int (iI (μ 11)), .int (iI (μ 12)), .int (iI (μ 13)), .int (iI (μ 14)), .long (iL (μ 15)), .ref (o 5), .int (iI (μ 17 + ((naL 7 (σ (149 + f))).length : Int)))] σ φ κ β (ouA ω (μ 17) (naL 7 (σ (149 + f)))) H := W8.eq hnew (by simp only [mV, zu, Int.reduceEq, reduceIte])
    exact z_retWv E hr (by rw [show paL σ 35 f = naL 7 (σ (149 + f)) from if_neg (by omega)]; exact W8.mu hM (by simp only [mV, zu, Int.reduceEq, reduceIte])) hS hlocks dX8_saysPath_33
  · have hp1 := hI.par1 (f := f) (by omega) hf.2
    refine lv_aload_n (pc := 4) E.1 E.2 dX8_saysPath_4 rfl (lv_at hl 0 rfl) ?_
    refine lv_aload_n (pc := 5) E.1 E.2 dX8_saysPath_5 rfl (lv_at hl 0 rfl) ?_
    refine lv_iload_n (pc := 6) E.1 E.2 dX8_saysPath_6 rfl (lv_at hl 1 rfl) ?_
    refine z_rVi (pc := 7) (As := [.int (iI f)]) (rest := [.ref (o 0)]) E hml hown hts (mX8_parentOf lL G o μ σ φ κ β ω f (by omega)) (cwV 1 hts gX8_saysPath_X8_parentOf rfl rfl rfl vdX8_parentOf ⟨Nat.le_of_ble_eq_true rfl, Nat.le_of_ble_eq_true rfl⟩) (oB.recv hK hM.1 rfl) hM hK rfl hl.1 rfl dX8_saysPath_7 hcs (Nat.le_of_ble_eq_true rfl) ?_
    refine z_wVv (pc := 10) (As := [.int (iI (σ (69 + f)))]) (rest := []) E hml hown hts (mX8_saysPath34 lL G o μ σ φ κ β ω (σ (69 + f)) hI (by omega) (by omega) (by omega)) (cwV 1 hts gX8_saysPath_X8_saysPath rfl rfl rfl vdX8_saysPath ⟨Nat.le_of_ble_eq_true rfl, Nat.le_of_ble_eq_true rfl⟩) (oB.recv hK hM.1 rfl) hM hK hS (fun _ h => h) rfl hl.1 rfl dX8_saysPath_10 hcs (Nat.le_of_ble_eq_true rfl) (fun H locs hnew hsz hoth hS => ?_)
    have hM : W8 G o [.ref (o 1), .ref (o 2), .ref (o 3), .int (iI (μ 3)), .int (iI (μ 4)), .ref (o 4), .int (iI (μ 6)), .int (iI (μ 7)), .int (iI (μ 8)), .int (iI (μ 9)), .int (iI (μ 10)), .int (iI (μ 11)), .int (iI (μ 12)), .int (iI (μ 13)), .int (iI (μ 14)), .long (iL (μ 15)), .ref (o 5), .int (iI (μ 17 + ((paL σ 34 (σ (69 + f))).length : Int)))] σ φ κ β (ouA ω (μ 17) (paL σ 34 (σ (69 + f)))) H := W8.eq hnew (by simp only [mV, zu, Int.reduceEq, reduceIte])
    have hlb := paL_b σ 34 (σ (69 + f))
    refine lv_aload_n (pc := 13) E.1 E.2 dX8_saysPath_13 rfl (lv_at hl 0 rfl) ?_
    refine z_bipush (pc := 14) E (by decide) dX8_saysPath_14 ?_
    refine z_wVv (pc := 16) (As := [.int (iI 47)]) (rest := []) E hml hown hts (mX8_says lL G o (zu μ 17 (μ 17 + ((paL σ 34 (σ (69 + f))).length : Int))) σ φ κ β (ouA ω (μ 17) (paL σ 34 (σ (69 + f)))) 47 (by first | omega | (simp only [zu, Int.reduceEq, reduceIte]; omega)) (by first | omega | (simp only [zu, Int.reduceEq, reduceIte]; omega))) (cwV 1 hts gX8_saysPath_X8_says rfl rfl rfl vdX8_says ⟨Nat.le_of_ble_eq_true rfl, Nat.le_of_ble_eq_true rfl⟩) (oB.recv hK hM.1 rfl) (W8.mu hM (by simp only [mV, zu, Int.reduceEq, reduceIte])) hK hS (fun _ h => h) rfl hl.1 rfl dX8_saysPath_16 hcs (Nat.le_of_ble_eq_true rfl) (fun H locs hnew hsz hoth hS => ?_)
    have hM : W8 G o [.ref (o 1), .ref (o 2), .ref (o 3), .int (iI (μ 3)), .int (iI (μ 4)), .ref (o 4), .int (iI (μ 6)), .int (iI (μ 7)), .int (iI (μ 8)), .int (iI (μ 9)), .int (iI (μ 10)), .int (iI (μ 11)), .int (iI (μ 12)), .int (iI (μ 13)), .int (iI (μ 14)), .long (iL (μ 15)), .ref (o 5), .int (iI ((μ 17 + ((paL σ 34 (σ (69 + f))).length : Int)) + 1))] σ φ κ β (zu (ouA ω (μ 17) (paL σ 34 (σ (69 + f)))) ((μ 17 + ((paL σ 34 (σ (69 + f))).length : Int))) 47) H := W8.eq hnew (by simp only [mV, zu, Int.reduceEq, reduceIte])
    refine lv_aload_n (pc := 19) E.1 E.2 dX8_saysPath_19 rfl (lv_at hl 0 rfl) ?_
    refine lv_aload_n (pc := 20) E.1 E.2 dX8_saysPath_20 rfl (lv_at hl 0 rfl) ?_
    refine g8_0 (pc := 21) E hts hin8 hown hK hM.1 (hts _ (List.mem_of_getElem? (i := 1) rfl)) dX8_saysPath_21 ?_
    refine z_sipush (pc := 24) E (by decide) dX8_saysPath_24 ?_
    refine lv_iload_n (pc := 27) E.1 E.2 dX8_saysPath_27 rfl (lv_at hl 1 rfl) ?_
    refine z_iadd (pc := 28) E dX8_saysPath_28 ?_
    refine z_laload (pc := 29) E hK hM.2.1 ⟨by omega, by omega⟩ (by decide) dX8_saysPath_29 ?_
    have hb29 := hI.bd (149 + f)
    refine z_wVv (pc := 30) (As := [.long (iL (σ (149 + f)))]) (rest := []) E hml hown hts (mX8_saysName7 lL G o (zu (zu μ 17 (μ 17 + ((paL σ 34 (σ (69 + f))).length : Int))) 17 ((μ 17 + ((paL σ 34 (σ (69 + f))).length : Int)) + 1)) σ φ κ β (zu (ouA ω (μ 17) (paL σ 34 (σ (69 + f)))) ((μ 17 + ((paL σ 34 (σ (69 + f))).length : Int))) 47) (σ (149 + f)) (by first | omega | (simp only [zu, Int.reduceEq, reduceIte]; omega)) (by first | omega | (simp only [zu, Int.reduceEq, reduceIte]; omega))) (cwV 1 hts gX8_saysPath_X8_saysName rfl rfl rfl vdX8_saysName ⟨Nat.le_of_ble_eq_true rfl, Nat.le_of_ble_eq_true rfl⟩) (oB.recv hK hM.1 rfl) (W8.mu hM (by simp only [mV, zu, Int.reduceEq, reduceIte])) hK hS (fun _ h => h) rfl hl.1 rfl dX8_saysPath_30 hcs (Nat.le_of_ble_eq_true rfl) (fun H locs hnew hsz hoth hS => ?_)
    have hM : W8 G o [.ref (o 1), .ref (o 2), .ref (o 3), .int (iI (μ 3)), .int (iI (μ 4)), .ref (o 4), .int (iI (μ 6)), .int (iI (μ 7)), .int (iI (μ 8)), .int (iI (μ 9)), .int (iI (μ 10)), .int (iI (μ 11)), .int (iI (μ 12)), .int (iI (μ 13)), .int (iI (μ 14)), .long (iL (μ 15)), .ref (o 5), .int (iI (((μ 17 + ((paL σ 34 (σ (69 + f))).length : Int)) + 1) + ((naL 7 (σ (149 + f))).length : Int)))] σ φ κ β (ouA (zu (ouA ω (μ 17) (paL σ 34 (σ (69 + f)))) ((μ 17 + ((paL σ 34 (σ (69 + f))).length : Int))) 47) (((μ 17 + ((paL σ 34 (σ (69 + f))).length : Int)) + 1)) (naL 7 (σ (149 + f)))) H := W8.eq hnew (by simp only [mV, zu, Int.reduceEq, reduceIte])
    exact z_retWv E hr (by rw [show paL σ 35 f = paL σ 34 (σ (69 + f)) ++ [47] ++ naL 7 (σ (149 + f)) from if_pos (by omega), ← ouA_3]; exact W8.mu hM (by rw [← ouA_l3]; simp only [mV, zu, Int.reduceEq, reduceIte])) hS hlocks dX8_saysPath_33
set_option maxHeartbeats 1000000 in
set_option maxRecDepth 100000 in
theorem mX8_saysPath36 (lL : Launch) (G : GG) (o : Nat → Nat) (μ σ φ κ β ω : Int → Int) (f : Int) (hI : In σ) (hf : 0 ≤ f ∧ f < σ 2) (hd : dpF σ f ≤ 37) (hm : 0 ≤ μ 17 ∧ μ 17 + 333 ≤ 400) : Met lL yX8_saysPath wsX8_saysPath ({ frames := 45, cells := 0, slots := 0, locals := 953 } : Room) (va_Pc [.ref (o 0), .int (iI f)] (fun U => W8 G o (mV o μ) σ φ κ β ω U.heap ∧ KK G U)) (va_Qv (fun _ : Unit => True) (fun _ tZ => W8 G o (mV o (zu μ 17 (μ 17 + ((paL σ 36 f).length : Int)))) σ φ κ β (ouA ω (μ 17) (paL σ 36 f)) tZ.heap) (Ax o 6)) 0 0 (Ax o 6) := by
  refine z_met (P := (fun H : Heap => W8 G o (mV o μ) σ φ κ β ω H)) (by decide) rfl (Nat.le_of_ble_eq_true rfl) (fun pp ee ss mm below meth cC E hr hml hown hts hlocks hM hK ls hl => ?_)
  have hl : lv_has ls 2 [(0, .ref (o 0)), (1, .int (iI f))] := hl
  have hcs : 0 ≤ (({ frames := 45, cells := 0, slots := 0, locals := 953 } : Room)).cells ∧ 0 ≤ (({ frames := 45, cells := 0, slots := 0, locals := 953 } : Room)).slots := ⟨Nat.zero_le _, Nat.zero_le _⟩
  have hS : va_S (Ax o 6) ss.heap ss.heap [] := va_S.rf
  have hin8 : ∀ w ∈ wsX80, w ∈ wsX8_saysPath := fun w h => List.mem_cons_of_mem _ (List.mem_append_right _ (h))
  have hF := hI.F
  have hMm := hI.M
  have hGn := hI.Gn
  have hnk := nmk_b (hI.nam hf.1 hf.2)
  have e9 := dpF_s hI.cs hf.1 hf.2
  refine lv_iload_n (pc := 0) E.1 E.2 dX8_saysPath_0 rfl (lv_at hl 1 rfl) ?_
  refine z_if_le (pc := 1) (tgt := 19) E ⟨by omega, by omega⟩ dX8_saysPath_1 (by decide) (fun h1 => ?_) (fun h1 => ?_)
  · refine lv_aload_n (pc := 19) E.1 E.2 dX8_saysPath_19 rfl (lv_at hl 0 rfl) ?_
    refine lv_aload_n (pc := 20) E.1 E.2 dX8_saysPath_20 rfl (lv_at hl 0 rfl) ?_
    refine g8_0 (pc := 21) E hts hin8 hown hK hM.1 (hts _ (List.mem_of_getElem? (i := 1) rfl)) dX8_saysPath_21 ?_
    refine z_sipush (pc := 24) E (by decide) dX8_saysPath_24 ?_
    refine lv_iload_n (pc := 27) E.1 E.2 dX8_saysPath_27 rfl (lv_at hl 1 rfl) ?_
    refine z_iadd (pc := 28) E dX8_saysPath_28 ?_
    refine z_laload (pc := 29) E hK hM.2.1 ⟨by omega, by omega⟩ (by decide) dX8_saysPath_29 ?_
    have hb29 := hI.bd (149 + f)
    refine z_wVv (pc := 30) (As := [.long (iL (σ (149 + f)))]) (rest := []) E hml hown hts (mX8_saysName7 lL G o μ σ φ κ β ω (σ (149 + f)) (by omega) (by omega)) (cwV 1 hts gX8_saysPath_X8_saysName rfl rfl rfl vdX8_saysName ⟨Nat.le_of_ble_eq_true rfl, Nat.le_of_ble_eq_true rfl⟩) (oB.recv hK hM.1 rfl) hM hK hS (fun _ h => h) rfl hl.1 rfl dX8_saysPath_30 hcs (Nat.le_of_ble_eq_true rfl) (fun H locs hnew hsz hoth hS => ?_)
    have hM : W8 G o [.ref (o 1), .ref (o 2), .ref (o 3), .int (iI (μ 3)), .int (iI (μ 4)), .ref (o 4), .int (iI (μ 6)), .int (iI (μ 7)), .int (iI (μ 8)), .int (iI (μ 9)), .int (iI (μ 10)), .int (iI (μ 11)), .int (iI (μ 12)), .int (iI (μ 13)), .int (iI (μ 14)), .long (iL (μ 15)), .ref (o 5), .int (iI (μ 17 + ((naL 7 (σ (149 + f))).length : Int)))] σ φ κ β (ouA ω (μ 17) (naL 7 (σ (149 + f)))) H := W8.eq hnew (by simp only [mV, zu, Int.reduceEq, reduceIte])
    exact z_retWv E hr (by rw [show paL σ 36 f = naL 7 (σ (149 + f)) from if_neg (by omega)]; exact W8.mu hM (by simp only [mV, zu, Int.reduceEq, reduceIte])) hS hlocks dX8_saysPath_33
  · have hp1 := hI.par1 (f := f) (by omega) hf.2
    refine lv_aload_n (pc := 4) E.1 E.2 dX8_saysPath_4 rfl (lv_at hl 0 rfl) ?_
    refine lv_aload_n (pc := 5) E.1 E.2 dX8_saysPath_5 rfl (lv_at hl 0 rfl) ?_
    refine lv_iload_n (pc := 6) E.1 E.2 dX8_saysPath_6 rfl (lv_at hl 1 rfl) ?_
    refine z_rVi (pc := 7) (As := [.int (iI f)]) (rest := [.ref (o 0)]) E hml hown hts (mX8_parentOf lL G o μ σ φ κ β ω f (by omega)) (cwV 1 hts gX8_saysPath_X8_parentOf rfl rfl rfl vdX8_parentOf ⟨Nat.le_of_ble_eq_true rfl, Nat.le_of_ble_eq_true rfl⟩) (oB.recv hK hM.1 rfl) hM hK rfl hl.1 rfl dX8_saysPath_7 hcs (Nat.le_of_ble_eq_true rfl) ?_
    refine z_wVv (pc := 10) (As := [.int (iI (σ (69 + f)))]) (rest := []) E hml hown hts (mX8_saysPath35 lL G o μ σ φ κ β ω (σ (69 + f)) hI (by omega) (by omega) (by omega)) (cwV 1 hts gX8_saysPath_X8_saysPath rfl rfl rfl vdX8_saysPath ⟨Nat.le_of_ble_eq_true rfl, Nat.le_of_ble_eq_true rfl⟩) (oB.recv hK hM.1 rfl) hM hK hS (fun _ h => h) rfl hl.1 rfl dX8_saysPath_10 hcs (Nat.le_of_ble_eq_true rfl) (fun H locs hnew hsz hoth hS => ?_)
    have hM : W8 G o [.ref (o 1), .ref (o 2), .ref (o 3), .int (iI (μ 3)), .int (iI (μ 4)), .ref (o 4), .int (iI (μ 6)), .int (iI (μ 7)), .int (iI (μ 8)), .int (iI (μ 9)), .int (iI (μ 10)), .int (iI (μ 11)), .int (iI (μ 12)), .int (iI (μ 13)), .int (iI (μ 14)), .long (iL (μ 15)), .ref (o 5), .int (iI (μ 17 + ((paL σ 35 (σ (69 + f))).length : Int)))] σ φ κ β (ouA ω (μ 17) (paL σ 35 (σ (69 + f)))) H := W8.eq hnew (by simp only [mV, zu, Int.reduceEq, reduceIte])
    have hlb := paL_b σ 35 (σ (69 + f))
    refine lv_aload_n (pc := 13) E.1 E.2 dX8_saysPath_13 rfl (lv_at hl 0 rfl) ?_
    refine z_bipush (pc := 14) E (by decide) dX8_saysPath_14 ?_
    refine z_wVv (pc := 16) (As := [.int (iI 47)]) (rest := []) E hml hown hts (mX8_says lL G o (zu μ 17 (μ 17 + ((paL σ 35 (σ (69 + f))).length : Int))) σ φ κ β (ouA ω (μ 17) (paL σ 35 (σ (69 + f)))) 47 (by first | omega | (simp only [zu, Int.reduceEq, reduceIte]; omega)) (by first | omega | (simp only [zu, Int.reduceEq, reduceIte]; omega))) (cwV 1 hts gX8_saysPath_X8_says rfl rfl rfl vdX8_says ⟨Nat.le_of_ble_eq_true rfl, Nat.le_of_ble_eq_true rfl⟩) (oB.recv hK hM.1 rfl) (W8.mu hM (by simp only [mV, zu, Int.reduceEq, reduceIte])) hK hS (fun _ h => h) rfl hl.1 rfl dX8_saysPath_16 hcs (Nat.le_of_ble_eq_true rfl) (fun H locs hnew hsz hoth hS => ?_)
    have hM : W8 G o [.ref (o 1), .ref (o 2), .ref (o 3), .int (iI (μ 3)), .int (iI (μ 4)), .ref (o 4), .int (iI (μ 6)), .int (iI (μ 7)), .int (iI (μ 8)), .int (iI (μ 9)), .int (iI (μ 10)), .int (iI (μ 11)), .int (iI (μ 12)), .int (iI (μ 13)), .int (iI (μ 14)), .long (iL (μ 15)), .ref (o 5), .int (iI ((μ 17 + ((paL σ 35 (σ (69 + f))).length : Int)) + 1))] σ φ κ β (zu (ouA ω (μ 17) (paL σ 35 (σ (69 + f)))) ((μ 17 + ((paL σ 35 (σ (69 + f))).length : Int))) 47) H := W8.eq hnew (by simp only [mV, zu, Int.reduceEq, reduceIte])
    refine lv_aload_n (pc := 19) E.1 E.2 dX8_saysPath_19 rfl (lv_at hl 0 rfl) ?_
    refine lv_aload_n (pc := 20) E.1 E.2 dX8_saysPath_20 rfl (lv_at hl 0 rfl) ?_
    refine g8_0 (pc := 21) E hts hin8 hown hK hM.1 (hts _ (List.mem_of_getElem? (i := 1) rfl)) dX8_saysPath_21 ?_
    refine z_sipush (pc := 24) E (by decide) dX8_saysPath_24 ?_
    refine lv_iload_n (pc := 27) E.1 E.2 dX8_saysPath_27 rfl (lv_at hl 1 rfl) ?_
    refine z_iadd (pc := 28) E dX8_saysPath_28 ?_
    refine z_laload (pc := 29) E hK hM.2.1 ⟨by omega, by omega⟩ (by decide) dX8_saysPath_29 ?_
    have hb29 := hI.bd (149 + f)
    refine z_wVv (pc := 30) (As := [.long (iL (σ (149 + f)))]) (rest := []) E hml hown hts (mX8_saysName7 lL G o (zu (zu μ 17 (μ 17 + ((paL σ 35 (σ (69 + f))).length : Int))) 17 ((μ 17 + ((paL σ 35 (σ (69 + f))).length : Int)) + 1)) σ φ κ β (zu (ouA ω (μ 17) (paL σ 35 (σ (69 + f)))) ((μ 17 + ((paL σ 35 (σ (69 + f))).length : Int))) 47) (σ (149 + f)) (by first | omega | (simp only [zu, Int.reduceEq, reduceIte]; omega)) (by first | omega | (simp only [zu, Int.reduceEq, reduceIte]; omega))) (cwV 1 hts gX8_saysPath_X8_saysName rfl rfl rfl vdX8_saysName ⟨Nat.le_of_ble_eq_true rfl, Nat.le_of_ble_eq_true rfl⟩) (oB.recv hK hM.1 rfl) (W8.mu hM (by simp only [mV, zu, Int.reduceEq, reduceIte])) hK hS (fun _ h => h) rfl hl.1 rfl dX8_saysPath_30 hcs (Nat.le_of_ble_eq_true rfl) (fun H locs hnew hsz hoth hS => ?_)
    have hM : W8 G o [.ref (o 1), .ref (o 2), .ref (o 3), .int (iI (μ 3)), .int (iI (μ 4)), .ref (o 4), .int (iI (μ 6)), .int (iI (μ 7)), .int (iI (μ 8)), .int (iI (μ 9)), .int (iI (μ 10)), .int (iI (μ 11)), .int (iI (μ 12)), .int (iI (μ 13)), .int (iI (μ 14)), .long (iL (μ 15)), .ref (o 5), .int (iI (((μ 17 + ((paL σ 35 (σ (69 + f))).length : Int)) + 1) + ((naL 7 (σ (149 + f))).length : Int)))] σ φ κ β (ouA (zu (ouA ω (μ 17) (paL σ 35 (σ (69 + f)))) ((μ 17 + ((paL σ 35 (σ (69 + f))).length : Int))) 47) (((μ 17 + ((paL σ 35 (σ (69 + f))).length : Int)) + 1)) (naL 7 (σ (149 + f)))) H := W8.eq hnew (by simp only [mV, zu, Int.reduceEq, reduceIte])
    exact z_retWv E hr (by rw [show paL σ 36 f = paL σ 35 (σ (69 + f)) ++ [47] ++ naL 7 (σ (149 + f)) from if_pos (by omega), ← ouA_3]; exact W8.mu hM (by rw [← ouA_l3]; simp only [mV, zu, Int.reduceEq, reduceIte])) hS hlocks dX8_saysPath_33
set_option maxHeartbeats 1000000 in
set_option maxRecDepth 100000 in
theorem mX8_saysPath37 (lL : Launch) (G : GG) (o : Nat → Nat) (μ σ φ κ β ω : Int → Int) (f : Int) (hI : In σ) (hf : 0 ≤ f ∧ f < σ 2) (hd : dpF σ f ≤ 38) (hm : 0 ≤ μ 17 ∧ μ 17 + 342 ≤ 400) : Met lL yX8_saysPath wsX8_saysPath ({ frames := 46, cells := 0, slots := 0, locals := 974 } : Room) (va_Pc [.ref (o 0), .int (iI f)] (fun U => W8 G o (mV o μ) σ φ κ β ω U.heap ∧ KK G U)) (va_Qv (fun _ : Unit => True) (fun _ tZ => W8 G o (mV o (zu μ 17 (μ 17 + ((paL σ 37 f).length : Int)))) σ φ κ β (ouA ω (μ 17) (paL σ 37 f)) tZ.heap) (Ax o 6)) 0 0 (Ax o 6) := by
  refine z_met (P := (fun H : Heap => W8 G o (mV o μ) σ φ κ β ω H)) (by decide) rfl (Nat.le_of_ble_eq_true rfl) (fun pp ee ss mm below meth cC E hr hml hown hts hlocks hM hK ls hl => ?_)
  have hl : lv_has ls 2 [(0, .ref (o 0)), (1, .int (iI f))] := hl
  have hcs : 0 ≤ (({ frames := 46, cells := 0, slots := 0, locals := 974 } : Room)).cells ∧ 0 ≤ (({ frames := 46, cells := 0, slots := 0, locals := 974 } : Room)).slots := ⟨Nat.zero_le _, Nat.zero_le _⟩
  have hS : va_S (Ax o 6) ss.heap ss.heap [] := va_S.rf
  have hin8 : ∀ w ∈ wsX80, w ∈ wsX8_saysPath := fun w h => List.mem_cons_of_mem _ (List.mem_append_right _ (h))
  have hF := hI.F
  have hMm := hI.M
  have hGn := hI.Gn
  have hnk := nmk_b (hI.nam hf.1 hf.2)
  have e9 := dpF_s hI.cs hf.1 hf.2
  refine lv_iload_n (pc := 0) E.1 E.2 dX8_saysPath_0 rfl (lv_at hl 1 rfl) ?_
  refine z_if_le (pc := 1) (tgt := 19) E ⟨by omega, by omega⟩ dX8_saysPath_1 (by decide) (fun h1 => ?_) (fun h1 => ?_)
  · refine lv_aload_n (pc := 19) E.1 E.2 dX8_saysPath_19 rfl (lv_at hl 0 rfl) ?_
    refine lv_aload_n (pc := 20) E.1 E.2 dX8_saysPath_20 rfl (lv_at hl 0 rfl) ?_
    refine g8_0 (pc := 21) E hts hin8 hown hK hM.1 (hts _ (List.mem_of_getElem? (i := 1) rfl)) dX8_saysPath_21 ?_
    refine z_sipush (pc := 24) E (by decide) dX8_saysPath_24 ?_
    refine lv_iload_n (pc := 27) E.1 E.2 dX8_saysPath_27 rfl (lv_at hl 1 rfl) ?_
    refine z_iadd (pc := 28) E dX8_saysPath_28 ?_
    refine z_laload (pc := 29) E hK hM.2.1 ⟨by omega, by omega⟩ (by decide) dX8_saysPath_29 ?_
    have hb29 := hI.bd (149 + f)
    refine z_wVv (pc := 30) (As := [.long (iL (σ (149 + f)))]) (rest := []) E hml hown hts (mX8_saysName7 lL G o μ σ φ κ β ω (σ (149 + f)) (by omega) (by omega)) (cwV 1 hts gX8_saysPath_X8_saysName rfl rfl rfl vdX8_saysName ⟨Nat.le_of_ble_eq_true rfl, Nat.le_of_ble_eq_true rfl⟩) (oB.recv hK hM.1 rfl) hM hK hS (fun _ h => h) rfl hl.1 rfl dX8_saysPath_30 hcs (Nat.le_of_ble_eq_true rfl) (fun H locs hnew hsz hoth hS => ?_)
    have hM : W8 G o [.ref (o 1), .ref (o 2), .ref (o 3), .int (iI (μ 3)), .int (iI (μ 4)), .ref (o 4), .int (iI (μ 6)), .int (iI (μ 7)), .int (iI (μ 8)), .int (iI (μ 9)), .int (iI (μ 10)), .int (iI (μ 11)), .int (iI (μ 12)), .int (iI (μ 13)), .int (iI (μ 14)), .long (iL (μ 15)), .ref (o 5), .int (iI (μ 17 + ((naL 7 (σ (149 + f))).length : Int)))] σ φ κ β (ouA ω (μ 17) (naL 7 (σ (149 + f)))) H := W8.eq hnew (by simp only [mV, zu, Int.reduceEq, reduceIte])
    exact z_retWv E hr (by rw [show paL σ 37 f = naL 7 (σ (149 + f)) from if_neg (by omega)]; exact W8.mu hM (by simp only [mV, zu, Int.reduceEq, reduceIte])) hS hlocks dX8_saysPath_33
  · have hp1 := hI.par1 (f := f) (by omega) hf.2
    refine lv_aload_n (pc := 4) E.1 E.2 dX8_saysPath_4 rfl (lv_at hl 0 rfl) ?_
    refine lv_aload_n (pc := 5) E.1 E.2 dX8_saysPath_5 rfl (lv_at hl 0 rfl) ?_
    refine lv_iload_n (pc := 6) E.1 E.2 dX8_saysPath_6 rfl (lv_at hl 1 rfl) ?_
    refine z_rVi (pc := 7) (As := [.int (iI f)]) (rest := [.ref (o 0)]) E hml hown hts (mX8_parentOf lL G o μ σ φ κ β ω f (by omega)) (cwV 1 hts gX8_saysPath_X8_parentOf rfl rfl rfl vdX8_parentOf ⟨Nat.le_of_ble_eq_true rfl, Nat.le_of_ble_eq_true rfl⟩) (oB.recv hK hM.1 rfl) hM hK rfl hl.1 rfl dX8_saysPath_7 hcs (Nat.le_of_ble_eq_true rfl) ?_
    refine z_wVv (pc := 10) (As := [.int (iI (σ (69 + f)))]) (rest := []) E hml hown hts (mX8_saysPath36 lL G o μ σ φ κ β ω (σ (69 + f)) hI (by omega) (by omega) (by omega)) (cwV 1 hts gX8_saysPath_X8_saysPath rfl rfl rfl vdX8_saysPath ⟨Nat.le_of_ble_eq_true rfl, Nat.le_of_ble_eq_true rfl⟩) (oB.recv hK hM.1 rfl) hM hK hS (fun _ h => h) rfl hl.1 rfl dX8_saysPath_10 hcs (Nat.le_of_ble_eq_true rfl) (fun H locs hnew hsz hoth hS => ?_)
    have hM : W8 G o [.ref (o 1), .ref (o 2), .ref (o 3), .int (iI (μ 3)), .int (iI (μ 4)), .ref (o 4), .int (iI (μ 6)), .int (iI (μ 7)), .int (iI (μ 8)), .int (iI (μ 9)), .int (iI (μ 10)), .int (iI (μ 11)), .int (iI (μ 12)), .int (iI (μ 13)), .int (iI (μ 14)), .long (iL (μ 15)), .ref (o 5), .int (iI (μ 17 + ((paL σ 36 (σ (69 + f))).length : Int)))] σ φ κ β (ouA ω (μ 17) (paL σ 36 (σ (69 + f)))) H := W8.eq hnew (by simp only [mV, zu, Int.reduceEq, reduceIte])
    have hlb := paL_b σ 36 (σ (69 + f))
    refine lv_aload_n (pc := 13) E.1 E.2 dX8_saysPath_13 rfl (lv_at hl 0 rfl) ?_
    refine z_bipush (pc := 14) E (by decide) dX8_saysPath_14 ?_
    refine z_wVv (pc := 16) (As := [.int (iI 47)]) (rest := []) E hml hown hts (mX8_says lL G o (zu μ 17 (μ 17 + ((paL σ 36 (σ (69 + f))).length : Int))) σ φ κ β (ouA ω (μ 17) (paL σ 36 (σ (69 + f)))) 47 (by first | omega | (simp only [zu, Int.reduceEq, reduceIte]; omega)) (by first | omega | (simp only [zu, Int.reduceEq, reduceIte]; omega))) (cwV 1 hts gX8_saysPath_X8_says rfl rfl rfl vdX8_says ⟨Nat.le_of_ble_eq_true rfl, Nat.le_of_ble_eq_true rfl⟩) (oB.recv hK hM.1 rfl) (W8.mu hM (by simp only [mV, zu, Int.reduceEq, reduceIte])) hK hS (fun _ h => h) rfl hl.1 rfl dX8_saysPath_16 hcs (Nat.le_of_ble_eq_true rfl) (fun H locs hnew hsz hoth hS => ?_)
    have hM : W8 G o [.ref (o 1), .ref (o 2), .ref (o 3), .int (iI (μ 3)), .int (iI (μ 4)), .ref (o 4), .int (iI (μ 6)), .int (iI (μ 7)), .int (iI (μ 8)), .int (iI (μ 9)), .int (iI (μ 10)), .int (iI (μ 11)), .int (iI (μ 12)), .int (iI (μ 13)), .int (iI (μ 14)), .long (iL (μ 15)), .ref (o 5), .int (iI ((μ 17 + ((paL σ 36 (σ (69 + f))).length : Int)) + 1))] σ φ κ β (zu (ouA ω (μ 17) (paL σ 36 (σ (69 + f)))) ((μ 17 + ((paL σ 36 (σ (69 + f))).length : Int))) 47) H := W8.eq hnew (by simp only [mV, zu, Int.reduceEq, reduceIte])
    refine lv_aload_n (pc := 19) E.1 E.2 dX8_saysPath_19 rfl (lv_at hl 0 rfl) ?_
    refine lv_aload_n (pc := 20) E.1 E.2 dX8_saysPath_20 rfl (lv_at hl 0 rfl) ?_
    refine g8_0 (pc := 21) E hts hin8 hown hK hM.1 (hts _ (List.mem_of_getElem? (i := 1) rfl)) dX8_saysPath_21 ?_
    refine z_sipush (pc := 24) E (by decide) dX8_saysPath_24 ?_
    refine lv_iload_n (pc := 27) E.1 E.2 dX8_saysPath_27 rfl (lv_at hl 1 rfl) ?_
    refine z_iadd (pc := 28) E dX8_saysPath_28 ?_
    refine z_laload (pc := 29) E hK hM.2.1 ⟨by omega, by omega⟩ (by decide) dX8_saysPath_29 ?_
    have hb29 := hI.bd (149 + f)
    refine z_wVv (pc := 30) (As := [.long (iL (σ (149 + f)))]) (rest := []) E hml hown hts (mX8_saysName7 lL G o (zu (zu μ 17 (μ 17 + ((paL σ 36 (σ (69 + f))).length : Int))) 17 ((μ 17 + ((paL σ 36 (σ (69 + f))).length : Int)) + 1)) σ φ κ β (zu (ouA ω (μ 17) (paL σ 36 (σ (69 + f)))) ((μ 17 + ((paL σ 36 (σ (69 + f))).length : Int))) 47) (σ (149 + f)) (by first | omega | (simp only [zu, Int.reduceEq, reduceIte]; omega)) (by first | omega | (simp only [zu, Int.reduceEq, reduceIte]; omega))) (cwV 1 hts gX8_saysPath_X8_saysName rfl rfl rfl vdX8_saysName ⟨Nat.le_of_ble_eq_true rfl, Nat.le_of_ble_eq_true rfl⟩) (oB.recv hK hM.1 rfl) (W8.mu hM (by simp only [mV, zu, Int.reduceEq, reduceIte])) hK hS (fun _ h => h) rfl hl.1 rfl dX8_saysPath_30 hcs (Nat.le_of_ble_eq_true rfl) (fun H locs hnew hsz hoth hS => ?_)
    have hM : W8 G o [.ref (o 1), .ref (o 2), .ref (o 3), .int (iI (μ 3)), .int (iI (μ 4)), .ref (o 4), .int (iI (μ 6)), .int (iI (μ 7)), .int (iI (μ 8)), .int (iI (μ 9)), .int (iI (μ 10)), .int (iI (μ 11)), .int (iI (μ 12)), .int (iI (μ 13)), .int (iI (μ 14)), .long (iL (μ 15)), .ref (o 5), .int (iI (((μ 17 + ((paL σ 36 (σ (69 + f))).length : Int)) + 1) + ((naL 7 (σ (149 + f))).length : Int)))] σ φ κ β (ouA (zu (ouA ω (μ 17) (paL σ 36 (σ (69 + f)))) ((μ 17 + ((paL σ 36 (σ (69 + f))).length : Int))) 47) (((μ 17 + ((paL σ 36 (σ (69 + f))).length : Int)) + 1)) (naL 7 (σ (149 + f)))) H := W8.eq hnew (by simp only [mV, zu, Int.reduceEq, reduceIte])
    exact z_retWv E hr (by rw [show paL σ 37 f = paL σ 36 (σ (69 + f)) ++ [47] ++ naL 7 (σ (149 + f)) from if_pos (by omega), ← ouA_3]; exact W8.mu hM (by rw [← ouA_l3]; simp only [mV, zu, Int.reduceEq, reduceIte])) hS hlocks dX8_saysPath_33
set_option maxHeartbeats 1000000 in
set_option maxRecDepth 100000 in
theorem mX8_saysPath38 (lL : Launch) (G : GG) (o : Nat → Nat) (μ σ φ κ β ω : Int → Int) (f : Int) (hI : In σ) (hf : 0 ≤ f ∧ f < σ 2) (hd : dpF σ f ≤ 39) (hm : 0 ≤ μ 17 ∧ μ 17 + 351 ≤ 400) : Met lL yX8_saysPath wsX8_saysPath ({ frames := 47, cells := 0, slots := 0, locals := 995 } : Room) (va_Pc [.ref (o 0), .int (iI f)] (fun U => W8 G o (mV o μ) σ φ κ β ω U.heap ∧ KK G U)) (va_Qv (fun _ : Unit => True) (fun _ tZ => W8 G o (mV o (zu μ 17 (μ 17 + ((paL σ 38 f).length : Int)))) σ φ κ β (ouA ω (μ 17) (paL σ 38 f)) tZ.heap) (Ax o 6)) 0 0 (Ax o 6) := by
  refine z_met (P := (fun H : Heap => W8 G o (mV o μ) σ φ κ β ω H)) (by decide) rfl (Nat.le_of_ble_eq_true rfl) (fun pp ee ss mm below meth cC E hr hml hown hts hlocks hM hK ls hl => ?_)
  have hl : lv_has ls 2 [(0, .ref (o 0)), (1, .int (iI f))] := hl
  have hcs : 0 ≤ (({ frames := 47, cells := 0, slots := 0, locals := 995 } : Room)).cells ∧ 0 ≤ (({ frames := 47, cells := 0, slots := 0, locals := 995 } : Room)).slots := ⟨Nat.zero_le _, Nat.zero_le _⟩
  have hS : va_S (Ax o 6) ss.heap ss.heap [] := va_S.rf
  have hin8 : ∀ w ∈ wsX80, w ∈ wsX8_saysPath := fun w h => List.mem_cons_of_mem _ (List.mem_append_right _ (h))
  have hF := hI.F
  have hMm := hI.M
  have hGn := hI.Gn
  have hnk := nmk_b (hI.nam hf.1 hf.2)
  have e9 := dpF_s hI.cs hf.1 hf.2
  refine lv_iload_n (pc := 0) E.1 E.2 dX8_saysPath_0 rfl (lv_at hl 1 rfl) ?_
  refine z_if_le (pc := 1) (tgt := 19) E ⟨by omega, by omega⟩ dX8_saysPath_1 (by decide) (fun h1 => ?_) (fun h1 => ?_)
  · refine lv_aload_n (pc := 19) E.1 E.2 dX8_saysPath_19 rfl (lv_at hl 0 rfl) ?_
    refine lv_aload_n (pc := 20) E.1 E.2 dX8_saysPath_20 rfl (lv_at hl 0 rfl) ?_
    refine g8_0 (pc := 21) E hts hin8 hown hK hM.1 (hts _ (List.mem_of_getElem? (i := 1) rfl)) dX8_saysPath_21 ?_
    refine z_sipush (pc := 24) E (by decide) dX8_saysPath_24 ?_
    refine lv_iload_n (pc := 27) E.1 E.2 dX8_saysPath_27 rfl (lv_at hl 1 rfl) ?_
    refine z_iadd (pc := 28) E dX8_saysPath_28 ?_
    refine z_laload (pc := 29) E hK hM.2.1 ⟨by omega, by omega⟩ (by decide) dX8_saysPath_29 ?_
    have hb29 := hI.bd (149 + f)
    refine z_wVv (pc := 30) (As := [.long (iL (σ (149 + f)))]) (rest := []) E hml hown hts (mX8_saysName7 lL G o μ σ φ κ β ω (σ (149 + f)) (by omega) (by omega)) (cwV 1 hts gX8_saysPath_X8_saysName rfl rfl rfl vdX8_saysName ⟨Nat.le_of_ble_eq_true rfl, Nat.le_of_ble_eq_true rfl⟩) (oB.recv hK hM.1 rfl) hM hK hS (fun _ h => h) rfl hl.1 rfl dX8_saysPath_30 hcs (Nat.le_of_ble_eq_true rfl) (fun H locs hnew hsz hoth hS => ?_)
    have hM : W8 G o [.ref (o 1), .ref (o 2), .ref (o 3), .int (iI (μ 3)), .int (iI (μ 4)), .ref (o 4), .int (iI (μ 6)), .int (iI (μ 7)), .int (iI (μ 8)), .int (iI (μ 9)), .int (iI (μ 10)), .int (iI (μ 11)), .int (iI (μ 12)), .int (iI (μ 13)), .int (iI (μ 14)), .long (iL (μ 15)), .ref (o 5), .int (iI (μ 17 + ((naL 7 (σ (149 + f))).length : Int)))] σ φ κ β (ouA ω (μ 17) (naL 7 (σ (149 + f)))) H := W8.eq hnew (by simp only [mV, zu, Int.reduceEq, reduceIte])
    exact z_retWv E hr (by rw [show paL σ 38 f = naL 7 (σ (149 + f)) from if_neg (by omega)]; exact W8.mu hM (by simp only [mV, zu, Int.reduceEq, reduceIte])) hS hlocks dX8_saysPath_33
  · have hp1 := hI.par1 (f := f) (by omega) hf.2
    refine lv_aload_n (pc := 4) E.1 E.2 dX8_saysPath_4 rfl (lv_at hl 0 rfl) ?_
    refine lv_aload_n (pc := 5) E.1 E.2 dX8_saysPath_5 rfl (lv_at hl 0 rfl) ?_
    refine lv_iload_n (pc := 6) E.1 E.2 dX8_saysPath_6 rfl (lv_at hl 1 rfl) ?_
    refine z_rVi (pc := 7) (As := [.int (iI f)]) (rest := [.ref (o 0)]) E hml hown hts (mX8_parentOf lL G o μ σ φ κ β ω f (by omega)) (cwV 1 hts gX8_saysPath_X8_parentOf rfl rfl rfl vdX8_parentOf ⟨Nat.le_of_ble_eq_true rfl, Nat.le_of_ble_eq_true rfl⟩) (oB.recv hK hM.1 rfl) hM hK rfl hl.1 rfl dX8_saysPath_7 hcs (Nat.le_of_ble_eq_true rfl) ?_
    refine z_wVv (pc := 10) (As := [.int (iI (σ (69 + f)))]) (rest := []) E hml hown hts (mX8_saysPath37 lL G o μ σ φ κ β ω (σ (69 + f)) hI (by omega) (by omega) (by omega)) (cwV 1 hts gX8_saysPath_X8_saysPath rfl rfl rfl vdX8_saysPath ⟨Nat.le_of_ble_eq_true rfl, Nat.le_of_ble_eq_true rfl⟩) (oB.recv hK hM.1 rfl) hM hK hS (fun _ h => h) rfl hl.1 rfl dX8_saysPath_10 hcs (Nat.le_of_ble_eq_true rfl) (fun H locs hnew hsz hoth hS => ?_)
    have hM : W8 G o [.ref (o 1), .ref (o 2), .ref (o 3), .int (iI (μ 3)), .int (iI (μ 4)), .ref (o 4), .int (iI (μ 6)), .int (iI (μ 7)), .int (iI (μ 8)), .int (iI (μ 9)), .int (iI (μ 10)), .int (iI (μ 11)), .int (iI (μ 12)), .int (iI (μ 13)), .int (iI (μ 14)), .long (iL (μ 15)), .ref (o 5), .int (iI (μ 17 + ((paL σ 37 (σ (69 + f))).length : Int)))] σ φ κ β (ouA ω (μ 17) (paL σ 37 (σ (69 + f)))) H := W8.eq hnew (by simp only [mV, zu, Int.reduceEq, reduceIte])
    have hlb := paL_b σ 37 (σ (69 + f))
    refine lv_aload_n (pc := 13) E.1 E.2 dX8_saysPath_13 rfl (lv_at hl 0 rfl) ?_
    refine z_bipush (pc := 14) E (by decide) dX8_saysPath_14 ?_
    refine z_wVv (pc := 16) (As := [.int (iI 47)]) (rest := []) E hml hown hts (mX8_says lL G o (zu μ 17 (μ 17 + ((paL σ 37 (σ (69 + f))).length : Int))) σ φ κ β (ouA ω (μ 17) (paL σ 37 (σ (69 + f)))) 47 (by first | omega | (simp only [zu, Int.reduceEq, reduceIte]; omega)) (by first | omega | (simp only [zu, Int.reduceEq, reduceIte]; omega))) (cwV 1 hts gX8_saysPath_X8_says rfl rfl rfl vdX8_says ⟨Nat.le_of_ble_eq_true rfl, Nat.le_of_ble_eq_true rfl⟩) (oB.recv hK hM.1 rfl) (W8.mu hM (by simp only [mV, zu, Int.reduceEq, reduceIte])) hK hS (fun _ h => h) rfl hl.1 rfl dX8_saysPath_16 hcs (Nat.le_of_ble_eq_true rfl) (fun H locs hnew hsz hoth hS => ?_)
    have hM : W8 G o [.ref (o 1), .ref (o 2), .ref (o 3), .int (iI (μ 3)), .int (iI (μ 4)), .ref (o 4), .int (iI (μ 6)), .int (iI (μ 7)), .int (iI (μ 8)), .int (iI (μ 9)), .int (iI (μ 10)), .int (iI (μ 11)), .int (iI (μ 12)), .int (iI (μ 13)), .int (iI (μ 14)), .long (iL (μ 15)), .ref (o 5), .int (iI ((μ 17 + ((paL σ 37 (σ (69 + f))).length : Int)) + 1))] σ φ κ β (zu (ouA ω (μ 17) (paL σ 37 (σ (69 + f)))) ((μ 17 + ((paL σ 37 (σ (69 + f))).length : Int))) 47) H := W8.eq hnew (by simp only [mV, zu, Int.reduceEq, reduceIte])
    refine lv_aload_n (pc := 19) E.1 E.2 dX8_saysPath_19 rfl (lv_at hl 0 rfl) ?_
    refine lv_aload_n (pc := 20) E.1 E.2 dX8_saysPath_20 rfl (lv_at hl 0 rfl) ?_
    refine g8_0 (pc := 21) E hts hin8 hown hK hM.1 (hts _ (List.mem_of_getElem? (i := 1) rfl)) dX8_saysPath_21 ?_
    refine z_sipush (pc := 24) E (by decide) dX8_saysPath_24 ?_
    refine lv_iload_n (pc := 27) E.1 E.2 dX8_saysPath_27 rfl (lv_at hl 1 rfl) ?_
    refine z_iadd (pc := 28) E dX8_saysPath_28 ?_
    refine z_laload (pc := 29) E hK hM.2.1 ⟨by omega, by omega⟩ (by decide) dX8_saysPath_29 ?_
    have hb29 := hI.bd (149 + f)
    refine z_wVv (pc := 30) (As := [.long (iL (σ (149 + f)))]) (rest := []) E hml hown hts (mX8_saysName7 lL G o (zu (zu μ 17 (μ 17 + ((paL σ 37 (σ (69 + f))).length : Int))) 17 ((μ 17 + ((paL σ 37 (σ (69 + f))).length : Int)) + 1)) σ φ κ β (zu (ouA ω (μ 17) (paL σ 37 (σ (69 + f)))) ((μ 17 + ((paL σ 37 (σ (69 + f))).length : Int))) 47) (σ (149 + f)) (by first | omega | (simp only [zu, Int.reduceEq, reduceIte]; omega)) (by first | omega | (simp only [zu, Int.reduceEq, reduceIte]; omega))) (cwV 1 hts gX8_saysPath_X8_saysName rfl rfl rfl vdX8_saysName ⟨Nat.le_of_ble_eq_true rfl, Nat.le_of_ble_eq_true rfl⟩) (oB.recv hK hM.1 rfl) (W8.mu hM (by simp only [mV, zu, Int.reduceEq, reduceIte])) hK hS (fun _ h => h) rfl hl.1 rfl dX8_saysPath_30 hcs (Nat.le_of_ble_eq_true rfl) (fun H locs hnew hsz hoth hS => ?_)
    have hM : W8 G o [.ref (o 1), .ref (o 2), .ref (o 3), .int (iI (μ 3)), .int (iI (μ 4)), .ref (o 4), .int (iI (μ 6)), .int (iI (μ 7)), .int (iI (μ 8)), .int (iI (μ 9)), .int (iI (μ 10)), .int (iI (μ 11)), .int (iI (μ 12)), .int (iI (μ 13)), .int (iI (μ 14)), .long (iL (μ 15)), .ref (o 5), .int (iI (((μ 17 + ((paL σ 37 (σ (69 + f))).length : Int)) + 1) + ((naL 7 (σ (149 + f))).length : Int)))] σ φ κ β (ouA (zu (ouA ω (μ 17) (paL σ 37 (σ (69 + f)))) ((μ 17 + ((paL σ 37 (σ (69 + f))).length : Int))) 47) (((μ 17 + ((paL σ 37 (σ (69 + f))).length : Int)) + 1)) (naL 7 (σ (149 + f)))) H := W8.eq hnew (by simp only [mV, zu, Int.reduceEq, reduceIte])
    exact z_retWv E hr (by rw [show paL σ 38 f = paL σ 37 (σ (69 + f)) ++ [47] ++ naL 7 (σ (149 + f)) from if_pos (by omega), ← ouA_3]; exact W8.mu hM (by rw [← ouA_l3]; simp only [mV, zu, Int.reduceEq, reduceIte])) hS hlocks dX8_saysPath_33
set_option maxHeartbeats 1000000 in
set_option maxRecDepth 100000 in
theorem mX8_saysPath39 (lL : Launch) (G : GG) (o : Nat → Nat) (μ σ φ κ β ω : Int → Int) (f : Int) (hI : In σ) (hf : 0 ≤ f ∧ f < σ 2) (hd : dpF σ f ≤ 40) (hm : 0 ≤ μ 17 ∧ μ 17 + 360 ≤ 400) : Met lL yX8_saysPath wsX8_saysPath ({ frames := 48, cells := 0, slots := 0, locals := 1016 } : Room) (va_Pc [.ref (o 0), .int (iI f)] (fun U => W8 G o (mV o μ) σ φ κ β ω U.heap ∧ KK G U)) (va_Qv (fun _ : Unit => True) (fun _ tZ => W8 G o (mV o (zu μ 17 (μ 17 + ((paL σ 39 f).length : Int)))) σ φ κ β (ouA ω (μ 17) (paL σ 39 f)) tZ.heap) (Ax o 6)) 0 0 (Ax o 6) := by
  refine z_met (P := (fun H : Heap => W8 G o (mV o μ) σ φ κ β ω H)) (by decide) rfl (Nat.le_of_ble_eq_true rfl) (fun pp ee ss mm below meth cC E hr hml hown hts hlocks hM hK ls hl => ?_)
  have hl : lv_has ls 2 [(0, .ref (o 0)), (1, .int (iI f))] := hl
  have hcs : 0 ≤ (({ frames := 48, cells := 0, slots := 0, locals := 1016 } : Room)).cells ∧ 0 ≤ (({ frames := 48, cells := 0, slots := 0, locals := 1016 } : Room)).slots := ⟨Nat.zero_le _, Nat.zero_le _⟩
  have hS : va_S (Ax o 6) ss.heap ss.heap [] := va_S.rf
  have hin8 : ∀ w ∈ wsX80, w ∈ wsX8_saysPath := fun w h => List.mem_cons_of_mem _ (List.mem_append_right _ (h))
  have hF := hI.F
  have hMm := hI.M
  have hGn := hI.Gn
  have hnk := nmk_b (hI.nam hf.1 hf.2)
  have e9 := dpF_s hI.cs hf.1 hf.2
  refine lv_iload_n (pc := 0) E.1 E.2 dX8_saysPath_0 rfl (lv_at hl 1 rfl) ?_
  refine z_if_le (pc := 1) (tgt := 19) E ⟨by omega, by omega⟩ dX8_saysPath_1 (by decide) (fun h1 => ?_) (fun h1 => ?_)
  · refine lv_aload_n (pc := 19) E.1 E.2 dX8_saysPath_19 rfl (lv_at hl 0 rfl) ?_
    refine lv_aload_n (pc := 20) E.1 E.2 dX8_saysPath_20 rfl (lv_at hl 0 rfl) ?_
    refine g8_0 (pc := 21) E hts hin8 hown hK hM.1 (hts _ (List.mem_of_getElem? (i := 1) rfl)) dX8_saysPath_21 ?_
    refine z_sipush (pc := 24) E (by decide) dX8_saysPath_24 ?_
    refine lv_iload_n (pc := 27) E.1 E.2 dX8_saysPath_27 rfl (lv_at hl 1 rfl) ?_
    refine z_iadd (pc := 28) E dX8_saysPath_28 ?_
    refine z_laload (pc := 29) E hK hM.2.1 ⟨by omega, by omega⟩ (by decide) dX8_saysPath_29 ?_
    have hb29 := hI.bd (149 + f)
    refine z_wVv (pc := 30) (As := [.long (iL (σ (149 + f)))]) (rest := []) E hml hown hts (mX8_saysName7 lL G o μ σ φ κ β ω (σ (149 + f)) (by omega) (by omega)) (cwV 1 hts gX8_saysPath_X8_saysName rfl rfl rfl vdX8_saysName ⟨Nat.le_of_ble_eq_true rfl, Nat.le_of_ble_eq_true rfl⟩) (oB.recv hK hM.1 rfl) hM hK hS (fun _ h => h) rfl hl.1 rfl dX8_saysPath_30 hcs (Nat.le_of_ble_eq_true rfl) (fun H locs hnew hsz hoth hS => ?_)
    have hM : W8 G o [.ref (o 1), .ref (o 2), .ref (o 3), .int (iI (μ 3)), .int (iI (μ 4)), .ref (o 4), .int (iI (μ 6)), .int (iI (μ 7)), .int (iI (μ 8)), .int (iI (μ 9)), .int (iI (μ 10)), .int (iI (μ 11)), .int (iI (μ 12)), .int (iI (μ 13)), .int (iI (μ 14)), .long (iL (μ 15)), .ref (o 5), .int (iI (μ 17 + ((naL 7 (σ (149 + f))).length : Int)))] σ φ κ β (ouA ω (μ 17) (naL 7 (σ (149 + f)))) H := W8.eq hnew (by simp only [mV, zu, Int.reduceEq, reduceIte])
    exact z_retWv E hr (by rw [show paL σ 39 f = naL 7 (σ (149 + f)) from if_neg (by omega)]; exact W8.mu hM (by simp only [mV, zu, Int.reduceEq, reduceIte])) hS hlocks dX8_saysPath_33
  · have hp1 := hI.par1 (f := f) (by omega) hf.2
    refine lv_aload_n (pc := 4) E.1 E.2 dX8_saysPath_4 rfl (lv_at hl 0 rfl) ?_
    refine lv_aload_n (pc := 5) E.1 E.2 dX8_saysPath_5 rfl (lv_at hl 0 rfl) ?_
    refine lv_iload_n (pc := 6) E.1 E.2 dX8_saysPath_6 rfl (lv_at hl 1 rfl) ?_
    refine z_rVi (pc := 7) (As := [.int (iI f)]) (rest := [.ref (o 0)]) E hml hown hts (mX8_parentOf lL G o μ σ φ κ β ω f (by omega)) (cwV 1 hts gX8_saysPath_X8_parentOf rfl rfl rfl vdX8_parentOf ⟨Nat.le_of_ble_eq_true rfl, Nat.le_of_ble_eq_true rfl⟩) (oB.recv hK hM.1 rfl) hM hK rfl hl.1 rfl dX8_saysPath_7 hcs (Nat.le_of_ble_eq_true rfl) ?_
    refine z_wVv (pc := 10) (As := [.int (iI (σ (69 + f)))]) (rest := []) E hml hown hts (mX8_saysPath38 lL G o μ σ φ κ β ω (σ (69 + f)) hI (by omega) (by omega) (by omega)) (cwV 1 hts gX8_saysPath_X8_saysPath rfl rfl rfl vdX8_saysPath ⟨Nat.le_of_ble_eq_true rfl, Nat.le_of_ble_eq_true rfl⟩) (oB.recv hK hM.1 rfl) hM hK hS (fun _ h => h) rfl hl.1 rfl dX8_saysPath_10 hcs (Nat.le_of_ble_eq_true rfl) (fun H locs hnew hsz hoth hS => ?_)
    have hM : W8 G o [.ref (o 1), .ref (o 2), .ref (o 3), .int (iI (μ 3)), .int (iI (μ 4)), .ref (o 4), .int (iI (μ 6)), .int (iI (μ 7)), .int (iI (μ 8)), .int (iI (μ 9)), .int (iI (μ 10)), .int (iI (μ 11)), .int (iI (μ 12)), .int (iI (μ 13)), .int (iI (μ 14)), .long (iL (μ 15)), .ref (o 5), .int (iI (μ 17 + ((paL σ 38 (σ (69 + f))).length : Int)))] σ φ κ β (ouA ω (μ 17) (paL σ 38 (σ (69 + f)))) H := W8.eq hnew (by simp only [mV, zu, Int.reduceEq, reduceIte])
    have hlb := paL_b σ 38 (σ (69 + f))
    refine lv_aload_n (pc := 13) E.1 E.2 dX8_saysPath_13 rfl (lv_at hl 0 rfl) ?_
    refine z_bipush (pc := 14) E (by decide) dX8_saysPath_14 ?_
    refine z_wVv (pc := 16) (As := [.int (iI 47)]) (rest := []) E hml hown hts (mX8_says lL G o (zu μ 17 (μ 17 + ((paL σ 38 (σ (69 + f))).length : Int))) σ φ κ β (ouA ω (μ 17) (paL σ 38 (σ (69 + f)))) 47 (by first | omega | (simp only [zu, Int.reduceEq, reduceIte]; omega)) (by first | omega | (simp only [zu, Int.reduceEq, reduceIte]; omega))) (cwV 1 hts gX8_saysPath_X8_says rfl rfl rfl vdX8_says ⟨Nat.le_of_ble_eq_true rfl, Nat.le_of_ble_eq_true rfl⟩) (oB.recv hK hM.1 rfl) (W8.mu hM (by simp only [mV, zu, Int.reduceEq, reduceIte])) hK hS (fun _ h => h) rfl hl.1 rfl dX8_saysPath_16 hcs (Nat.le_of_ble_eq_true rfl) (fun H locs hnew hsz hoth hS => ?_)
    have hM : W8 G o [.ref (o 1), .ref (o 2), .ref (o 3), .int (iI (μ 3)), .int (iI (μ 4)), .ref (o 4), .int (iI (μ 6)), .int (iI (μ 7)), .int (iI (μ 8)), .int (iI (μ 9)), .int (iI (μ 10)), .int (iI (μ 11)), .int (iI (μ 12)), .int (iI (μ 13)), .int (iI (μ 14)), .long (iL (μ 15)), .ref (o 5), .int (iI ((μ 17 + ((paL σ 38 (σ (69 + f))).length : Int)) + 1))] σ φ κ β (zu (ouA ω (μ 17) (paL σ 38 (σ (69 + f)))) ((μ 17 + ((paL σ 38 (σ (69 + f))).length : Int))) 47) H := W8.eq hnew (by simp only [mV, zu, Int.reduceEq, reduceIte])
    refine lv_aload_n (pc := 19) E.1 E.2 dX8_saysPath_19 rfl (lv_at hl 0 rfl) ?_
    refine lv_aload_n (pc := 20) E.1 E.2 dX8_saysPath_20 rfl (lv_at hl 0 rfl) ?_
    refine g8_0 (pc := 21) E hts hin8 hown hK hM.1 (hts _ (List.mem_of_getElem? (i := 1) rfl)) dX8_saysPath_21 ?_
    refine z_sipush (pc := 24) E (by decide) dX8_saysPath_24 ?_
    refine lv_iload_n (pc := 27) E.1 E.2 dX8_saysPath_27 rfl (lv_at hl 1 rfl) ?_
    refine z_iadd (pc := 28) E dX8_saysPath_28 ?_
    refine z_laload (pc := 29) E hK hM.2.1 ⟨by omega, by omega⟩ (by decide) dX8_saysPath_29 ?_
    have hb29 := hI.bd (149 + f)
    refine z_wVv (pc := 30) (As := [.long (iL (σ (149 + f)))]) (rest := []) E hml hown hts (mX8_saysName7 lL G o (zu (zu μ 17 (μ 17 + ((paL σ 38 (σ (69 + f))).length : Int))) 17 ((μ 17 + ((paL σ 38 (σ (69 + f))).length : Int)) + 1)) σ φ κ β (zu (ouA ω (μ 17) (paL σ 38 (σ (69 + f)))) ((μ 17 + ((paL σ 38 (σ (69 + f))).length : Int))) 47) (σ (149 + f)) (by first | omega | (simp only [zu, Int.reduceEq, reduceIte]; omega)) (by first | omega | (simp only [zu, Int.reduceEq, reduceIte]; omega))) (cwV 1 hts gX8_saysPath_X8_saysName rfl rfl rfl vdX8_saysName ⟨Nat.le_of_ble_eq_true rfl, Nat.le_of_ble_eq_true rfl⟩) (oB.recv hK hM.1 rfl) (W8.mu hM (by simp only [mV, zu, Int.reduceEq, reduceIte])) hK hS (fun _ h => h) rfl hl.1 rfl dX8_saysPath_30 hcs (Nat.le_of_ble_eq_true rfl) (fun H locs hnew hsz hoth hS => ?_)
    have hM : W8 G o [.ref (o 1), .ref (o 2), .ref (o 3), .int (iI (μ 3)), .int (iI (μ 4)), .ref (o 4), .int (iI (μ 6)), .int (iI (μ 7)), .int (iI (μ 8)), .int (iI (μ 9)), .int (iI (μ 10)), .int (iI (μ 11)), .int (iI (μ 12)), .int (iI (μ 13)), .int (iI (μ 14)), .long (iL (μ 15)), .ref (o 5), .int (iI (((μ 17 + ((paL σ 38 (σ (69 + f))).length : Int)) + 1) + ((naL 7 (σ (149 + f))).length : Int)))] σ φ κ β (ouA (zu (ouA ω (μ 17) (paL σ 38 (σ (69 + f)))) ((μ 17 + ((paL σ 38 (σ (69 + f))).length : Int))) 47) (((μ 17 + ((paL σ 38 (σ (69 + f))).length : Int)) + 1)) (naL 7 (σ (149 + f)))) H := W8.eq hnew (by simp only [mV, zu, Int.reduceEq, reduceIte])
    exact z_retWv E hr (by rw [show paL σ 39 f = paL σ 38 (σ (69 + f)) ++ [47] ++ naL 7 (σ (149 + f)) from if_pos (by omega), ← ouA_3]; exact W8.mu hM (by rw [← ouA_l3]; simp only [mV, zu, Int.reduceEq, reduceIte])) hS hlocks dX8_saysPath_33
