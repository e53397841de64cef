theorem vdX8_says : yX8_says.cls = RX8 ∧ yX8_says.cls ≠ "java/lang/invoke/MethodHandle" ∧ yX8_says.cls ≠ "java/lang/invoke/VarHandle" ∧ (parseMethodDescriptor yX8_says.desc).map (fun d => d.parameters.length) = some 1 := by decide +kernel
theorem vdX8_writtenByte : yX8_writtenByte.cls = RX8 ∧ yX8_writtenByte.cls ≠ "java/lang/invoke/MethodHandle" ∧ yX8_writtenByte.cls ≠ "java/lang/invoke/VarHandle" ∧ (parseMethodDescriptor yX8_writtenByte.desc).map (fun d => d.parameters.length) = some 1 := by decide +kernel
set_option maxHeartbeats 1000000 in
set_option maxRecDepth 100000 in
theorem mX8_says (lL : Launch) (G : GG) (o : Nat → Nat) (μ σ φ κ β ω : Int → Int) (c : Int) (hc : -2147483648 ≤ c ∧ c < 2147483648) (hm : 0 ≤ μ 17 ∧ μ 17 < 400) : Met lL yX8_says wsX8_says ({ frames := 0, cells := 0, slots := 0, locals := 0 } : Room) (va_Pc [.ref (o 0), .int (iI c)] (fun U => W8 G o (mV o μ) σ φ κ β ω U.heap ∧ KK G U)) (va_Qv (fun _ : Unit => True) (fun _ tZ => W8 G o (mV o (zu μ 17 (μ 17 + 1))) σ φ κ β (zu ω (μ 17) c) tZ.heap) (Ax o 6)) 0 0 (Ax o 6) := by
  refine z_met (P := (fun H : Heap => W8 G o (mV o μ) σ φ κ β ω H)) (by decide) rfl (Nat.le_of_ble_eq_true rfl) (fun pp ee ss mm below meth cC E hr hml hown hts hlocks hM hK ls hl => ?_)
  have hl : lv_has ls 2 [(0, .ref (o 0)), (1, .int (iI c))] := hl
  have hcs : 0 ≤ (({ frames := 0, cells := 0, slots := 0, locals := 0 } : Room)).cells ∧ 0 ≤ (({ frames := 0, cells := 0, slots := 0, locals := 0 } : Room)).slots := ⟨Nat.zero_le _, Nat.zero_le _⟩
  have hS : va_S (Ax o 6) ss.heap ss.heap [] := va_S.rf
  have hin8 : ∀ w ∈ wsX80, w ∈ wsX8_says := fun w h => List.mem_cons_of_mem _ (List.mem_append_right _ (h))
  refine lv_aload_n (pc := 0) E.1 E.2 dX8_says_0 rfl (lv_at hl 0 rfl) ?_
  refine g8_16 (pc := 1) E hts hin8 hown hK hM.1 (hts _ (List.mem_of_getElem? (i := 1) rfl)) dX8_says_1 ?_
  refine lv_aload_n (pc := 4) E.1 E.2 dX8_says_4 rfl (lv_at hl 0 rfl) ?_
  refine g8_17 (pc := 5) E hts hin8 hown hK hM.1 (hts _ (List.mem_of_getElem? (i := 2) rfl)) dX8_says_5 ?_
  refine lv_iload_n (pc := 8) E.1 E.2 dX8_says_8 rfl (lv_at hl 1 rfl) ?_
  refine z_iastore (pc := 9) E hK hM.2.2.2.2.2.1 hS (Ax.at 5 (by decide)) ⟨by omega, by omega⟩ (by decide) dX8_says_9 (fun H locs hnew hoth hS => ?_)
  have hM := W8.a5 hM hnew (fun a _ h => hoth a h)
  refine lv_aload_n (pc := 10) E.1 E.2 dX8_says_10 rfl (lv_at hl 0 rfl) ?_
  refine lv_dup (pc := 11) E.1 E.2 dX8_says_11 rfl ?_
  refine g8_17 (pc := 12) E hts hin8 hown hK hM.1 (hts _ (List.mem_of_getElem? (i := 2) rfl)) dX8_says_12 ?_
  refine z_iconst (pc := 15) E dX8_says_15 ?_
  refine z_iadd (pc := 16) E dX8_says_16 ?_
  refine p8_17 (pc := 17) E hts hin8 hown hK hM.1 hS (Ax.at 0 (by decide)) (hts _ (List.mem_of_getElem? (i := 2) rfl)) dX8_says_17 (fun H locs hnew hoth hS => ?_)
  have hM := W8.p hM hnew (fun a _ h => hoth a h)
  exact z_retWv E hr (W8.mu hM (by simp only [mV, zu, Int.reduceEq, reduceIte])) hS hlocks dX8_says_20
set_option maxHeartbeats 1000000 in
set_option maxRecDepth 100000 in
theorem mX8_writtenByte (lL : Launch) (G : GG) (o : Nat → Nat) (μ σ φ κ β ω : Int → Int) (w : Int) (hI : In σ) (hw : -2147483648 ≤ w ∧ w < 2147483648) (hm : 0 ≤ μ 17 ∧ μ 17 ≤ 400) : Met lL yX8_writtenByte wsX8_writtenByte ({ frames := 1, cells := 0, slots := 0, locals := 25 } : Room) (va_Pc [.ref (o 0), .int (iI w)] (fun U => W8 G o (mV o μ) σ φ κ β ω U.heap ∧ KK G U)) (va_Qi (fun r (_ : Unit) => r = (iI (if (kxWB (μ 17) w) = 0 then ω w else 0))) (fun _ tZ => W8 G o (mV o (zu μ 4 (kxWB (μ 17) w))) σ φ κ β ω tZ.heap) (Ax o 6)) 0 0 (Ax o 6) := by
  refine z_met (P := (fun H : Heap => W8 G o (mV o μ) σ φ κ β ω H)) (by decide) rfl (Nat.le_of_ble_eq_true rfl) (fun pp ee ss mm below meth cC E hr hml hown hts hlocks hM hK ls hl => ?_)
  have hl : lv_has ls 2 [(0, .ref (o 0)), (1, .int (iI w))] := hl
  have hcs : 0 ≤ (({ frames := 1, cells := 0, slots := 0, locals := 25 } : Room)).cells ∧ 0 ≤ (({ frames := 1, cells := 0, slots := 0, locals := 25 } : Room)).slots := ⟨Nat.zero_le _, Nat.zero_le _⟩
  have hS : va_S (Ax o 6) ss.heap ss.heap [] := va_S.rf
  have hin8 : ∀ w ∈ wsX80, w ∈ wsX8_writtenByte := fun w h => List.mem_cons_of_mem _ (List.mem_append_right _ (h))
  have hF := hI.F
  have hMm := hI.M
  have hGn := hI.Gn
  have hTi := hI.ti
  have hGr := hI.gr
  refine lv_aload_n (pc := 0) E.1 E.2 dX8_writtenByte_0 rfl (lv_at hl 0 rfl) ?_
  refine lv_iload_n (pc := 1) E.1 E.2 dX8_writtenByte_1 rfl (lv_at hl 1 rfl) ?_
  refine z_i2l (pc := 2) E ⟨by omega, by omega⟩ dX8_writtenByte_2 ?_
  refine z_lconst (pc := 3) (v := 0) E (by decide) dX8_writtenByte_3 ?_
  refine lv_aload_n (pc := 4) E.1 E.2 dX8_writtenByte_4 rfl (lv_at hl 0 rfl) ?_
  refine g8_17 (pc := 5) E hts hin8 hown hK hM.1 (hts _ (List.mem_of_getElem? (i := 1) rfl)) dX8_writtenByte_5 ?_
  refine z_iconst (pc := 8) E dX8_writtenByte_8 ?_
  refine z_isub (pc := 9) E dX8_writtenByte_9 ?_
  refine z_i2l (pc := 10) E ⟨by omega, by omega⟩ dX8_writtenByte_10 ?_
  refine z_rSi (pc := 11) (P := fun _ => True) (As := [.long (iL w), .long (iL 0), .long (iL ((μ 17) - 1))]) (rest := [.ref (o 0)]) E hml hown hts (mX8_isIn lL G w 0 ((μ 17) - 1) ⟨by omega, by omega⟩ ⟨by omega, by omega⟩ ⟨by omega, by omega⟩) (va_cwS 3 hts gX8_writtenByte_X8_isIn rfl rfl rfl vdX8_isIn.2 ⟨Nat.le_of_ble_eq_true rfl, Nat.le_of_ble_eq_true rfl⟩) trivial hK rfl hl.1 rfl dX8_writtenByte_11 hcs (Nat.le_of_ble_eq_true rfl) ?_
  refine z_ifb_eq (pc := 14) (tgt := 21) E dX8_writtenByte_14 (by decide) (fun h14 => ?_) (fun h14 => ?_)
  · refine z_iconst (pc := 21) E dX8_writtenByte_21 ?_
    refine p8_4 (pc := 22) E hts hin8 hown hK hM.1 hS (Ax.at 0 (by decide)) (hts _ (List.mem_of_getElem? (i := 2) rfl)) dX8_writtenByte_22 (fun H locs hnew hoth hS => ?_)
    have hM := W8.p hM hnew (fun a _ h => hoth a h)
    refine lv_aload_n (pc := 25) E.1 E.2 dX8_writtenByte_25 rfl (lv_at hl 0 rfl) ?_
    refine g8_4 (pc := 26) E hts hin8 hown hK hM.1 (hts _ (List.mem_of_getElem? (i := 2) rfl)) dX8_writtenByte_26 ?_
    refine z_if_le (pc := 29) (tgt := 36) E (by decide) dX8_writtenByte_29 (by decide) (fun h29 => ?_) (fun h29 => ?_)
    · exact absurd h29 (by decide)
    · refine z_iconst (pc := 32) E dX8_writtenByte_32 ?_
      refine lv_goto (pc := 33) (tgt := 42) E.1 E.2 dX8_writtenByte_33 (by decide) ?_
      exact z_retWi E hr (congrArg iI (by have e0 : (kxWB (μ 17) w) = 1 := (by unfold kxWB; (repeat' split) <;> first | rfl | omega | (exfalso; omega) | contradiction | grind); rw [e0]; exact (if_neg (by decide)).symm)) (by have e0 : (kxWB (μ 17) w) = 1 := (by unfold kxWB; (repeat' split) <;> first | rfl | omega | (exfalso; omega) | contradiction | grind); rw [e0]; exact W8.mu hM (by simp only [mV, zu, Int.reduceEq, reduceIte])) hS hlocks dX8_writtenByte_42
  · refine z_iconst (pc := 17) E dX8_writtenByte_17 ?_
    refine lv_goto (pc := 18) (tgt := 22) E.1 E.2 dX8_writtenByte_18 (by decide) ?_
    refine p8_4 (pc := 22) E hts hin8 hown hK hM.1 hS (Ax.at 0 (by decide)) (hts _ (List.mem_of_getElem? (i := 2) rfl)) dX8_writtenByte_22 (fun H locs hnew hoth hS => ?_)
    have hM := W8.p hM hnew (fun a _ h => hoth a h)
    refine lv_aload_n (pc := 25) E.1 E.2 dX8_writtenByte_25 rfl (lv_at hl 0 rfl) ?_
    refine g8_4 (pc := 26) E hts hin8 hown hK hM.1 (hts _ (List.mem_of_getElem? (i := 2) rfl)) dX8_writtenByte_26 ?_
    refine z_if_le (pc := 29) (tgt := 36) E (by decide) dX8_writtenByte_29 (by decide) (fun h29 => ?_) (fun h29 => ?_)
    · refine lv_aload_n (pc := 36) E.1 E.2 dX8_writtenByte_36 rfl (lv_at hl 0 rfl) ?_
      refine g8_16 (pc := 37) E hts hin8 hown hK hM.1 (hts _ (List.mem_of_getElem? (i := 3) rfl)) dX8_writtenByte_37 ?_
      refine lv_iload_n (pc := 40) E.1 E.2 dX8_writtenByte_40 rfl (lv_at hl 1 rfl) ?_
      refine z_iaload (pc := 41) E hK hM.2.2.2.2.2.1 ⟨by omega, by omega⟩ (by decide) dX8_writtenByte_41 ?_
      exact z_retWi E hr (congrArg iI (by have e0 : (kxWB (μ 17) w) = 0 := (by unfold kxWB; (repeat' split) <;> first | rfl | omega | (exfalso; omega) | contradiction | grind); rw [e0]; refine Eq.trans ?_ (if_pos rfl).symm; rfl)) (by have e0 : (kxWB (μ 17) w) = 0 := (by unfold kxWB; (repeat' split) <;> first | rfl | omega | (exfalso; omega) | contradiction | grind); rw [e0]; exact W8.mu hM (by simp only [mV, zu, Int.reduceEq, reduceIte])) hS hlocks dX8_writtenByte_42
    · exact absurd h29 (by decide)
