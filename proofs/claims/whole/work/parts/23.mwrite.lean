theorem vdX8_passes : yX8_passes.cls = RX8 ∧ yX8_passes.cls ≠ "java/lang/invoke/MethodHandle" ∧ yX8_passes.cls ≠ "java/lang/invoke/VarHandle" ∧ (parseMethodDescriptor yX8_passes.desc).map (fun d => d.parameters.length) = some 3 := by decide +kernel
set_option maxHeartbeats 1000000 in
set_option maxRecDepth 100000 in
theorem mX8_passes (lL : Launch) (G : GG) (o : Nat → Nat) (μ σ φ κ β ω : Int → Int) (f : Int) (a : Int) (t : Int) (hI : In σ) (hf : 0 ≤ f ∧ f < σ 2) (ha : -1 ≤ a ∧ a ≤ 7) (ht : -1 ≤ t ∧ t ≤ 7) : Met lL yX8_passes wsX8_passes ({ frames := 3, cells := 0, slots := 0, locals := 69 } : Room) (va_Pc [.ref (o 0), .int (iI f), .int (iI a), .int (iI t)] (fun U => W8 G o (mV o μ) σ φ κ β ω U.heap ∧ KK G U)) (va_Qi (fun r (_ : Unit) => r = (iI (if a = t then 0 else opS σ f 0))) (fun _ tZ => W8 G o (mV o μ) (paA σ f a t) φ κ β ω tZ.heap) (Ax o 6)) 0 0 (Ax o 6) := by
  refine z_met (P := (fun H : Heap => W8 G o (mV o μ) σ φ κ β ω H)) (by decide) rfl (Nat.le_of_ble_eq_true rfl) (fun pp ee ss mm below meth cC E hr hml hown hts hlocks hM hK ls hl => ?_)
  have hl : lv_has ls 8 [(0, .ref (o 0)), (1, .int (iI f)), (2, .int (iI a)), (3, .int (iI t))] := hl
  have hcs : 0 ≤ (({ frames := 3, cells := 0, slots := 0, locals := 69 } : Room)).cells ∧ 0 ≤ (({ frames := 3, cells := 0, slots := 0, locals := 69 } : Room)).slots := ⟨Nat.zero_le _, Nat.zero_le _⟩
  have hS : va_S (Ax o 6) ss.heap ss.heap [] := va_S.rf
  have hF := hI.F
  have hMm := hI.M
  have hGn := hI.Gn
  refine lv_iload_n (pc := 0) E.1 E.2 dX8_passes_0 rfl (lv_at hl 2 rfl) ?_
  refine lv_iload_n (pc := 1) E.1 E.2 dX8_passes_1 rfl (lv_at hl 3 rfl) ?_
  refine z_icmp_ne (pc := 2) (tgt := 7) E ⟨by omega, by omega⟩ ⟨by omega, by omega⟩ dX8_passes_2 (by decide) (fun h2 => ?_) (fun h2 => ?_)
  · refine lv_aload_n (pc := 7) E.1 E.2 dX8_passes_7 rfl (lv_at hl 0 rfl) ?_
    refine lv_iload_n (pc := 8) E.1 E.2 dX8_passes_8 rfl (lv_at hl 1 rfl) ?_
    refine z_iconst (pc := 9) E dX8_passes_9 ?_
    refine z_rVl (pc := 10) (As := [.int (iI f), .int (iI 1)]) (rest := []) E hml hown hts (mX8_openOf lL G o μ σ φ κ β ω f 1 hI (by omega) (Or.inr rfl)) (cwV 2 hts gX8_passes_X8_openOf rfl rfl rfl vdX8_openOf ⟨Nat.le_of_ble_eq_true rfl, Nat.le_of_ble_eq_true rfl⟩) (oB.recv hK hM.1 rfl) hM hK rfl hl.1 rfl dX8_passes_10 hcs (Nat.le_of_ble_eq_true rfl) ?_
    have ho1 := hI.opb f 1
    refine lv_lstore (pc := 13) (lv' := [(4, .long (iL (opS σ f 1))), (0, .ref (o 0)), (1, .int (iI f)), (2, .int (iI a)), (3, .int (iI t))]) E.1 E.2 dX8_passes_13 hl (by decide) rfl (fun ls hl => ?_)
    refine lv_aload_n (pc := 15) E.1 E.2 dX8_passes_15 rfl (lv_at hl 1 rfl) ?_
    refine lv_iload_n (pc := 16) E.1 E.2 dX8_passes_16 rfl (lv_at hl 2 rfl) ?_
    refine z_iconst (pc := 17) E dX8_passes_17 ?_
    refine z_rVl (pc := 18) (As := [.int (iI f), .int (iI 0)]) (rest := []) E hml hown hts (mX8_openOf lL G o μ σ φ κ β ω f 0 hI (by omega) (Or.inl rfl)) (cwV 2 hts gX8_passes_X8_openOf rfl rfl rfl vdX8_openOf ⟨Nat.le_of_ble_eq_true rfl, Nat.le_of_ble_eq_true rfl⟩) (oB.recv hK hM.1 rfl) hM hK rfl hl.1 rfl dX8_passes_18 hcs (Nat.le_of_ble_eq_true rfl) ?_
    have ho0 := hI.opb f 0
    refine lv_lstore (pc := 21) (lv' := [(6, .long (iL (opS σ f 0))), (4, .long (iL (opS σ f 1))), (0, .ref (o 0)), (1, .int (iI f)), (2, .int (iI a)), (3, .int (iI t))]) E.1 E.2 dX8_passes_21 hl (by decide) rfl (fun ls hl => ?_)
    refine lv_aload_n (pc := 23) E.1 E.2 dX8_passes_23 rfl (lv_at hl 2 rfl) ?_
    refine lv_iload_n (pc := 24) E.1 E.2 dX8_passes_24 rfl (lv_at hl 5 rfl) ?_
    refine lv_lload (pc := 25) E.1 E.2 dX8_passes_25 (lv_at hl 1 rfl) ?_
    refine lv_lload (pc := 27) E.1 E.2 dX8_passes_27 (lv_at hl 0 rfl) ?_
    refine z_wVv (pc := 29) (As := [.int (iI t), .long (iL (opS σ f 1)), .long (iL (opS σ f 0))]) (rest := []) E hml hown hts (mX8_counts lL G o μ σ φ κ β ω t (opS σ f 1) (opS σ f 0) hI.bd (by omega) (by omega) (by omega)) (cwV 3 hts gX8_passes_X8_counts rfl rfl rfl vdX8_counts ⟨Nat.le_of_ble_eq_true rfl, Nat.le_of_ble_eq_true rfl⟩) (oB.recv hK hM.1 rfl) hM hK hS (fun _ h => h) rfl hl.1 rfl dX8_passes_29 hcs (Nat.le_of_ble_eq_true rfl) (fun H locs hnew hsz hoth hS => ?_)
    have hM := hnew
    refine lv_aload_n (pc := 32) E.1 E.2 dX8_passes_32 rfl (lv_at hl 2 rfl) ?_
    refine lv_iload_n (pc := 33) E.1 E.2 dX8_passes_33 rfl (lv_at hl 4 rfl) ?_
    refine lv_lload (pc := 34) E.1 E.2 dX8_passes_34 (lv_at hl 1 rfl) ?_
    refine z_lneg (pc := 36) E dX8_passes_36 ?_
    refine lv_lload (pc := 37) E.1 E.2 dX8_passes_37 (lv_at hl 0 rfl) ?_
    refine z_lneg (pc := 39) E dX8_passes_39 ?_
    refine z_wVv (pc := 40) (As := [.int (iI a), .long (iL (-(opS σ f 1))), .long (iL (-(opS σ f 0)))]) (rest := []) E hml hown hts (mX8_counts lL G o μ (coA σ t (opS σ f 1) (opS σ f 0)) φ κ β ω a (-(opS σ f 1)) (-(opS σ f 0)) (coA_bd hI.bd (by omega) (by omega) (by omega) (fun k h0 h1 => (hI.acc h0 h1).2.2.1.2)) (by omega) (by omega) (by omega)) (cwV 3 hts gX8_passes_X8_counts rfl rfl rfl vdX8_counts ⟨Nat.le_of_ble_eq_true rfl, Nat.le_of_ble_eq_true rfl⟩) (oB.recv hK hM.1 rfl) hM hK hS (fun _ h => h) rfl hl.1 rfl dX8_passes_40 hcs (Nat.le_of_ble_eq_true rfl) (fun H locs hnew hsz hoth hS => ?_)
    have hM := hnew
    refine lv_lload (pc := 43) E.1 E.2 dX8_passes_43 (lv_at hl 0 rfl) ?_
    refine z_l2i (pc := 45) E dX8_passes_45 ?_
    exact z_retWi E hr (congrArg iI (by first | (rw [if_pos h2]) | (rw [if_neg h2]))) (by rw [show paA σ f a t = coA (coA σ t (opS σ f 1) (opS σ f 0)) a (-opS σ f 1) (-opS σ f 0) by unfold paA; rw [if_neg h2]]; exact hM) hS hlocks dX8_passes_46
  · refine z_iconst (pc := 5) E dX8_passes_5 ?_
    exact z_retWi E hr (congrArg iI (by first | (rw [if_pos h2]) | (rw [if_neg h2]))) (by rw [show paA σ f a t = σ by unfold paA; rw [if_pos h2]]; exact hM) hS hlocks dX8_passes_6
