theorem vdX8_load : yX8_load.cls = RX8 ∧ yX8_load.cls ≠ "java/lang/invoke/MethodHandle" ∧ yX8_load.cls ≠ "java/lang/invoke/VarHandle" ∧ (parseMethodDescriptor yX8_load.desc).map (fun d => d.parameters.length) = some 1 := by decide +kernel
theorem vdX8_share : yX8_share.cls = RX8 ∧ yX8_share.cls ≠ "java/lang/invoke/MethodHandle" ∧ yX8_share.cls ≠ "java/lang/invoke/VarHandle" ∧ (parseMethodDescriptor yX8_share.desc).map (fun d => d.parameters.length) = some 2 := by decide +kernel
theorem vdX8_saysNumber : yX8_saysNumber.cls = RX8 ∧ yX8_saysNumber.cls ≠ "java/lang/invoke/MethodHandle" ∧ yX8_saysNumber.cls ≠ "java/lang/invoke/VarHandle" ∧ (parseMethodDescriptor yX8_saysNumber.desc).map (fun d => d.parameters.length) = some 1 := by decide +kernel
theorem vdX8_saysName : yX8_saysName.cls = RX8 ∧ yX8_saysName.cls ≠ "java/lang/invoke/MethodHandle" ∧ yX8_saysName.cls ≠ "java/lang/invoke/VarHandle" ∧ (parseMethodDescriptor yX8_saysName.desc).map (fun d => d.parameters.length) = some 1 := by decide +kernel
theorem vdX8_saysPath : yX8_saysPath.cls = RX8 ∧ yX8_saysPath.cls ≠ "java/lang/invoke/MethodHandle" ∧ yX8_saysPath.cls ≠ "java/lang/invoke/VarHandle" ∧ (parseMethodDescriptor yX8_saysPath.desc).map (fun d => d.parameters.length) = some 1 := by decide +kernel
theorem vdX8_writePath : yX8_writePath.cls = RX8 ∧ yX8_writePath.cls ≠ "java/lang/invoke/MethodHandle" ∧ yX8_writePath.cls ≠ "java/lang/invoke/VarHandle" ∧ (parseMethodDescriptor yX8_writePath.desc).map (fun d => d.parameters.length) = some 1 := by decide +kernel
theorem vdX8_writeAccounts : yX8_writeAccounts.cls = RX8 ∧ yX8_writeAccounts.cls ≠ "java/lang/invoke/MethodHandle" ∧ yX8_writeAccounts.cls ≠ "java/lang/invoke/VarHandle" ∧ (parseMethodDescriptor yX8_writeAccounts.desc).map (fun d => d.parameters.length) = some 1 := by decide +kernel
set_option maxHeartbeats 1000000 in
set_option maxRecDepth 100000 in
theorem mX8_saysNumber0 (lL : Launch) (G : GG) (o : Nat → Nat) (μ σ φ κ β ω : Int → Int) (v : Int) (hv : 0 ≤ v ∧ v < 10) (hm : 0 ≤ μ 17 ∧ μ 17 + 1 ≤ 400) : Met lL yX8_saysNumber wsX8_saysNumber ({ frames := 1, cells := 0, slots := 0, locals := 21 } : Room) (va_Pc [.ref (o 0), .long (iL v)] (fun U => W8 G o (mV o μ) σ φ κ β ω U.heap ∧ KK G U)) (va_Qv (fun _ : Unit => True) (fun _ tZ => W8 G o (mV o (zu μ 17 (μ 17 + ((nuL 0 v).length : Int)))) σ φ κ β (ouA ω (μ 17) (nuL 0 v)) tZ.heap) (Ax o 6)) 0 0 (Ax o 6) := by
  refine z_met (P := (fun H : Heap => W8 G o (mV o μ) σ φ κ β ω H)) (by decide) rfl (Nat.le_of_ble_eq_true rfl) (fun pp ee ss mm below meth cC E hr hml hown hts hlocks hM hK ls hl => ?_)
  have hl : lv_has ls 3 [(0, .ref (o 0)), (1, .long (iL v))] := hl
  have hcs : 0 ≤ (({ frames := 1, cells := 0, slots := 0, locals := 21 } : Room)).cells ∧ 0 ≤ (({ frames := 1, cells := 0, slots := 0, locals := 21 } : Room)).slots := ⟨Nat.zero_le _, Nat.zero_le _⟩
  have hS : va_S (Ax o 6) ss.heap ss.heap [] := va_S.rf
  refine lv_lload_n (pc := 0) E.1 E.2 dX8_saysNumber_0 rfl (lv_at hl 1 rfl) ?_
  refine lv_ldc2 (pc := 1) (v := iL (9)) E.1 E.2 hown (show (Jvm.Cond.constantLong RX8 223 (iL (9))).before _ ss = true from (hts _ (List.mem_of_getElem? (i := 1) rfl))) dX8_saysNumber_1 ?_
  refine z_lcmp_le (pc := 4) (tgt := 17) E ⟨by omega, by omega⟩ (by decide) dX8_saysNumber_4 dX8_saysNumber_5 (by decide) (fun h4 => ?_) (fun h4 => ?_)
  · refine lv_aload_n (pc := 17) E.1 E.2 dX8_saysNumber_17 rfl (lv_at hl 0 rfl) ?_
    refine z_bipush (pc := 18) E (by decide) dX8_saysNumber_18 ?_
    refine lv_lload_n (pc := 20) E.1 E.2 dX8_saysNumber_20 rfl (lv_at hl 1 rfl) ?_
    refine lv_ldc2 (pc := 21) (v := iL (10)) E.1 E.2 hown (show (Jvm.Cond.constantLong RX8 39 (iL (10))).before _ ss = true from (hts _ (List.mem_of_getElem? (i := 2) rfl))) dX8_saysNumber_21 ?_
    refine z_lremN (pc := 24) E ⟨by omega, by omega⟩ ⟨by omega, by omega⟩ dX8_saysNumber_24 ?_
    refine z_l2i (pc := 25) E dX8_saysNumber_25 ?_
    refine z_iadd (pc := 26) E dX8_saysNumber_26 ?_
    refine z_wVv (pc := 27) (As := [.int (iI (48 + (v % 10)))]) (rest := []) E hml hown hts (mX8_says lL G o μ σ φ κ β ω (48 + (v % 10)) (by omega) (by omega)) (cwV 1 hts gX8_saysNumber_X8_says rfl rfl rfl vdX8_says ⟨Nat.le_of_ble_eq_true rfl, Nat.le_of_ble_eq_true rfl⟩) (oB.recv hK hM.1 rfl) hM hK hS (fun _ h => h) rfl hl.1 rfl dX8_saysNumber_27 hcs (Nat.le_of_ble_eq_true rfl) (fun H locs hnew hsz hoth hS => ?_)
    have hM : W8 G o [.ref (o 1), .ref (o 2), .ref (o 3), .int (iI (μ 3)), .int (iI (μ 4)), .ref (o 4), .int (iI (μ 6)), .int (iI (μ 7)), .int (iI (μ 8)), .int (iI (μ 9)), .int (iI (μ 10)), .int (iI (μ 11)), .int (iI (μ 12)), .int (iI (μ 13)), .int (iI (μ 14)), .long (iL (μ 15)), .ref (o 5), .int (iI (μ 17 + 1))] σ φ κ β (zu ω (μ 17) (48 + (v % 10))) H := W8.eq hnew (by simp only [mV, zu, Int.reduceEq, reduceIte])
    exact z_retWv E hr (by rw [show nuL 0 v = [48 + v % 10] from rfl]; exact W8.mu hM (by simp only [mV, zu, Int.reduceEq, reduceIte]; rfl)) hS hlocks dX8_saysNumber_30
  · exact absurd h4 (by omega)
set_option maxHeartbeats 1000000 in
set_option maxRecDepth 100000 in
theorem mX8_saysNumber1 (lL : Launch) (G : GG) (o : Nat → Nat) (μ σ φ κ β ω : Int → Int) (v : Int) (hv : 0 ≤ v ∧ v < 100) (hm : 0 ≤ μ 17 ∧ μ 17 + 2 ≤ 400) : Met lL yX8_saysNumber wsX8_saysNumber ({ frames := 2, cells := 0, slots := 0, locals := 43 } : Room) (va_Pc [.ref (o 0), .long (iL v)] (fun U => W8 G o (mV o μ) σ φ κ β ω U.heap ∧ KK G U)) (va_Qv (fun _ : Unit => True) (fun _ tZ => W8 G o (mV o (zu μ 17 (μ 17 + ((nuL 1 v).length : Int)))) σ φ κ β (ouA ω (μ 17) (nuL 1 v)) tZ.heap) (Ax o 6)) 0 0 (Ax o 6) := by
  refine z_met (P := (fun H : Heap => W8 G o (mV o μ) σ φ κ β ω H)) (by decide) rfl (Nat.le_of_ble_eq_true rfl) (fun pp ee ss mm below meth cC E hr hml hown hts hlocks hM hK ls hl => ?_)
  have hl : lv_has ls 3 [(0, .ref (o 0)), (1, .long (iL v))] := hl
  have hcs : 0 ≤ (({ frames := 2, cells := 0, slots := 0, locals := 43 } : Room)).cells ∧ 0 ≤ (({ frames := 2, cells := 0, slots := 0, locals := 43 } : Room)).slots := ⟨Nat.zero_le _, Nat.zero_le _⟩
  have hS : va_S (Ax o 6) ss.heap ss.heap [] := va_S.rf
  refine lv_lload_n (pc := 0) E.1 E.2 dX8_saysNumber_0 rfl (lv_at hl 1 rfl) ?_
  refine lv_ldc2 (pc := 1) (v := iL (9)) E.1 E.2 hown (show (Jvm.Cond.constantLong RX8 223 (iL (9))).before _ ss = true from (hts _ (List.mem_of_getElem? (i := 1) rfl))) dX8_saysNumber_1 ?_
  refine z_lcmp_le (pc := 4) (tgt := 17) E ⟨by omega, by omega⟩ (by decide) dX8_saysNumber_4 dX8_saysNumber_5 (by decide) (fun h4 => ?_) (fun h4 => ?_)
  · refine lv_aload_n (pc := 17) E.1 E.2 dX8_saysNumber_17 rfl (lv_at hl 0 rfl) ?_
    refine z_bipush (pc := 18) E (by decide) dX8_saysNumber_18 ?_
    refine lv_lload_n (pc := 20) E.1 E.2 dX8_saysNumber_20 rfl (lv_at hl 1 rfl) ?_
    refine lv_ldc2 (pc := 21) (v := iL (10)) E.1 E.2 hown (show (Jvm.Cond.constantLong RX8 39 (iL (10))).before _ ss = true from (hts _ (List.mem_of_getElem? (i := 2) rfl))) dX8_saysNumber_21 ?_
    refine z_lremN (pc := 24) E ⟨by omega, by omega⟩ ⟨by omega, by omega⟩ dX8_saysNumber_24 ?_
    refine z_l2i (pc := 25) E dX8_saysNumber_25 ?_
    refine z_iadd (pc := 26) E dX8_saysNumber_26 ?_
    refine z_wVv (pc := 27) (As := [.int (iI (48 + (v % 10)))]) (rest := []) E hml hown hts (mX8_says lL G o μ σ φ κ β ω (48 + (v % 10)) (by omega) (by omega)) (cwV 1 hts gX8_saysNumber_X8_says rfl rfl rfl vdX8_says ⟨Nat.le_of_ble_eq_true rfl, Nat.le_of_ble_eq_true rfl⟩) (oB.recv hK hM.1 rfl) hM hK hS (fun _ h => h) rfl hl.1 rfl dX8_saysNumber_27 hcs (Nat.le_of_ble_eq_true rfl) (fun H locs hnew hsz hoth hS => ?_)
    have hM : W8 G o [.ref (o 1), .ref (o 2), .ref (o 3), .int (iI (μ 3)), .int (iI (μ 4)), .ref (o 4), .int (iI (μ 6)), .int (iI (μ 7)), .int (iI (μ 8)), .int (iI (μ 9)), .int (iI (μ 10)), .int (iI (μ 11)), .int (iI (μ 12)), .int (iI (μ 13)), .int (iI (μ 14)), .long (iL (μ 15)), .ref (o 5), .int (iI (μ 17 + 1))] σ φ κ β (zu ω (μ 17) (48 + (v % 10))) H := W8.eq hnew (by simp only [mV, zu, Int.reduceEq, reduceIte])
    exact z_retWv E hr (by rw [show nuL 1 v = [48 + v % 10] from if_neg (by omega)]; exact W8.mu hM (by simp only [mV, zu, Int.reduceEq, reduceIte]; rfl)) hS hlocks dX8_saysNumber_30
  · refine lv_aload_n (pc := 8) E.1 E.2 dX8_saysNumber_8 rfl (lv_at hl 0 rfl) ?_
    refine lv_lload_n (pc := 9) E.1 E.2 dX8_saysNumber_9 rfl (lv_at hl 1 rfl) ?_
    refine lv_ldc2 (pc := 10) (v := iL (10)) E.1 E.2 hown (show (Jvm.Cond.constantLong RX8 39 (iL (10))).before _ ss = true from (hts _ (List.mem_of_getElem? (i := 2) rfl))) dX8_saysNumber_10 ?_
    refine z_ldivN (pc := 13) E ⟨by omega, by omega⟩ ⟨by omega, by omega⟩ dX8_saysNumber_13 ?_
    refine z_wVv (pc := 14) (As := [.long (iL (v / 10))]) (rest := []) E hml hown hts (mX8_saysNumber0 lL G o μ σ φ κ β ω (v / 10) (by omega) (by omega)) (cwV 1 hts gX8_saysNumber_X8_saysNumber rfl rfl rfl vdX8_saysNumber ⟨Nat.le_of_ble_eq_true rfl, Nat.le_of_ble_eq_true rfl⟩) (oB.recv hK hM.1 rfl) hM hK hS (fun _ h => h) rfl hl.1 rfl dX8_saysNumber_14 hcs (Nat.le_of_ble_eq_true rfl) (fun H locs hnew hsz hoth hS => ?_)
    have hM : W8 G o [.ref (o 1), .ref (o 2), .ref (o 3), .int (iI (μ 3)), .int (iI (μ 4)), .ref (o 4), .int (iI (μ 6)), .int (iI (μ 7)), .int (iI (μ 8)), .int (iI (μ 9)), .int (iI (μ 10)), .int (iI (μ 11)), .int (iI (μ 12)), .int (iI (μ 13)), .int (iI (μ 14)), .long (iL (μ 15)), .ref (o 5), .int (iI (μ 17 + ((nuL 0 (v / 10)).length : Int)))] σ φ κ β (ouA ω (μ 17) (nuL 0 (v / 10))) H := W8.eq hnew (by simp only [mV, zu, Int.reduceEq, reduceIte])
    have hlb := nuL_b 0 (v / 10)
    refine lv_aload_n (pc := 17) E.1 E.2 dX8_saysNumber_17 rfl (lv_at hl 0 rfl) ?_
    refine z_bipush (pc := 18) E (by decide) dX8_saysNumber_18 ?_
    refine lv_lload_n (pc := 20) E.1 E.2 dX8_saysNumber_20 rfl (lv_at hl 1 rfl) ?_
    refine lv_ldc2 (pc := 21) (v := iL (10)) E.1 E.2 hown (show (Jvm.Cond.constantLong RX8 39 (iL (10))).before _ ss = true from (hts _ (List.mem_of_getElem? (i := 2) rfl))) dX8_saysNumber_21 ?_
    refine z_lremN (pc := 24) E ⟨by omega, by omega⟩ ⟨by omega, by omega⟩ dX8_saysNumber_24 ?_
    refine z_l2i (pc := 25) E dX8_saysNumber_25 ?_
    refine z_iadd (pc := 26) E dX8_saysNumber_26 ?_
    refine z_wVv (pc := 27) (As := [.int (iI (48 + (v % 10)))]) (rest := []) E hml hown hts (mX8_says lL G o (zu μ 17 (μ 17 + ((nuL 0 (v / 10)).length : Int))) σ φ κ β (ouA ω (μ 17) (nuL 0 (v / 10))) (48 + (v % 10)) (by first | omega | (simp only [zu, Int.reduceEq, reduceIte]; omega)) (by first | omega | (simp only [zu, Int.reduceEq, reduceIte]; omega))) (cwV 1 hts gX8_saysNumber_X8_says rfl rfl rfl vdX8_says ⟨Nat.le_of_ble_eq_true rfl, Nat.le_of_ble_eq_true rfl⟩) (oB.recv hK hM.1 rfl) (W8.mu hM (by simp only [mV, zu, Int.reduceEq, reduceIte])) hK hS (fun _ h => h) rfl hl.1 rfl dX8_saysNumber_27 hcs (Nat.le_of_ble_eq_true rfl) (fun H locs hnew hsz hoth hS => ?_)
    have hM : W8 G o [.ref (o 1), .ref (o 2), .ref (o 3), .int (iI (μ 3)), .int (iI (μ 4)), .ref (o 4), .int (iI (μ 6)), .int (iI (μ 7)), .int (iI (μ 8)), .int (iI (μ 9)), .int (iI (μ 10)), .int (iI (μ 11)), .int (iI (μ 12)), .int (iI (μ 13)), .int (iI (μ 14)), .long (iL (μ 15)), .ref (o 5), .int (iI ((μ 17 + ((nuL 0 (v / 10)).length : Int)) + 1))] σ φ κ β (zu (ouA ω (μ 17) (nuL 0 (v / 10))) ((μ 17 + ((nuL 0 (v / 10)).length : Int))) (48 + (v % 10))) H := W8.eq hnew (by simp only [mV, zu, Int.reduceEq, reduceIte])
    exact z_retWv E hr (by rw [show nuL 1 v = nuL 0 (v / 10) ++ [48 + v % 10] from if_pos (by omega), ← ouA_2]; exact W8.mu hM (by rw [← ouA_l2]; simp only [mV, zu, Int.reduceEq, reduceIte])) hS hlocks dX8_saysNumber_30
set_option maxHeartbeats 1000000 in
set_option maxRecDepth 100000 in
theorem mX8_saysNumber2 (lL : Launch) (G : GG) (o : Nat → Nat) (μ σ φ κ β ω : Int → Int) (v : Int) (hv : 0 ≤ v ∧ v < 1000) (hm : 0 ≤ μ 17 ∧ μ 17 + 3 ≤ 400) : Met lL yX8_saysNumber wsX8_saysNumber ({ frames := 3, cells := 0, slots := 0, locals := 65 } : Room) (va_Pc [.ref (o 0), .long (iL v)] (fun U => W8 G o (mV o μ) σ φ κ β ω U.heap ∧ KK G U)) (va_Qv (fun _ : Unit => True) (fun _ tZ => W8 G o (mV o (zu μ 17 (μ 17 + ((nuL 2 v).length : Int)))) σ φ κ β (ouA ω (μ 17) (nuL 2 v)) tZ.heap) (Ax o 6)) 0 0 (Ax o 6) := by
  refine z_met (P := (fun H : Heap => W8 G o (mV o μ) σ φ κ β ω H)) (by decide) rfl (Nat.le_of_ble_eq_true rfl) (fun pp ee ss mm below meth cC E hr hml hown hts hlocks hM hK ls hl => ?_)
  have hl : lv_has ls 3 [(0, .ref (o 0)), (1, .long (iL v))] := hl
  have hcs : 0 ≤ (({ frames := 3, cells := 0, slots := 0, locals := 65 } : Room)).cells ∧ 0 ≤ (({ frames := 3, cells := 0, slots := 0, locals := 65 } : Room)).slots := ⟨Nat.zero_le _, Nat.zero_le _⟩
  have hS : va_S (Ax o 6) ss.heap ss.heap [] := va_S.rf
  refine lv_lload_n (pc := 0) E.1 E.2 dX8_saysNumber_0 rfl (lv_at hl 1 rfl) ?_
  refine lv_ldc2 (pc := 1) (v := iL (9)) E.1 E.2 hown (show (Jvm.Cond.constantLong RX8 223 (iL (9))).before _ ss = true from (hts _ (List.mem_of_getElem? (i := 1) rfl))) dX8_saysNumber_1 ?_
  refine z_lcmp_le (pc := 4) (tgt := 17) E ⟨by omega, by omega⟩ (by decide) dX8_saysNumber_4 dX8_saysNumber_5 (by decide) (fun h4 => ?_) (fun h4 => ?_)
  · refine lv_aload_n (pc := 17) E.1 E.2 dX8_saysNumber_17 rfl (lv_at hl 0 rfl) ?_
    refine z_bipush (pc := 18) E (by decide) dX8_saysNumber_18 ?_
    refine lv_lload_n (pc := 20) E.1 E.2 dX8_saysNumber_20 rfl (lv_at hl 1 rfl) ?_
    refine lv_ldc2 (pc := 21) (v := iL (10)) E.1 E.2 hown (show (Jvm.Cond.constantLong RX8 39 (iL (10))).before _ ss = true from (hts _ (List.mem_of_getElem? (i := 2) rfl))) dX8_saysNumber_21 ?_
    refine z_lremN (pc := 24) E ⟨by omega, by omega⟩ ⟨by omega, by omega⟩ dX8_saysNumber_24 ?_
    refine z_l2i (pc := 25) E dX8_saysNumber_25 ?_
    refine z_iadd (pc := 26) E dX8_saysNumber_26 ?_
    refine z_wVv (pc := 27) (As := [.int (iI (48 + (v % 10)))]) (rest := []) E hml hown hts (mX8_says lL G o μ σ φ κ β ω (48 + (v % 10)) (by omega) (by omega)) (cwV 1 hts gX8_saysNumber_X8_says rfl rfl rfl vdX8_says ⟨Nat.le_of_ble_eq_true rfl, Nat.le_of_ble_eq_true rfl⟩) (oB.recv hK hM.1 rfl) hM hK hS (fun _ h => h) rfl hl.1 rfl dX8_saysNumber_27 hcs (Nat.le_of_ble_eq_true rfl) (fun H locs hnew hsz hoth hS => ?_)
    have hM : W8 G o [.ref (o 1), .ref (o 2), .ref (o 3), .int (iI (μ 3)), .int (iI (μ 4)), .ref (o 4), .int (iI (μ 6)), .int (iI (μ 7)), .int (iI (μ 8)), .int (iI (μ 9)), .int (iI (μ 10)), .int (iI (μ 11)), .int (iI (μ 12)), .int (iI (μ 13)), .int (iI (μ 14)), .long (iL (μ 15)), .ref (o 5), .int (iI (μ 17 + 1))] σ φ κ β (zu ω (μ 17) (48 + (v % 10))) H := W8.eq hnew (by simp only [mV, zu, Int.reduceEq, reduceIte])
    exact z_retWv E hr (by rw [show nuL 2 v = [48 + v % 10] from if_neg (by omega)]; exact W8.mu hM (by simp only [mV, zu, Int.reduceEq, reduceIte]; rfl)) hS hlocks dX8_saysNumber_30
  · refine lv_aload_n (pc := 8) E.1 E.2 dX8_saysNumber_8 rfl (lv_at hl 0 rfl) ?_
    refine lv_lload_n (pc := 9) E.1 E.2 dX8_saysNumber_9 rfl (lv_at hl 1 rfl) ?_
    refine lv_ldc2 (pc := 10) (v := iL (10)) E.1 E.2 hown (show (Jvm.Cond.constantLong RX8 39 (iL (10))).before _ ss = true from (hts _ (List.mem_of_getElem? (i := 2) rfl))) dX8_saysNumber_10 ?_
    refine z_ldivN (pc := 13) E ⟨by omega, by omega⟩ ⟨by omega, by omega⟩ dX8_saysNumber_13 ?_
    refine z_wVv (pc := 14) (As := [.long (iL (v / 10))]) (rest := []) E hml hown hts (mX8_saysNumber1 lL G o μ σ φ κ β ω (v / 10) (by omega) (by omega)) (cwV 1 hts gX8_saysNumber_X8_saysNumber rfl rfl rfl vdX8_saysNumber ⟨Nat.le_of_ble_eq_true rfl, Nat.le_of_ble_eq_true rfl⟩) (oB.recv hK hM.1 rfl) hM hK hS (fun _ h => h) rfl hl.1 rfl dX8_saysNumber_14 hcs (Nat.le_of_ble_eq_true rfl) (fun H locs hnew hsz hoth hS => ?_)
    have hM : W8 G o [.ref (o 1), .ref (o 2), .ref (o 3), .int (iI (μ 3)), .int (iI (μ 4)), .ref (o 4), .int (iI (μ 6)), .int (iI (μ 7)), .int (iI (μ 8)), .int (iI (μ 9)), .int (iI (μ 10)), .int (iI (μ 11)), .int (iI (μ 12)), .int (iI (μ 13)), .int (iI (μ 14)), .long (iL (μ 15)), .ref (o 5), .int (iI (μ 17 + ((nuL 1 (v / 10)).length : Int)))] σ φ κ β (ouA ω (μ 17) (nuL 1 (v / 10))) H := W8.eq hnew (by simp only [mV, zu, Int.reduceEq, reduceIte])
    have hlb := nuL_b 1 (v / 10)
    refine lv_aload_n (pc := 17) E.1 E.2 dX8_saysNumber_17 rfl (lv_at hl 0 rfl) ?_
    refine z_bipush (pc := 18) E (by decide) dX8_saysNumber_18 ?_
    refine lv_lload_n (pc := 20) E.1 E.2 dX8_saysNumber_20 rfl (lv_at hl 1 rfl) ?_
    refine lv_ldc2 (pc := 21) (v := iL (10)) E.1 E.2 hown (show (Jvm.Cond.constantLong RX8 39 (iL (10))).before _ ss = true from (hts _ (List.mem_of_getElem? (i := 2) rfl))) dX8_saysNumber_21 ?_
    refine z_lremN (pc := 24) E ⟨by omega, by omega⟩ ⟨by omega, by omega⟩ dX8_saysNumber_24 ?_
    refine z_l2i (pc := 25) E dX8_saysNumber_25 ?_
    refine z_iadd (pc := 26) E dX8_saysNumber_26 ?_
    refine z_wVv (pc := 27) (As := [.int (iI (48 + (v % 10)))]) (rest := []) E hml hown hts (mX8_says lL G o (zu μ 17 (μ 17 + ((nuL 1 (v / 10)).length : Int))) σ φ κ β (ouA ω (μ 17) (nuL 1 (v / 10))) (48 + (v % 10)) (by first | omega | (simp only [zu, Int.reduceEq, reduceIte]; omega)) (by first | omega | (simp only [zu, Int.reduceEq, reduceIte]; omega))) (cwV 1 hts gX8_saysNumber_X8_says rfl rfl rfl vdX8_says ⟨Nat.le_of_ble_eq_true rfl, Nat.le_of_ble_eq_true rfl⟩) (oB.recv hK hM.1 rfl) (W8.mu hM (by simp only [mV, zu, Int.reduceEq, reduceIte])) hK hS (fun _ h => h) rfl hl.1 rfl dX8_saysNumber_27 hcs (Nat.le_of_ble_eq_true rfl) (fun H locs hnew hsz hoth hS => ?_)
    have hM : W8 G o [.ref (o 1), .ref (o 2), .ref (o 3), .int (iI (μ 3)), .int (iI (μ 4)), .ref (o 4), .int (iI (μ 6)), .int (iI (μ 7)), .int (iI (μ 8)), .int (iI (μ 9)), .int (iI (μ 10)), .int (iI (μ 11)), .int (iI (μ 12)), .int (iI (μ 13)), .int (iI (μ 14)), .long (iL (μ 15)), .ref (o 5), .int (iI ((μ 17 + ((nuL 1 (v / 10)).length : Int)) + 1))] σ φ κ β (zu (ouA ω (μ 17) (nuL 1 (v / 10))) ((μ 17 + ((nuL 1 (v / 10)).length : Int))) (48 + (v % 10))) H := W8.eq hnew (by simp only [mV, zu, Int.reduceEq, reduceIte])
    exact z_retWv E hr (by rw [show nuL 2 v = nuL 1 (v / 10) ++ [48 + v % 10] from if_pos (by omega), ← ouA_2]; exact W8.mu hM (by rw [← ouA_l2]; simp only [mV, zu, Int.reduceEq, reduceIte])) hS hlocks dX8_saysNumber_30
set_option maxHeartbeats 1000000 in
set_option maxRecDepth 100000 in
theorem mX8_saysNumber3 (lL : Launch) (G : GG) (o : Nat → Nat) (μ σ φ κ β ω : Int → Int) (v : Int) (hv : 0 ≤ v ∧ v < 10000) (hm : 0 ≤ μ 17 ∧ μ 17 + 4 ≤ 400) : Met lL yX8_saysNumber wsX8_saysNumber ({ frames := 4, cells := 0, slots := 0, locals := 87 } : Room) (va_Pc [.ref (o 0), .long (iL v)] (fun U => W8 G o (mV o μ) σ φ κ β ω U.heap ∧ KK G U)) (va_Qv (fun _ : Unit => True) (fun _ tZ => W8 G o (mV o (zu μ 17 (μ 17 + ((nuL 3 v).length : Int)))) σ φ κ β (ouA ω (μ 17) (nuL 3 v)) tZ.heap) (Ax o 6)) 0 0 (Ax o 6) := by
  refine z_met (P := (fun H : Heap => W8 G o (mV o μ) σ φ κ β ω H)) (by decide) rfl (Nat.le_of_ble_eq_true rfl) (fun pp ee ss mm below meth cC E hr hml hown hts hlocks hM hK ls hl => ?_)
  have hl : lv_has ls 3 [(0, .ref (o 0)), (1, .long (iL v))] := hl
  have hcs : 0 ≤ (({ frames := 4, cells := 0, slots := 0, locals := 87 } : Room)).cells ∧ 0 ≤ (({ frames := 4, cells := 0, slots := 0, locals := 87 } : Room)).slots := ⟨Nat.zero_le _, Nat.zero_le _⟩
  have hS : va_S (Ax o 6) ss.heap ss.heap [] := va_S.rf
  refine lv_lload_n (pc := 0) E.1 E.2 dX8_saysNumber_0 rfl (lv_at hl 1 rfl) ?_
  refine lv_ldc2 (pc := 1) (v := iL (9)) E.1 E.2 hown (show (Jvm.Cond.constantLong RX8 223 (iL (9))).before _ ss = true from (hts _ (List.mem_of_getElem? (i := 1) rfl))) dX8_saysNumber_1 ?_
  refine z_lcmp_le (pc := 4) (tgt := 17) E ⟨by omega, by omega⟩ (by decide) dX8_saysNumber_4 dX8_saysNumber_5 (by decide) (fun h4 => ?_) (fun h4 => ?_)
  · refine lv_aload_n (pc := 17) E.1 E.2 dX8_saysNumber_17 rfl (lv_at hl 0 rfl) ?_
    refine z_bipush (pc := 18) E (by decide) dX8_saysNumber_18 ?_
    refine lv_lload_n (pc := 20) E.1 E.2 dX8_saysNumber_20 rfl (lv_at hl 1 rfl) ?_
    refine lv_ldc2 (pc := 21) (v := iL (10)) E.1 E.2 hown (show (Jvm.Cond.constantLong RX8 39 (iL (10))).before _ ss = true from (hts _ (List.mem_of_getElem? (i := 2) rfl))) dX8_saysNumber_21 ?_
    refine z_lremN (pc := 24) E ⟨by omega, by omega⟩ ⟨by omega, by omega⟩ dX8_saysNumber_24 ?_
    refine z_l2i (pc := 25) E dX8_saysNumber_25 ?_
    refine z_iadd (pc := 26) E dX8_saysNumber_26 ?_
    refine z_wVv (pc := 27) (As := [.int (iI (48 + (v % 10)))]) (rest := []) E hml hown hts (mX8_says lL G o μ σ φ κ β ω (48 + (v % 10)) (by omega) (by omega)) (cwV 1 hts gX8_saysNumber_X8_says rfl rfl rfl vdX8_says ⟨Nat.le_of_ble_eq_true rfl, Nat.le_of_ble_eq_true rfl⟩) (oB.recv hK hM.1 rfl) hM hK hS (fun _ h => h) rfl hl.1 rfl dX8_saysNumber_27 hcs (Nat.le_of_ble_eq_true rfl) (fun H locs hnew hsz hoth hS => ?_)
    have hM : W8 G o [.ref (o 1), .ref (o 2), .ref (o 3), .int (iI (μ 3)), .int (iI (μ 4)), .ref (o 4), .int (iI (μ 6)), .int (iI (μ 7)), .int (iI (μ 8)), .int (iI (μ 9)), .int (iI (μ 10)), .int (iI (μ 11)), .int (iI (μ 12)), .int (iI (μ 13)), .int (iI (μ 14)), .long (iL (μ 15)), .ref (o 5), .int (iI (μ 17 + 1))] σ φ κ β (zu ω (μ 17) (48 + (v % 10))) H := W8.eq hnew (by simp only [mV, zu, Int.reduceEq, reduceIte])
    exact z_retWv E hr (by rw [show nuL 3 v = [48 + v % 10] from if_neg (by omega)]; exact W8.mu hM (by simp only [mV, zu, Int.reduceEq, reduceIte]; rfl)) hS hlocks dX8_saysNumber_30
  · refine lv_aload_n (pc := 8) E.1 E.2 dX8_saysNumber_8 rfl (lv_at hl 0 rfl) ?_
    refine lv_lload_n (pc := 9) E.1 E.2 dX8_saysNumber_9 rfl (lv_at hl 1 rfl) ?_
    refine lv_ldc2 (pc := 10) (v := iL (10)) E.1 E.2 hown (show (Jvm.Cond.constantLong RX8 39 (iL (10))).before _ ss = true from (hts _ (List.mem_of_getElem? (i := 2) rfl))) dX8_saysNumber_10 ?_
    refine z_ldivN (pc := 13) E ⟨by omega, by omega⟩ ⟨by omega, by omega⟩ dX8_saysNumber_13 ?_
    refine z_wVv (pc := 14) (As := [.long (iL (v / 10))]) (rest := []) E hml hown hts (mX8_saysNumber2 lL G o μ σ φ κ β ω (v / 10) (by omega) (by omega)) (cwV 1 hts gX8_saysNumber_X8_saysNumber rfl rfl rfl vdX8_saysNumber ⟨Nat.le_of_ble_eq_true rfl, Nat.le_of_ble_eq_true rfl⟩) (oB.recv hK hM.1 rfl) hM hK hS (fun _ h => h) rfl hl.1 rfl dX8_saysNumber_14 hcs (Nat.le_of_ble_eq_true rfl) (fun H locs hnew hsz hoth hS => ?_)
    have hM : W8 G o [.ref (o 1), .ref (o 2), .ref (o 3), .int (iI (μ 3)), .int (iI (μ 4)), .ref (o 4), .int (iI (μ 6)), .int (iI (μ 7)), .int (iI (μ 8)), .int (iI (μ 9)), .int (iI (μ 10)), .int (iI (μ 11)), .int (iI (μ 12)), .int (iI (μ 13)), .int (iI (μ 14)), .long (iL (μ 15)), .ref (o 5), .int (iI (μ 17 + ((nuL 2 (v / 10)).length : Int)))] σ φ κ β (ouA ω (μ 17) (nuL 2 (v / 10))) H := W8.eq hnew (by simp only [mV, zu, Int.reduceEq, reduceIte])
    have hlb := nuL_b 2 (v / 10)
    refine lv_aload_n (pc := 17) E.1 E.2 dX8_saysNumber_17 rfl (lv_at hl 0 rfl) ?_
    refine z_bipush (pc := 18) E (by decide) dX8_saysNumber_18 ?_
    refine lv_lload_n (pc := 20) E.1 E.2 dX8_saysNumber_20 rfl (lv_at hl 1 rfl) ?_
    refine lv_ldc2 (pc := 21) (v := iL (10)) E.1 E.2 hown (show (Jvm.Cond.constantLong RX8 39 (iL (10))).before _ ss = true from (hts _ (List.mem_of_getElem? (i := 2) rfl))) dX8_saysNumber_21 ?_
    refine z_lremN (pc := 24) E ⟨by omega, by omega⟩ ⟨by omega, by omega⟩ dX8_saysNumber_24 ?_
    refine z_l2i (pc := 25) E dX8_saysNumber_25 ?_
    refine z_iadd (pc := 26) E dX8_saysNumber_26 ?_
    refine z_wVv (pc := 27) (As := [.int (iI (48 + (v % 10)))]) (rest := []) E hml hown hts (mX8_says lL G o (zu μ 17 (μ 17 + ((nuL 2 (v / 10)).length : Int))) σ φ κ β (ouA ω (μ 17) (nuL 2 (v / 10))) (48 + (v % 10)) (by first | omega | (simp only [zu, Int.reduceEq, reduceIte]; omega)) (by first | omega | (simp only [zu, Int.reduceEq, reduceIte]; omega))) (cwV 1 hts gX8_saysNumber_X8_says rfl rfl rfl vdX8_says ⟨Nat.le_of_ble_eq_true rfl, Nat.le_of_ble_eq_true rfl⟩) (oB.recv hK hM.1 rfl) (W8.mu hM (by simp only [mV, zu, Int.reduceEq, reduceIte])) hK hS (fun _ h => h) rfl hl.1 rfl dX8_saysNumber_27 hcs (Nat.le_of_ble_eq_true rfl) (fun H locs hnew hsz hoth hS => ?_)
    have hM : W8 G o [.ref (o 1), .ref (o 2), .ref (o 3), .int (iI (μ 3)), .int (iI (μ 4)), .ref (o 4), .int (iI (μ 6)), .int (iI (μ 7)), .int (iI (μ 8)), .int (iI (μ 9)), .int (iI (μ 10)), .int (iI (μ 11)), .int (iI (μ 12)), .int (iI (μ 13)), .int (iI (μ 14)), .long (iL (μ 15)), .ref (o 5), .int (iI ((μ 17 + ((nuL 2 (v / 10)).length : Int)) + 1))] σ φ κ β (zu (ouA ω (μ 17) (nuL 2 (v / 10))) ((μ 17 + ((nuL 2 (v / 10)).length : Int))) (48 + (v % 10))) H := W8.eq hnew (by simp only [mV, zu, Int.reduceEq, reduceIte])
    exact z_retWv E hr (by rw [show nuL 3 v = nuL 2 (v / 10) ++ [48 + v % 10] from if_pos (by omega), ← ouA_2]; exact W8.mu hM (by rw [← ouA_l2]; simp only [mV, zu, Int.reduceEq, reduceIte])) hS hlocks dX8_saysNumber_30
set_option maxHeartbeats 1000000 in
set_option maxRecDepth 100000 in
theorem mX8_saysNumber4 (lL : Launch) (G : GG) (o : Nat → Nat) (μ σ φ κ β ω : Int → Int) (v : Int) (hv : 0 ≤ v ∧ v < 100000) (hm : 0 ≤ μ 17 ∧ μ 17 + 5 ≤ 400) : Met lL yX8_saysNumber wsX8_saysNumber ({ frames := 5, cells := 0, slots := 0, locals := 109 } : Room) (va_Pc [.ref (o 0), .long (iL v)] (fun U => W8 G o (mV o μ) σ φ κ β ω U.heap ∧ KK G U)) (va_Qv (fun _ : Unit => True) (fun _ tZ => W8 G o (mV o (zu μ 17 (μ 17 + ((nuL 4 v).length : Int)))) σ φ κ β (ouA ω (μ 17) (nuL 4 v)) tZ.heap) (Ax o 6)) 0 0 (Ax o 6) := by
  refine z_met (P := (fun H : Heap => W8 G o (mV o μ) σ φ κ β ω H)) (by decide) rfl (Nat.le_of_ble_eq_true rfl) (fun pp ee ss mm below meth cC E hr hml hown hts hlocks hM hK ls hl => ?_)
  have hl : lv_has ls 3 [(0, .ref (o 0)), (1, .long (iL v))] := hl
  have hcs : 0 ≤ (({ frames := 5, cells := 0, slots := 0, locals := 109 } : Room)).cells ∧ 0 ≤ (({ frames := 5, cells := 0, slots := 0, locals := 109 } : Room)).slots := ⟨Nat.zero_le _, Nat.zero_le _⟩
  have hS : va_S (Ax o 6) ss.heap ss.heap [] := va_S.rf
  refine lv_lload_n (pc := 0) E.1 E.2 dX8_saysNumber_0 rfl (lv_at hl 1 rfl) ?_
  refine lv_ldc2 (pc := 1) (v := iL (9)) E.1 E.2 hown (show (Jvm.Cond.constantLong RX8 223 (iL (9))).before _ ss = true from (hts _ (List.mem_of_getElem? (i := 1) rfl))) dX8_saysNumber_1 ?_
  refine z_lcmp_le (pc := 4) (tgt := 17) E ⟨by omega, by omega⟩ (by decide) dX8_saysNumber_4 dX8_saysNumber_5 (by decide) (fun h4 => ?_) (fun h4 => ?_)
  · refine lv_aload_n (pc := 17) E.1 E.2 dX8_saysNumber_17 rfl (lv_at hl 0 rfl) ?_
    refine z_bipush (pc := 18) E (by decide) dX8_saysNumber_18 ?_
    refine lv_lload_n (pc := 20) E.1 E.2 dX8_saysNumber_20 rfl (lv_at hl 1 rfl) ?_
    refine lv_ldc2 (pc := 21) (v := iL (10)) E.1 E.2 hown (show (Jvm.Cond.constantLong RX8 39 (iL (10))).before _ ss = true from (hts _ (List.mem_of_getElem? (i := 2) rfl))) dX8_saysNumber_21 ?_
    refine z_lremN (pc := 24) E ⟨by omega, by omega⟩ ⟨by omega, by omega⟩ dX8_saysNumber_24 ?_
    refine z_l2i (pc := 25) E dX8_saysNumber_25 ?_
    refine z_iadd (pc := 26) E dX8_saysNumber_26 ?_
    refine z_wVv (pc := 27) (As := [.int (iI (48 + (v % 10)))]) (rest := []) E hml hown hts (mX8_says lL G o μ σ φ κ β ω (48 + (v % 10)) (by omega) (by omega)) (cwV 1 hts gX8_saysNumber_X8_says rfl rfl rfl vdX8_says ⟨Nat.le_of_ble_eq_true rfl, Nat.le_of_ble_eq_true rfl⟩) (oB.recv hK hM.1 rfl) hM hK hS (fun _ h => h) rfl hl.1 rfl dX8_saysNumber_27 hcs (Nat.le_of_ble_eq_true rfl) (fun H locs hnew hsz hoth hS => ?_)
    have hM : W8 G o [.ref (o 1), .ref (o 2), .ref (o 3), .int (iI (μ 3)), .int (iI (μ 4)), .ref (o 4), .int (iI (μ 6)), .int (iI (μ 7)), .int (iI (μ 8)), .int (iI (μ 9)), .int (iI (μ 10)), .int (iI (μ 11)), .int (iI (μ 12)), .int (iI (μ 13)), .int (iI (μ 14)), .long (iL (μ 15)), .ref (o 5), .int (iI (μ 17 + 1))] σ φ κ β (zu ω (μ 17) (48 + (v % 10))) H := W8.eq hnew (by simp only [mV, zu, Int.reduceEq, reduceIte])
    exact z_retWv E hr (by rw [show nuL 4 v = [48 + v % 10] from if_neg (by omega)]; exact W8.mu hM (by simp only [mV, zu, Int.reduceEq, reduceIte]; rfl)) hS hlocks dX8_saysNumber_30
  · refine lv_aload_n (pc := 8) E.1 E.2 dX8_saysNumber_8 rfl (lv_at hl 0 rfl) ?_
    refine lv_lload_n (pc := 9) E.1 E.2 dX8_saysNumber_9 rfl (lv_at hl 1 rfl) ?_
    refine lv_ldc2 (pc := 10) (v := iL (10)) E.1 E.2 hown (show (Jvm.Cond.constantLong RX8 39 (iL (10))).before _ ss = true from (hts _ (List.mem_of_getElem? (i := 2) rfl))) dX8_saysNumber_10 ?_
    refine z_ldivN (pc := 13) E ⟨by omega, by omega⟩ ⟨by omega, by omega⟩ dX8_saysNumber_13 ?_
    refine z_wVv (pc := 14) (As := [.long (iL (v / 10))]) (rest := []) E hml hown hts (mX8_saysNumber3 lL G o μ σ φ κ β ω (v / 10) (by omega) (by omega)) (cwV 1 hts gX8_saysNumber_X8_saysNumber rfl rfl rfl vdX8_saysNumber ⟨Nat.le_of_ble_eq_true rfl, Nat.le_of_ble_eq_true rfl⟩) (oB.recv hK hM.1 rfl) hM hK hS (fun _ h => h) rfl hl.1 rfl dX8_saysNumber_14 hcs (Nat.le_of_ble_eq_true rfl) (fun H locs hnew hsz hoth hS => ?_)
    have hM : W8 G o [.ref (o 1), .ref (o 2), .ref (o 3), .int (iI (μ 3)), .int (iI (μ 4)), .ref (o 4), .int (iI (μ 6)), .int (iI (μ 7)), .int (iI (μ 8)), .int (iI (μ 9)), .int (iI (μ 10)), .int (iI (μ 11)), .int (iI (μ 12)), .int (iI (μ 13)), .int (iI (μ 14)), .long (iL (μ 15)), .ref (o 5), .int (iI (μ 17 + ((nuL 3 (v / 10)).length : Int)))] σ φ κ β (ouA ω (μ 17) (nuL 3 (v / 10))) H := W8.eq hnew (by simp only [mV, zu, Int.reduceEq, reduceIte])
    have hlb := nuL_b 3 (v / 10)
    refine lv_aload_n (pc := 17) E.1 E.2 dX8_saysNumber_17 rfl (lv_at hl 0 rfl) ?_
    refine z_bipush (pc := 18) E (by decide) dX8_saysNumber_18 ?_
    refine lv_lload_n (pc := 20) E.1 E.2 dX8_saysNumber_20 rfl (lv_at hl 1 rfl) ?_
    refine lv_ldc2 (pc := 21) (v := iL (10)) E.1 E.2 hown (show (Jvm.Cond.constantLong RX8 39 (iL (10))).before _ ss = true from (hts _ (List.mem_of_getElem? (i := 2) rfl))) dX8_saysNumber_21 ?_
    refine z_lremN (pc := 24) E ⟨by omega, by omega⟩ ⟨by omega, by omega⟩ dX8_saysNumber_24 ?_
    refine z_l2i (pc := 25) E dX8_saysNumber_25 ?_
    refine z_iadd (pc := 26) E dX8_saysNumber_26 ?_
    refine z_wVv (pc := 27) (As := [.int (iI (48 + (v % 10)))]) (rest := []) E hml hown hts (mX8_says lL G o (zu μ 17 (μ 17 + ((nuL 3 (v / 10)).length : Int))) σ φ κ β (ouA ω (μ 17) (nuL 3 (v / 10))) (48 + (v % 10)) (by first | omega | (simp only [zu, Int.reduceEq, reduceIte]; omega)) (by first | omega | (simp only [zu, Int.reduceEq, reduceIte]; omega))) (cwV 1 hts gX8_saysNumber_X8_says rfl rfl rfl vdX8_says ⟨Nat.le_of_ble_eq_true rfl, Nat.le_of_ble_eq_true rfl⟩) (oB.recv hK hM.1 rfl) (W8.mu hM (by simp only [mV, zu, Int.reduceEq, reduceIte])) hK hS (fun _ h => h) rfl hl.1 rfl dX8_saysNumber_27 hcs (Nat.le_of_ble_eq_true rfl) (fun H locs hnew hsz hoth hS => ?_)
    have hM : W8 G o [.ref (o 1), .ref (o 2), .ref (o 3), .int (iI (μ 3)), .int (iI (μ 4)), .ref (o 4), .int (iI (μ 6)), .int (iI (μ 7)), .int (iI (μ 8)), .int (iI (μ 9)), .int (iI (μ 10)), .int (iI (μ 11)), .int (iI (μ 12)), .int (iI (μ 13)), .int (iI (μ 14)), .long (iL (μ 15)), .ref (o 5), .int (iI ((μ 17 + ((nuL 3 (v / 10)).length : Int)) + 1))] σ φ κ β (zu (ouA ω (μ 17) (nuL 3 (v / 10))) ((μ 17 + ((nuL 3 (v / 10)).length : Int))) (48 + (v % 10))) H := W8.eq hnew (by simp only [mV, zu, Int.reduceEq, reduceIte])
    exact z_retWv E hr (by rw [show nuL 4 v = nuL 3 (v / 10) ++ [48 + v % 10] from if_pos (by omega), ← ouA_2]; exact W8.mu hM (by rw [← ouA_l2]; simp only [mV, zu, Int.reduceEq, reduceIte])) hS hlocks dX8_saysNumber_30
set_option maxHeartbeats 1000000 in
set_option maxRecDepth 100000 in
theorem mX8_saysNumber5 (lL : Launch) (G : GG) (o : Nat → Nat) (μ σ φ κ β ω : Int → Int) (v : Int) (hv : 0 ≤ v ∧ v < 1000000) (hm : 0 ≤ μ 17 ∧ μ 17 + 6 ≤ 400) : Met lL yX8_saysNumber wsX8_saysNumber ({ frames := 6, cells := 0, slots := 0, locals := 131 } : Room) (va_Pc [.ref (o 0), .long (iL v)] (fun U => W8 G o (mV o μ) σ φ κ β ω U.heap ∧ KK G U)) (va_Qv (fun _ : Unit => True) (fun _ tZ => W8 G o (mV o (zu μ 17 (μ 17 + ((nuL 5 v).length : Int)))) σ φ κ β (ouA ω (μ 17) (nuL 5 v)) tZ.heap) (Ax o 6)) 0 0 (Ax o 6) := by
  refine z_met (P := (fun H : Heap => W8 G o (mV o μ) σ φ κ β ω H)) (by decide) rfl (Nat.le_of_ble_eq_true rfl) (fun pp ee ss mm below meth cC E hr hml hown hts hlocks hM hK ls hl => ?_)
  have hl : lv_has ls 3 [(0, .ref (o 0)), (1, .long (iL v))] := hl
  have hcs : 0 ≤ (({ frames := 6, cells := 0, slots := 0, locals := 131 } : Room)).cells ∧ 0 ≤ (({ frames := 6, cells := 0, slots := 0, locals := 131 } : Room)).slots := ⟨Nat.zero_le _, Nat.zero_le _⟩
  have hS : va_S (Ax o 6) ss.heap ss.heap [] := va_S.rf
  refine lv_lload_n (pc := 0) E.1 E.2 dX8_saysNumber_0 rfl (lv_at hl 1 rfl) ?_
  refine lv_ldc2 (pc := 1) (v := iL (9)) E.1 E.2 hown (show (Jvm.Cond.constantLong RX8 223 (iL (9))).before _ ss = true from (hts _ (List.mem_of_getElem? (i := 1) rfl))) dX8_saysNumber_1 ?_
  refine z_lcmp_le (pc := 4) (tgt := 17) E ⟨by omega, by omega⟩ (by decide) dX8_saysNumber_4 dX8_saysNumber_5 (by decide) (fun h4 => ?_) (fun h4 => ?_)
  · refine lv_aload_n (pc := 17) E.1 E.2 dX8_saysNumber_17 rfl (lv_at hl 0 rfl) ?_
    refine z_bipush (pc := 18) E (by decide) dX8_saysNumber_18 ?_
    refine lv_lload_n (pc := 20) E.1 E.2 dX8_saysNumber_20 rfl (lv_at hl 1 rfl) ?_
    refine lv_ldc2 (pc := 21) (v := iL (10)) E.1 E.2 hown (show (Jvm.Cond.constantLong RX8 39 (iL (10))).before _ ss = true from (hts _ (List.mem_of_getElem? (i := 2) rfl))) dX8_saysNumber_21 ?_
    refine z_lremN (pc := 24) E ⟨by omega, by omega⟩ ⟨by omega, by omega⟩ dX8_saysNumber_24 ?_
    refine z_l2i (pc := 25) E dX8_saysNumber_25 ?_
    refine z_iadd (pc := 26) E dX8_saysNumber_26 ?_
    refine z_wVv (pc := 27) (As := [.int (iI (48 + (v % 10)))]) (rest := []) E hml hown hts (mX8_says lL G o μ σ φ κ β ω (48 + (v % 10)) (by omega) (by omega)) (cwV 1 hts gX8_saysNumber_X8_says rfl rfl rfl vdX8_says ⟨Nat.le_of_ble_eq_true rfl, Nat.le_of_ble_eq_true rfl⟩) (oB.recv hK hM.1 rfl) hM hK hS (fun _ h => h) rfl hl.1 rfl dX8_saysNumber_27 hcs (Nat.le_of_ble_eq_true rfl) (fun H locs hnew hsz hoth hS => ?_)
    have hM : W8 G o [.ref (o 1), .ref (o 2), .ref (o 3), .int (iI (μ 3)), .int (iI (μ 4)), .ref (o 4), .int (iI (μ 6)), .int (iI (μ 7)), .int (iI (μ 8)), .int (iI (μ 9)), .int (iI (μ 10)), .int (iI (μ 11)), .int (iI (μ 12)), .int (iI (μ 13)), .int (iI (μ 14)), .long (iL (μ 15)), .ref (o 5), .int (iI (μ 17 + 1))] σ φ κ β (zu ω (μ 17) (48 + (v % 10))) H := W8.eq hnew (by simp only [mV, zu, Int.reduceEq, reduceIte])
    exact z_retWv E hr (by rw [show nuL 5 v = [48 + v % 10] from if_neg (by omega)]; exact W8.mu hM (by simp only [mV, zu, Int.reduceEq, reduceIte]; rfl)) hS hlocks dX8_saysNumber_30
  · refine lv_aload_n (pc := 8) E.1 E.2 dX8_saysNumber_8 rfl (lv_at hl 0 rfl) ?_
    refine lv_lload_n (pc := 9) E.1 E.2 dX8_saysNumber_9 rfl (lv_at hl 1 rfl) ?_
    refine lv_ldc2 (pc := 10) (v := iL (10)) E.1 E.2 hown (show (Jvm.Cond.constantLong RX8 39 (iL (10))).before _ ss = true from (hts _ (List.mem_of_getElem? (i := 2) rfl))) dX8_saysNumber_10 ?_
    refine z_ldivN (pc := 13) E ⟨by omega, by omega⟩ ⟨by omega, by omega⟩ dX8_saysNumber_13 ?_
    refine z_wVv (pc := 14) (As := [.long (iL (v / 10))]) (rest := []) E hml hown hts (mX8_saysNumber4 lL G o μ σ φ κ β ω (v / 10) (by omega) (by omega)) (cwV 1 hts gX8_saysNumber_X8_saysNumber rfl rfl rfl vdX8_saysNumber ⟨Nat.le_of_ble_eq_true rfl, Nat.le_of_ble_eq_true rfl⟩) (oB.recv hK hM.1 rfl) hM hK hS (fun _ h => h) rfl hl.1 rfl dX8_saysNumber_14 hcs (Nat.le_of_ble_eq_true rfl) (fun H locs hnew hsz hoth hS => ?_)
    have hM : W8 G o [.ref (o 1), .ref (o 2), .ref (o 3), .int (iI (μ 3)), .int (iI (μ 4)), .ref (o 4), .int (iI (μ 6)), .int (iI (μ 7)), .int (iI (μ 8)), .int (iI (μ 9)), .int (iI (μ 10)), .int (iI (μ 11)), .int (iI (μ 12)), .int (iI (μ 13)), .int (iI (μ 14)), .long (iL (μ 15)), .ref (o 5), .int (iI (μ 17 + ((nuL 4 (v / 10)).length : Int)))] σ φ κ β (ouA ω (μ 17) (nuL 4 (v / 10))) H := W8.eq hnew (by simp only [mV, zu, Int.reduceEq, reduceIte])
    have hlb := nuL_b 4 (v / 10)
    refine lv_aload_n (pc := 17) E.1 E.2 dX8_saysNumber_17 rfl (lv_at hl 0 rfl) ?_
    refine z_bipush (pc := 18) E (by decide) dX8_saysNumber_18 ?_
    refine lv_lload_n (pc := 20) E.1 E.2 dX8_saysNumber_20 rfl (lv_at hl 1 rfl) ?_
    refine lv_ldc2 (pc := 21) (v := iL (10)) E.1 E.2 hown (show (Jvm.Cond.constantLong RX8 39 (iL (10))).before _ ss = true from (hts _ (List.mem_of_getElem? (i := 2) rfl))) dX8_saysNumber_21 ?_
    refine z_lremN (pc := 24) E ⟨by omega, by omega⟩ ⟨by omega, by omega⟩ dX8_saysNumber_24 ?_
    refine z_l2i (pc := 25) E dX8_saysNumber_25 ?_
    refine z_iadd (pc := 26) E dX8_saysNumber_26 ?_
    refine z_wVv (pc := 27) (As := [.int (iI (48 + (v % 10)))]) (rest := []) E hml hown hts (mX8_says lL G o (zu μ 17 (μ 17 + ((nuL 4 (v / 10)).length : Int))) σ φ κ β (ouA ω (μ 17) (nuL 4 (v / 10))) (48 + (v % 10)) (by first | omega | (simp only [zu, Int.reduceEq, reduceIte]; omega)) (by first | omega | (simp only [zu, Int.reduceEq, reduceIte]; omega))) (cwV 1 hts gX8_saysNumber_X8_says rfl rfl rfl vdX8_says ⟨Nat.le_of_ble_eq_true rfl, Nat.le_of_ble_eq_true rfl⟩) (oB.recv hK hM.1 rfl) (W8.mu hM (by simp only [mV, zu, Int.reduceEq, reduceIte])) hK hS (fun _ h => h) rfl hl.1 rfl dX8_saysNumber_27 hcs (Nat.le_of_ble_eq_true rfl) (fun H locs hnew hsz hoth hS => ?_)
    have hM : W8 G o [.ref (o 1), .ref (o 2), .ref (o 3), .int (iI (μ 3)), .int (iI (μ 4)), .ref (o 4), .int (iI (μ 6)), .int (iI (μ 7)), .int (iI (μ 8)), .int (iI (μ 9)), .int (iI (μ 10)), .int (iI (μ 11)), .int (iI (μ 12)), .int (iI (μ 13)), .int (iI (μ 14)), .long (iL (μ 15)), .ref (o 5), .int (iI ((μ 17 + ((nuL 4 (v / 10)).length : Int)) + 1))] σ φ κ β (zu (ouA ω (μ 17) (nuL 4 (v / 10))) ((μ 17 + ((nuL 4 (v / 10)).length : Int))) (48 + (v % 10))) H := W8.eq hnew (by simp only [mV, zu, Int.reduceEq, reduceIte])
    exact z_retWv E hr (by rw [show nuL 5 v = nuL 4 (v / 10) ++ [48 + v % 10] from if_pos (by omega), ← ouA_2]; exact W8.mu hM (by rw [← ouA_l2]; simp only [mV, zu, Int.reduceEq, reduceIte])) hS hlocks dX8_saysNumber_30
set_option maxHeartbeats 1000000 in
set_option maxRecDepth 100000 in
theorem mX8_saysNumber6 (lL : Launch) (G : GG) (o : Nat → Nat) (μ σ φ κ β ω : Int → Int) (v : Int) (hv : 0 ≤ v ∧ v < 10000000) (hm : 0 ≤ μ 17 ∧ μ 17 + 7 ≤ 400) : Met lL yX8_saysNumber wsX8_saysNumber ({ frames := 7, cells := 0, slots := 0, locals := 153 } : Room) (va_Pc [.ref (o 0), .long (iL v)] (fun U => W8 G o (mV o μ) σ φ κ β ω U.heap ∧ KK G U)) (va_Qv (fun _ : Unit => True) (fun _ tZ => W8 G o (mV o (zu μ 17 (μ 17 + ((nuL 6 v).length : Int)))) σ φ κ β (ouA ω (μ 17) (nuL 6 v)) tZ.heap) (Ax o 6)) 0 0 (Ax o 6) := by
  refine z_met (P := (fun H : Heap => W8 G o (mV o μ) σ φ κ β ω H)) (by decide) rfl (Nat.le_of_ble_eq_true rfl) (fun pp ee ss mm below meth cC E hr hml hown hts hlocks hM hK ls hl => ?_)
  have hl : lv_has ls 3 [(0, .ref (o 0)), (1, .long (iL v))] := hl
  have hcs : 0 ≤ (({ frames := 7, cells := 0, slots := 0, locals := 153 } : Room)).cells ∧ 0 ≤ (({ frames := 7, cells := 0, slots := 0, locals := 153 } : Room)).slots := ⟨Nat.zero_le _, Nat.zero_le _⟩
  have hS : va_S (Ax o 6) ss.heap ss.heap [] := va_S.rf
  refine lv_lload_n (pc := 0) E.1 E.2 dX8_saysNumber_0 rfl (lv_at hl 1 rfl) ?_
  refine lv_ldc2 (pc := 1) (v := iL (9)) E.1 E.2 hown (show (Jvm.Cond.constantLong RX8 223 (iL (9))).before _ ss = true from (hts _ (List.mem_of_getElem? (i := 1) rfl))) dX8_saysNumber_1 ?_
  refine z_lcmp_le (pc := 4) (tgt := 17) E ⟨by omega, by omega⟩ (by decide) dX8_saysNumber_4 dX8_saysNumber_5 (by decide) (fun h4 => ?_) (fun h4 => ?_)
  · refine lv_aload_n (pc := 17) E.1 E.2 dX8_saysNumber_17 rfl (lv_at hl 0 rfl) ?_
    refine z_bipush (pc := 18) E (by decide) dX8_saysNumber_18 ?_
    refine lv_lload_n (pc := 20) E.1 E.2 dX8_saysNumber_20 rfl (lv_at hl 1 rfl) ?_
    refine lv_ldc2 (pc := 21) (v := iL (10)) E.1 E.2 hown (show (Jvm.Cond.constantLong RX8 39 (iL (10))).before _ ss = true from (hts _ (List.mem_of_getElem? (i := 2) rfl))) dX8_saysNumber_21 ?_
    refine z_lremN (pc := 24) E ⟨by omega, by omega⟩ ⟨by omega, by omega⟩ dX8_saysNumber_24 ?_
    refine z_l2i (pc := 25) E dX8_saysNumber_25 ?_
    refine z_iadd (pc := 26) E dX8_saysNumber_26 ?_
    refine z_wVv (pc := 27) (As := [.int (iI (48 + (v % 10)))]) (rest := []) E hml hown hts (mX8_says lL G o μ σ φ κ β ω (48 + (v % 10)) (by omega) (by omega)) (cwV 1 hts gX8_saysNumber_X8_says rfl rfl rfl vdX8_says ⟨Nat.le_of_ble_eq_true rfl, Nat.le_of_ble_eq_true rfl⟩) (oB.recv hK hM.1 rfl) hM hK hS (fun _ h => h) rfl hl.1 rfl dX8_saysNumber_27 hcs (Nat.le_of_ble_eq_true rfl) (fun H locs hnew hsz hoth hS => ?_)
    have hM : W8 G o [.ref (o 1), .ref (o 2), .ref (o 3), .int (iI (μ 3)), .int (iI (μ 4)), .ref (o 4), .int (iI (μ 6)), .int (iI (μ 7)), .int (iI (μ 8)), .int (iI (μ 9)), .int (iI (μ 10)), .int (iI (μ 11)), .int (iI (μ 12)), .int (iI (μ 13)), .int (iI (μ 14)), .long (iL (μ 15)), .ref (o 5), .int (iI (μ 17 + 1))] σ φ κ β (zu ω (μ 17) (48 + (v % 10))) H := W8.eq hnew (by simp only [mV, zu, Int.reduceEq, reduceIte])
    exact z_retWv E hr (by rw [show nuL 6 v = [48 + v % 10] from if_neg (by omega)]; exact W8.mu hM (by simp only [mV, zu, Int.reduceEq, reduceIte]; rfl)) hS hlocks dX8_saysNumber_30
  · refine lv_aload_n (pc := 8) E.1 E.2 dX8_saysNumber_8 rfl (lv_at hl 0 rfl) ?_
    refine lv_lload_n (pc := 9) E.1 E.2 dX8_saysNumber_9 rfl (lv_at hl 1 rfl) ?_
    refine lv_ldc2 (pc := 10) (v := iL (10)) E.1 E.2 hown (show (Jvm.Cond.constantLong RX8 39 (iL (10))).before _ ss = true from (hts _ (List.mem_of_getElem? (i := 2) rfl))) dX8_saysNumber_10 ?_
    refine z_ldivN (pc := 13) E ⟨by omega, by omega⟩ ⟨by omega, by omega⟩ dX8_saysNumber_13 ?_
    refine z_wVv (pc := 14) (As := [.long (iL (v / 10))]) (rest := []) E hml hown hts (mX8_saysNumber5 lL G o μ σ φ κ β ω (v / 10) (by omega) (by omega)) (cwV 1 hts gX8_saysNumber_X8_saysNumber rfl rfl rfl vdX8_saysNumber ⟨Nat.le_of_ble_eq_true rfl, Nat.le_of_ble_eq_true rfl⟩) (oB.recv hK hM.1 rfl) hM hK hS (fun _ h => h) rfl hl.1 rfl dX8_saysNumber_14 hcs (Nat.le_of_ble_eq_true rfl) (fun H locs hnew hsz hoth hS => ?_)
    have hM : W8 G o [.ref (o 1), .ref (o 2), .ref (o 3), .int (iI (μ 3)), .int (iI (μ 4)), .ref (o 4), .int (iI (μ 6)), .int (iI (μ 7)), .int (iI (μ 8)), .int (iI (μ 9)), .int (iI (μ 10)), .int (iI (μ 11)), .int (iI (μ 12)), .int (iI (μ 13)), .int (iI (μ 14)), .long (iL (μ 15)), .ref (o 5), .int (iI (μ 17 + ((nuL 5 (v / 10)).length : Int)))] σ φ κ β (ouA ω (μ 17) (nuL 5 (v / 10))) H := W8.eq hnew (by simp only [mV, zu, Int.reduceEq, reduceIte])
    have hlb := nuL_b 5 (v / 10)
    refine lv_aload_n (pc := 17) E.1 E.2 dX8_saysNumber_17 rfl (lv_at hl 0 rfl) ?_
    refine z_bipush (pc := 18) E (by decide) dX8_saysNumber_18 ?_
    refine lv_lload_n (pc := 20) E.1 E.2 dX8_saysNumber_20 rfl (lv_at hl 1 rfl) ?_
    refine lv_ldc2 (pc := 21) (v := iL (10)) E.1 E.2 hown (show (Jvm.Cond.constantLong RX8 39 (iL (10))).before _ ss = true from (hts _ (List.mem_of_getElem? (i := 2) rfl))) dX8_saysNumber_21 ?_
    refine z_lremN (pc := 24) E ⟨by omega, by omega⟩ ⟨by omega, by omega⟩ dX8_saysNumber_24 ?_
    refine z_l2i (pc := 25) E dX8_saysNumber_25 ?_
    refine z_iadd (pc := 26) E dX8_saysNumber_26 ?_
    refine z_wVv (pc := 27) (As := [.int (iI (48 + (v % 10)))]) (rest := []) E hml hown hts (mX8_says lL G o (zu μ 17 (μ 17 + ((nuL 5 (v / 10)).length : Int))) σ φ κ β (ouA ω (μ 17) (nuL 5 (v / 10))) (48 + (v % 10)) (by first | omega | (simp only [zu, Int.reduceEq, reduceIte]; omega)) (by first | omega | (simp only [zu, Int.reduceEq, reduceIte]; omega))) (cwV 1 hts gX8_saysNumber_X8_says rfl rfl rfl vdX8_says ⟨Nat.le_of_ble_eq_true rfl, Nat.le_of_ble_eq_true rfl⟩) (oB.recv hK hM.1 rfl) (W8.mu hM (by simp only [mV, zu, Int.reduceEq, reduceIte])) hK hS (fun _ h => h) rfl hl.1 rfl dX8_saysNumber_27 hcs (Nat.le_of_ble_eq_true rfl) (fun H locs hnew hsz hoth hS => ?_)
    have hM : W8 G o [.ref (o 1), .ref (o 2), .ref (o 3), .int (iI (μ 3)), .int (iI (μ 4)), .ref (o 4), .int (iI (μ 6)), .int (iI (μ 7)), .int (iI (μ 8)), .int (iI (μ 9)), .int (iI (μ 10)), .int (iI (μ 11)), .int (iI (μ 12)), .int (iI (μ 13)), .int (iI (μ 14)), .long (iL (μ 15)), .ref (o 5), .int (iI ((μ 17 + ((nuL 5 (v / 10)).length : Int)) + 1))] σ φ κ β (zu (ouA ω (μ 17) (nuL 5 (v / 10))) ((μ 17 + ((nuL 5 (v / 10)).length : Int))) (48 + (v % 10))) H := W8.eq hnew (by simp only [mV, zu, Int.reduceEq, reduceIte])
    exact z_retWv E hr (by rw [show nuL 6 v = nuL 5 (v / 10) ++ [48 + v % 10] from if_pos (by omega), ← ouA_2]; exact W8.mu hM (by rw [← ouA_l2]; simp only [mV, zu, Int.reduceEq, reduceIte])) hS hlocks dX8_saysNumber_30
set_option maxHeartbeats 1000000 in
set_option maxRecDepth 100000 in
theorem mX8_saysNumber7 (lL : Launch) (G : GG) (o : Nat → Nat) (μ σ φ κ β ω : Int → Int) (v : Int) (hv : 0 ≤ v ∧ v < 100000000) (hm : 0 ≤ μ 17 ∧ μ 17 + 8 ≤ 400) : Met lL yX8_saysNumber wsX8_saysNumber ({ frames := 8, cells := 0, slots := 0, locals := 175 } : Room) (va_Pc [.ref (o 0), .long (iL v)] (fun U => W8 G o (mV o μ) σ φ κ β ω U.heap ∧ KK G U)) (va_Qv (fun _ : Unit => True) (fun _ tZ => W8 G o (mV o (zu μ 17 (μ 17 + ((nuL 7 v).length : Int)))) σ φ κ β (ouA ω (μ 17) (nuL 7 v)) tZ.heap) (Ax o 6)) 0 0 (Ax o 6) := by
  refine z_met (P := (fun H : Heap => W8 G o (mV o μ) σ φ κ β ω H)) (by decide) rfl (Nat.le_of_ble_eq_true rfl) (fun pp ee ss mm below meth cC E hr hml hown hts hlocks hM hK ls hl => ?_)
  have hl : lv_has ls 3 [(0, .ref (o 0)), (1, .long (iL v))] := hl
  have hcs : 0 ≤ (({ frames := 8, cells := 0, slots := 0, locals := 175 } : Room)).cells ∧ 0 ≤ (({ frames := 8, cells := 0, slots := 0, locals := 175 } : Room)).slots := ⟨Nat.zero_le _, Nat.zero_le _⟩
  have hS : va_S (Ax o 6) ss.heap ss.heap [] := va_S.rf
  refine lv_lload_n (pc := 0) E.1 E.2 dX8_saysNumber_0 rfl (lv_at hl 1 rfl) ?_
  refine lv_ldc2 (pc := 1) (v := iL (9)) E.1 E.2 hown (show (Jvm.Cond.constantLong RX8 223 (iL (9))).before _ ss = true from (hts _ (List.mem_of_getElem? (i := 1) rfl))) dX8_saysNumber_1 ?_
  refine z_lcmp_le (pc := 4) (tgt := 17) E ⟨by omega, by omega⟩ (by decide) dX8_saysNumber_4 dX8_saysNumber_5 (by decide) (fun h4 => ?_) (fun h4 => ?_)
  · refine lv_aload_n (pc := 17) E.1 E.2 dX8_saysNumber_17 rfl (lv_at hl 0 rfl) ?_
    refine z_bipush (pc := 18) E (by decide) dX8_saysNumber_18 ?_
    refine lv_lload_n (pc := 20) E.1 E.2 dX8_saysNumber_20 rfl (lv_at hl 1 rfl) ?_
    refine lv_ldc2 (pc := 21) (v := iL (10)) E.1 E.2 hown (show (Jvm.Cond.constantLong RX8 39 (iL (10))).before _ ss = true from (hts _ (List.mem_of_getElem? (i := 2) rfl))) dX8_saysNumber_21 ?_
    refine z_lremN (pc := 24) E ⟨by omega, by omega⟩ ⟨by omega, by omega⟩ dX8_saysNumber_24 ?_
    refine z_l2i (pc := 25) E dX8_saysNumber_25 ?_
    refine z_iadd (pc := 26) E dX8_saysNumber_26 ?_
    refine z_wVv (pc := 27) (As := [.int (iI (48 + (v % 10)))]) (rest := []) E hml hown hts (mX8_says lL G o μ σ φ κ β ω (48 + (v % 10)) (by omega) (by omega)) (cwV 1 hts gX8_saysNumber_X8_says rfl rfl rfl vdX8_says ⟨Nat.le_of_ble_eq_true rfl, Nat.le_of_ble_eq_true rfl⟩) (oB.recv hK hM.1 rfl) hM hK hS (fun _ h => h) rfl hl.1 rfl dX8_saysNumber_27 hcs (Nat.le_of_ble_eq_true rfl) (fun H locs hnew hsz hoth hS => ?_)
    have hM : W8 G o [.ref (o 1), .ref (o 2), .ref (o 3), .int (iI (μ 3)), .int (iI (μ 4)), .ref (o 4), .int (iI (μ 6)), .int (iI (μ 7)), .int (iI (μ 8)), .int (iI (μ 9)), .int (iI (μ 10)), .int (iI (μ 11)), .int (iI (μ 12)), .int (iI (μ 13)), .int (iI (μ 14)), .long (iL (μ 15)), .ref (o 5), .int (iI (μ 17 + 1))] σ φ κ β (zu ω (μ 17) (48 + (v % 10))) H := W8.eq hnew (by simp only [mV, zu, Int.reduceEq, reduceIte])
    exact z_retWv E hr (by rw [show nuL 7 v = [48 + v % 10] from if_neg (by omega)]; exact W8.mu hM (by simp only [mV, zu, Int.reduceEq, reduceIte]; rfl)) hS hlocks dX8_saysNumber_30
  · refine lv_aload_n (pc := 8) E.1 E.2 dX8_saysNumber_8 rfl (lv_at hl 0 rfl) ?_
    refine lv_lload_n (pc := 9) E.1 E.2 dX8_saysNumber_9 rfl (lv_at hl 1 rfl) ?_
    refine lv_ldc2 (pc := 10) (v := iL (10)) E.1 E.2 hown (show (Jvm.Cond.constantLong RX8 39 (iL (10))).before _ ss = true from (hts _ (List.mem_of_getElem? (i := 2) rfl))) dX8_saysNumber_10 ?_
    refine z_ldivN (pc := 13) E ⟨by omega, by omega⟩ ⟨by omega, by omega⟩ dX8_saysNumber_13 ?_
    refine z_wVv (pc := 14) (As := [.long (iL (v / 10))]) (rest := []) E hml hown hts (mX8_saysNumber6 lL G o μ σ φ κ β ω (v / 10) (by omega) (by omega)) (cwV 1 hts gX8_saysNumber_X8_saysNumber rfl rfl rfl vdX8_saysNumber ⟨Nat.le_of_ble_eq_true rfl, Nat.le_of_ble_eq_true rfl⟩) (oB.recv hK hM.1 rfl) hM hK hS (fun _ h => h) rfl hl.1 rfl dX8_saysNumber_14 hcs (Nat.le_of_ble_eq_true rfl) (fun H locs hnew hsz hoth hS => ?_)
    have hM : W8 G o [.ref (o 1), .ref (o 2), .ref (o 3), .int (iI (μ 3)), .int (iI (μ 4)), .ref (o 4), .int (iI (μ 6)), .int (iI (μ 7)), .int (iI (μ 8)), .int (iI (μ 9)), .int (iI (μ 10)), .int (iI (μ 11)), .int (iI (μ 12)), .int (iI (μ 13)), .int (iI (μ 14)), .long (iL (μ 15)), .ref (o 5), .int (iI (μ 17 + ((nuL 6 (v / 10)).length : Int)))] σ φ κ β (ouA ω (μ 17) (nuL 6 (v / 10))) H := W8.eq hnew (by simp only [mV, zu, Int.reduceEq, reduceIte])
    have hlb := nuL_b 6 (v / 10)
    refine lv_aload_n (pc := 17) E.1 E.2 dX8_saysNumber_17 rfl (lv_at hl 0 rfl) ?_
    refine z_bipush (pc := 18) E (by decide) dX8_saysNumber_18 ?_
    refine lv_lload_n (pc := 20) E.1 E.2 dX8_saysNumber_20 rfl (lv_at hl 1 rfl) ?_
    refine lv_ldc2 (pc := 21) (v := iL (10)) E.1 E.2 hown (show (Jvm.Cond.constantLong RX8 39 (iL (10))).before _ ss = true from (hts _ (List.mem_of_getElem? (i := 2) rfl))) dX8_saysNumber_21 ?_
    refine z_lremN (pc := 24) E ⟨by omega, by omega⟩ ⟨by omega, by omega⟩ dX8_saysNumber_24 ?_
    refine z_l2i (pc := 25) E dX8_saysNumber_25 ?_
    refine z_iadd (pc := 26) E dX8_saysNumber_26 ?_
    refine z_wVv (pc := 27) (As := [.int (iI (48 + (v % 10)))]) (rest := []) E hml hown hts (mX8_says lL G o (zu μ 17 (μ 17 + ((nuL 6 (v / 10)).length : Int))) σ φ κ β (ouA ω (μ 17) (nuL 6 (v / 10))) (48 + (v % 10)) (by first | omega | (simp only [zu, Int.reduceEq, reduceIte]; omega)) (by first | omega | (simp only [zu, Int.reduceEq, reduceIte]; omega))) (cwV 1 hts gX8_saysNumber_X8_says rfl rfl rfl vdX8_says ⟨Nat.le_of_ble_eq_true rfl, Nat.le_of_ble_eq_true rfl⟩) (oB.recv hK hM.1 rfl) (W8.mu hM (by simp only [mV, zu, Int.reduceEq, reduceIte])) hK hS (fun _ h => h) rfl hl.1 rfl dX8_saysNumber_27 hcs (Nat.le_of_ble_eq_true rfl) (fun H locs hnew hsz hoth hS => ?_)
    have hM : W8 G o [.ref (o 1), .ref (o 2), .ref (o 3), .int (iI (μ 3)), .int (iI (μ 4)), .ref (o 4), .int (iI (μ 6)), .int (iI (μ 7)), .int (iI (μ 8)), .int (iI (μ 9)), .int (iI (μ 10)), .int (iI (μ 11)), .int (iI (μ 12)), .int (iI (μ 13)), .int (iI (μ 14)), .long (iL (μ 15)), .ref (o 5), .int (iI ((μ 17 + ((nuL 6 (v / 10)).length : Int)) + 1))] σ φ κ β (zu (ouA ω (μ 17) (nuL 6 (v / 10))) ((μ 17 + ((nuL 6 (v / 10)).length : Int))) (48 + (v % 10))) H := W8.eq hnew (by simp only [mV, zu, Int.reduceEq, reduceIte])
    exact z_retWv E hr (by rw [show nuL 7 v = nuL 6 (v / 10) ++ [48 + v % 10] from if_pos (by omega), ← ouA_2]; exact W8.mu hM (by rw [← ouA_l2]; simp only [mV, zu, Int.reduceEq, reduceIte])) hS hlocks dX8_saysNumber_30
set_option maxHeartbeats 1000000 in
set_option maxRecDepth 100000 in
theorem mX8_saysNumber8 (lL : Launch) (G : GG) (o : Nat → Nat) (μ σ φ κ β ω : Int → Int) (v : Int) (hv : 0 ≤ v ∧ v < 1000000000) (hm : 0 ≤ μ 17 ∧ μ 17 + 9 ≤ 400) : Met lL yX8_saysNumber wsX8_saysNumber ({ frames := 9, cells := 0, slots := 0, locals := 197 } : Room) (va_Pc [.ref (o 0), .long (iL v)] (fun U => W8 G o (mV o μ) σ φ κ β ω U.heap ∧ KK G U)) (va_Qv (fun _ : Unit => True) (fun _ tZ => W8 G o (mV o (zu μ 17 (μ 17 + ((nuL 8 v).length : Int)))) σ φ κ β (ouA ω (μ 17) (nuL 8 v)) tZ.heap) (Ax o 6)) 0 0 (Ax o 6) := by
  refine z_met (P := (fun H : Heap => W8 G o (mV o μ) σ φ κ β ω H)) (by decide) rfl (Nat.le_of_ble_eq_true rfl) (fun pp ee ss mm below meth cC E hr hml hown hts hlocks hM hK ls hl => ?_)
  have hl : lv_has ls 3 [(0, .ref (o 0)), (1, .long (iL v))] := hl
  have hcs : 0 ≤ (({ frames := 9, cells := 0, slots := 0, locals := 197 } : Room)).cells ∧ 0 ≤ (({ frames := 9, cells := 0, slots := 0, locals := 197 } : Room)).slots := ⟨Nat.zero_le _, Nat.zero_le _⟩
  have hS : va_S (Ax o 6) ss.heap ss.heap [] := va_S.rf
  refine lv_lload_n (pc := 0) E.1 E.2 dX8_saysNumber_0 rfl (lv_at hl 1 rfl) ?_
  refine lv_ldc2 (pc := 1) (v := iL (9)) E.1 E.2 hown (show (Jvm.Cond.constantLong RX8 223 (iL (9))).before _ ss = true from (hts _ (List.mem_of_getElem? (i := 1) rfl))) dX8_saysNumber_1 ?_
  refine z_lcmp_le (pc := 4) (tgt := 17) E ⟨by omega, by omega⟩ (by decide) dX8_saysNumber_4 dX8_saysNumber_5 (by decide) (fun h4 => ?_) (fun h4 => ?_)
  · refine lv_aload_n (pc := 17) E.1 E.2 dX8_saysNumber_17 rfl (lv_at hl 0 rfl) ?_
    refine z_bipush (pc := 18) E (by decide) dX8_saysNumber_18 ?_
    refine lv_lload_n (pc := 20) E.1 E.2 dX8_saysNumber_20 rfl (lv_at hl 1 rfl) ?_
    refine lv_ldc2 (pc := 21) (v := iL (10)) E.1 E.2 hown (show (Jvm.Cond.constantLong RX8 39 (iL (10))).before _ ss = true from (hts _ (List.mem_of_getElem? (i := 2) rfl))) dX8_saysNumber_21 ?_
    refine z_lremN (pc := 24) E ⟨by omega, by omega⟩ ⟨by omega, by omega⟩ dX8_saysNumber_24 ?_
    refine z_l2i (pc := 25) E dX8_saysNumber_25 ?_
    refine z_iadd (pc := 26) E dX8_saysNumber_26 ?_
    refine z_wVv (pc := 27) (As := [.int (iI (48 + (v % 10)))]) (rest := []) E hml hown hts (mX8_says lL G o μ σ φ κ β ω (48 + (v % 10)) (by omega) (by omega)) (cwV 1 hts gX8_saysNumber_X8_says rfl rfl rfl vdX8_says ⟨Nat.le_of_ble_eq_true rfl, Nat.le_of_ble_eq_true rfl⟩) (oB.recv hK hM.1 rfl) hM hK hS (fun _ h => h) rfl hl.1 rfl dX8_saysNumber_27 hcs (Nat.le_of_ble_eq_true rfl) (fun H locs hnew hsz hoth hS => ?_)
    have hM : W8 G o [.ref (o 1), .ref (o 2), .ref (o 3), .int (iI (μ 3)), .int (iI (μ 4)), .ref (o 4), .int (iI (μ 6)), .int (iI (μ 7)), .int (iI (μ 8)), .int (iI (μ 9)), .int (iI (μ 10)), .int (iI (μ 11)), .int (iI (μ 12)), .int (iI (μ 13)), .int (iI (μ 14)), .long (iL (μ 15)), .ref (o 5), .int (iI (μ 17 + 1))] σ φ κ β (zu ω (μ 17) (48 + (v % 10))) H := W8.eq hnew (by simp only [mV, zu, Int.reduceEq, reduceIte])
    exact z_retWv E hr (by rw [show nuL 8 v = [48 + v % 10] from if_neg (by omega)]; exact W8.mu hM (by simp only [mV, zu, Int.reduceEq, reduceIte]; rfl)) hS hlocks dX8_saysNumber_30
  · refine lv_aload_n (pc := 8) E.1 E.2 dX8_saysNumber_8 rfl (lv_at hl 0 rfl) ?_
    refine lv_lload_n (pc := 9) E.1 E.2 dX8_saysNumber_9 rfl (lv_at hl 1 rfl) ?_
    refine lv_ldc2 (pc := 10) (v := iL (10)) E.1 E.2 hown (show (Jvm.Cond.constantLong RX8 39 (iL (10))).before _ ss = true from (hts _ (List.mem_of_getElem? (i := 2) rfl))) dX8_saysNumber_10 ?_
    refine z_ldivN (pc := 13) E ⟨by omega, by omega⟩ ⟨by omega, by omega⟩ dX8_saysNumber_13 ?_
    refine z_wVv (pc := 14) (As := [.long (iL (v / 10))]) (rest := []) E hml hown hts (mX8_saysNumber7 lL G o μ σ φ κ β ω (v / 10) (by omega) (by omega)) (cwV 1 hts gX8_saysNumber_X8_saysNumber rfl rfl rfl vdX8_saysNumber ⟨Nat.le_of_ble_eq_true rfl, Nat.le_of_ble_eq_true rfl⟩) (oB.recv hK hM.1 rfl) hM hK hS (fun _ h => h) rfl hl.1 rfl dX8_saysNumber_14 hcs (Nat.le_of_ble_eq_true rfl) (fun H locs hnew hsz hoth hS => ?_)
    have hM : W8 G o [.ref (o 1), .ref (o 2), .ref (o 3), .int (iI (μ 3)), .int (iI (μ 4)), .ref (o 4), .int (iI (μ 6)), .int (iI (μ 7)), .int (iI (μ 8)), .int (iI (μ 9)), .int (iI (μ 10)), .int (iI (μ 11)), .int (iI (μ 12)), .int (iI (μ 13)), .int (iI (μ 14)), .long (iL (μ 15)), .ref (o 5), .int (iI (μ 17 + ((nuL 7 (v / 10)).length : Int)))] σ φ κ β (ouA ω (μ 17) (nuL 7 (v / 10))) H := W8.eq hnew (by simp only [mV, zu, Int.reduceEq, reduceIte])
    have hlb := nuL_b 7 (v / 10)
    refine lv_aload_n (pc := 17) E.1 E.2 dX8_saysNumber_17 rfl (lv_at hl 0 rfl) ?_
    refine z_bipush (pc := 18) E (by decide) dX8_saysNumber_18 ?_
    refine lv_lload_n (pc := 20) E.1 E.2 dX8_saysNumber_20 rfl (lv_at hl 1 rfl) ?_
    refine lv_ldc2 (pc := 21) (v := iL (10)) E.1 E.2 hown (show (Jvm.Cond.constantLong RX8 39 (iL (10))).before _ ss = true from (hts _ (List.mem_of_getElem? (i := 2) rfl))) dX8_saysNumber_21 ?_
    refine z_lremN (pc := 24) E ⟨by omega, by omega⟩ ⟨by omega, by omega⟩ dX8_saysNumber_24 ?_
    refine z_l2i (pc := 25) E dX8_saysNumber_25 ?_
    refine z_iadd (pc := 26) E dX8_saysNumber_26 ?_
    refine z_wVv (pc := 27) (As := [.int (iI (48 + (v % 10)))]) (rest := []) E hml hown hts (mX8_says lL G o (zu μ 17 (μ 17 + ((nuL 7 (v / 10)).length : Int))) σ φ κ β (ouA ω (μ 17) (nuL 7 (v / 10))) (48 + (v % 10)) (by first | omega | (simp only [zu, Int.reduceEq, reduceIte]; omega)) (by first | omega | (simp only [zu, Int.reduceEq, reduceIte]; omega))) (cwV 1 hts gX8_saysNumber_X8_says rfl rfl rfl vdX8_says ⟨Nat.le_of_ble_eq_true rfl, Nat.le_of_ble_eq_true rfl⟩) (oB.recv hK hM.1 rfl) (W8.mu hM (by simp only [mV, zu, Int.reduceEq, reduceIte])) hK hS (fun _ h => h) rfl hl.1 rfl dX8_saysNumber_27 hcs (Nat.le_of_ble_eq_true rfl) (fun H locs hnew hsz hoth hS => ?_)
    have hM : W8 G o [.ref (o 1), .ref (o 2), .ref (o 3), .int (iI (μ 3)), .int (iI (μ 4)), .ref (o 4), .int (iI (μ 6)), .int (iI (μ 7)), .int (iI (μ 8)), .int (iI (μ 9)), .int (iI (μ 10)), .int (iI (μ 11)), .int (iI (μ 12)), .int (iI (μ 13)), .int (iI (μ 14)), .long (iL (μ 15)), .ref (o 5), .int (iI ((μ 17 + ((nuL 7 (v / 10)).length : Int)) + 1))] σ φ κ β (zu (ouA ω (μ 17) (nuL 7 (v / 10))) ((μ 17 + ((nuL 7 (v / 10)).length : Int))) (48 + (v % 10))) H := W8.eq hnew (by simp only [mV, zu, Int.reduceEq, reduceIte])
    exact z_retWv E hr (by rw [show nuL 8 v = nuL 7 (v / 10) ++ [48 + v % 10] from if_pos (by omega), ← ouA_2]; exact W8.mu hM (by rw [← ouA_l2]; simp only [mV, zu, Int.reduceEq, reduceIte])) hS hlocks dX8_saysNumber_30
set_option maxHeartbeats 1000000 in
set_option maxRecDepth 100000 in
theorem mX8_saysNumber9 (lL : Launch) (G : GG) (o : Nat → Nat) (μ σ φ κ β ω : Int → Int) (v : Int) (hv : 0 ≤ v ∧ v < 10000000000) (hm : 0 ≤ μ 17 ∧ μ 17 + 10 ≤ 400) : Met lL yX8_saysNumber wsX8_saysNumber ({ frames := 10, cells := 0, slots := 0, locals := 219 } : Room) (va_Pc [.ref (o 0), .long (iL v)] (fun U => W8 G o (mV o μ) σ φ κ β ω U.heap ∧ KK G U)) (va_Qv (fun _ : Unit => True) (fun _ tZ => W8 G o (mV o (zu μ 17 (μ 17 + ((nuL 9 v).length : Int)))) σ φ κ β (ouA ω (μ 17) (nuL 9 v)) tZ.heap) (Ax o 6)) 0 0 (Ax o 6) := by
  refine z_met (P := (fun H : Heap => W8 G o (mV o μ) σ φ κ β ω H)) (by decide) rfl (Nat.le_of_ble_eq_true rfl) (fun pp ee ss mm below meth cC E hr hml hown hts hlocks hM hK ls hl => ?_)
  have hl : lv_has ls 3 [(0, .ref (o 0)), (1, .long (iL v))] := hl
  have hcs : 0 ≤ (({ frames := 10, cells := 0, slots := 0, locals := 219 } : Room)).cells ∧ 0 ≤ (({ frames := 10, cells := 0, slots := 0, locals := 219 } : Room)).slots := ⟨Nat.zero_le _, Nat.zero_le _⟩
  have hS : va_S (Ax o 6) ss.heap ss.heap [] := va_S.rf
  refine lv_lload_n (pc := 0) E.1 E.2 dX8_saysNumber_0 rfl (lv_at hl 1 rfl) ?_
  refine lv_ldc2 (pc := 1) (v := iL (9)) E.1 E.2 hown (show (Jvm.Cond.constantLong RX8 223 (iL (9))).before _ ss = true from (hts _ (List.mem_of_getElem? (i := 1) rfl))) dX8_saysNumber_1 ?_
  refine z_lcmp_le (pc := 4) (tgt := 17) E ⟨by omega, by omega⟩ (by decide) dX8_saysNumber_4 dX8_saysNumber_5 (by decide) (fun h4 => ?_) (fun h4 => ?_)
  · refine lv_aload_n (pc := 17) E.1 E.2 dX8_saysNumber_17 rfl (lv_at hl 0 rfl) ?_
    refine z_bipush (pc := 18) E (by decide) dX8_saysNumber_18 ?_
    refine lv_lload_n (pc := 20) E.1 E.2 dX8_saysNumber_20 rfl (lv_at hl 1 rfl) ?_
    refine lv_ldc2 (pc := 21) (v := iL (10)) E.1 E.2 hown (show (Jvm.Cond.constantLong RX8 39 (iL (10))).before _ ss = true from (hts _ (List.mem_of_getElem? (i := 2) rfl))) dX8_saysNumber_21 ?_
    refine z_lremN (pc := 24) E ⟨by omega, by omega⟩ ⟨by omega, by omega⟩ dX8_saysNumber_24 ?_
    refine z_l2i (pc := 25) E dX8_saysNumber_25 ?_
    refine z_iadd (pc := 26) E dX8_saysNumber_26 ?_
    refine z_wVv (pc := 27) (As := [.int (iI (48 + (v % 10)))]) (rest := []) E hml hown hts (mX8_says lL G o μ σ φ κ β ω (48 + (v % 10)) (by omega) (by omega)) (cwV 1 hts gX8_saysNumber_X8_says rfl rfl rfl vdX8_says ⟨Nat.le_of_ble_eq_true rfl, Nat.le_of_ble_eq_true rfl⟩) (oB.recv hK hM.1 rfl) hM hK hS (fun _ h => h) rfl hl.1 rfl dX8_saysNumber_27 hcs (Nat.le_of_ble_eq_true rfl) (fun H locs hnew hsz hoth hS => ?_)
    have hM : W8 G o [.ref (o 1), .ref (o 2), .ref (o 3), .int (iI (μ 3)), .int (iI (μ 4)), .ref (o 4), .int (iI (μ 6)), .int (iI (μ 7)), .int (iI (μ 8)), .int (iI (μ 9)), .int (iI (μ 10)), .int (iI (μ 11)), .int (iI (μ 12)), .int (iI (μ 13)), .int (iI (μ 14)), .long (iL (μ 15)), .ref (o 5), .int (iI (μ 17 + 1))] σ φ κ β (zu ω (μ 17) (48 + (v % 10))) H := W8.eq hnew (by simp only [mV, zu, Int.reduceEq, reduceIte])
    exact z_retWv E hr (by rw [show nuL 9 v = [48 + v % 10] from if_neg (by omega)]; exact W8.mu hM (by simp only [mV, zu, Int.reduceEq, reduceIte]; rfl)) hS hlocks dX8_saysNumber_30
  · refine lv_aload_n (pc := 8) E.1 E.2 dX8_saysNumber_8 rfl (lv_at hl 0 rfl) ?_
    refine lv_lload_n (pc := 9) E.1 E.2 dX8_saysNumber_9 rfl (lv_at hl 1 rfl) ?_
    refine lv_ldc2 (pc := 10) (v := iL (10)) E.1 E.2 hown (show (Jvm.Cond.constantLong RX8 39 (iL (10))).before _ ss = true from (hts _ (List.mem_of_getElem? (i := 2) rfl))) dX8_saysNumber_10 ?_
    refine z_ldivN (pc := 13) E ⟨by omega, by omega⟩ ⟨by omega, by omega⟩ dX8_saysNumber_13 ?_
    refine z_wVv (pc := 14) (As := [.long (iL (v / 10))]) (rest := []) E hml hown hts (mX8_saysNumber8 lL G o μ σ φ κ β ω (v / 10) (by omega) (by omega)) (cwV 1 hts gX8_saysNumber_X8_saysNumber rfl rfl rfl vdX8_saysNumber ⟨Nat.le_of_ble_eq_true rfl, Nat.le_of_ble_eq_true rfl⟩) (oB.recv hK hM.1 rfl) hM hK hS (fun _ h => h) rfl hl.1 rfl dX8_saysNumber_14 hcs (Nat.le_of_ble_eq_true rfl) (fun H locs hnew hsz hoth hS => ?_)
    have hM : W8 G o [.ref (o 1), .ref (o 2), .ref (o 3), .int (iI (μ 3)), .int (iI (μ 4)), .ref (o 4), .int (iI (μ 6)), .int (iI (μ 7)), .int (iI (μ 8)), .int (iI (μ 9)), .int (iI (μ 10)), .int (iI (μ 11)), .int (iI (μ 12)), .int (iI (μ 13)), .int (iI (μ 14)), .long (iL (μ 15)), .ref (o 5), .int (iI (μ 17 + ((nuL 8 (v / 10)).length : Int)))] σ φ κ β (ouA ω (μ 17) (nuL 8 (v / 10))) H := W8.eq hnew (by simp only [mV, zu, Int.reduceEq, reduceIte])
    have hlb := nuL_b 8 (v / 10)
    refine lv_aload_n (pc := 17) E.1 E.2 dX8_saysNumber_17 rfl (lv_at hl 0 rfl) ?_
    refine z_bipush (pc := 18) E (by decide) dX8_saysNumber_18 ?_
    refine lv_lload_n (pc := 20) E.1 E.2 dX8_saysNumber_20 rfl (lv_at hl 1 rfl) ?_
    refine lv_ldc2 (pc := 21) (v := iL (10)) E.1 E.2 hown (show (Jvm.Cond.constantLong RX8 39 (iL (10))).before _ ss = true from (hts _ (List.mem_of_getElem? (i := 2) rfl))) dX8_saysNumber_21 ?_
    refine z_lremN (pc := 24) E ⟨by omega, by omega⟩ ⟨by omega, by omega⟩ dX8_saysNumber_24 ?_
    refine z_l2i (pc := 25) E dX8_saysNumber_25 ?_
    refine z_iadd (pc := 26) E dX8_saysNumber_26 ?_
    refine z_wVv (pc := 27) (As := [.int (iI (48 + (v % 10)))]) (rest := []) E hml hown hts (mX8_says lL G o (zu μ 17 (μ 17 + ((nuL 8 (v / 10)).length : Int))) σ φ κ β (ouA ω (μ 17) (nuL 8 (v / 10))) (48 + (v % 10)) (by first | omega | (simp only [zu, Int.reduceEq, reduceIte]; omega)) (by first | omega | (simp only [zu, Int.reduceEq, reduceIte]; omega))) (cwV 1 hts gX8_saysNumber_X8_says rfl rfl rfl vdX8_says ⟨Nat.le_of_ble_eq_true rfl, Nat.le_of_ble_eq_true rfl⟩) (oB.recv hK hM.1 rfl) (W8.mu hM (by simp only [mV, zu, Int.reduceEq, reduceIte])) hK hS (fun _ h => h) rfl hl.1 rfl dX8_saysNumber_27 hcs (Nat.le_of_ble_eq_true rfl) (fun H locs hnew hsz hoth hS => ?_)
    have hM : W8 G o [.ref (o 1), .ref (o 2), .ref (o 3), .int (iI (μ 3)), .int (iI (μ 4)), .ref (o 4), .int (iI (μ 6)), .int (iI (μ 7)), .int (iI (μ 8)), .int (iI (μ 9)), .int (iI (μ 10)), .int (iI (μ 11)), .int (iI (μ 12)), .int (iI (μ 13)), .int (iI (μ 14)), .long (iL (μ 15)), .ref (o 5), .int (iI ((μ 17 + ((nuL 8 (v / 10)).length : Int)) + 1))] σ φ κ β (zu (ouA ω (μ 17) (nuL 8 (v / 10))) ((μ 17 + ((nuL 8 (v / 10)).length : Int))) (48 + (v % 10))) H := W8.eq hnew (by simp only [mV, zu, Int.reduceEq, reduceIte])
    exact z_retWv E hr (by rw [show nuL 9 v = nuL 8 (v / 10) ++ [48 + v % 10] from if_pos (by omega), ← ouA_2]; exact W8.mu hM (by rw [← ouA_l2]; simp only [mV, zu, Int.reduceEq, reduceIte])) hS hlocks dX8_saysNumber_30
set_option maxHeartbeats 1000000 in
set_option maxRecDepth 100000 in
theorem mX8_saysName0 (lL : Launch) (G : GG) (o : Nat → Nat) (μ σ φ κ β ω : Int → Int) (x : Int) (hx : 0 ≤ x ∧ x < 32) (hm : 0 ≤ μ 17 ∧ μ 17 + 1 ≤ 400) : Met lL yX8_saysName wsX8_saysName ({ frames := 1, cells := 0, slots := 0, locals := 21 } : Room) (va_Pc [.ref (o 0), .long (iL x)] (fun U => W8 G o (mV o μ) σ φ κ β ω U.heap ∧ KK G U)) (va_Qv (fun _ : Unit => True) (fun _ tZ => W8 G o (mV o (zu μ 17 (μ 17 + ((naL 0 x).length : Int)))) σ φ κ β (ouA ω (μ 17) (naL 0 x)) tZ.heap) (Ax o 6)) 0 0 (Ax o 6) := by
  refine z_met (P := (fun H : Heap => W8 G o (mV o μ) σ φ κ β ω H)) (by decide) rfl (Nat.le_of_ble_eq_true rfl) (fun pp ee ss mm below meth cC E hr hml hown hts hlocks hM hK ls hl => ?_)
  have hl : lv_has ls 3 [(0, .ref (o 0)), (1, .long (iL x))] := hl
  have hcs : 0 ≤ (({ frames := 1, cells := 0, slots := 0, locals := 21 } : Room)).cells ∧ 0 ≤ (({ frames := 1, cells := 0, slots := 0, locals := 21 } : Room)).slots := ⟨Nat.zero_le _, Nat.zero_le _⟩
  have hS : va_S (Ax o 6) ss.heap ss.heap [] := va_S.rf
  refine lv_lload_n (pc := 0) E.1 E.2 dX8_saysName_0 rfl (lv_at hl 1 rfl) ?_
  refine lv_ldc2 (pc := 1) (v := iL (31)) E.1 E.2 hown (show (Jvm.Cond.constantLong RX8 243 (iL (31))).before _ ss = true from (hts _ (List.mem_of_getElem? (i := 1) rfl))) dX8_saysName_1 ?_
  refine z_lcmp_le (pc := 4) (tgt := 15) E ⟨by omega, by omega⟩ (by decide) dX8_saysName_4 dX8_saysName_5 (by decide) (fun h4 => ?_) (fun h4 => ?_)
  · refine lv_aload_n (pc := 15) E.1 E.2 dX8_saysName_15 rfl (lv_at hl 0 rfl) ?_
    refine z_bipush (pc := 16) E (by decide) dX8_saysName_16 ?_
    refine lv_lload_n (pc := 18) E.1 E.2 dX8_saysName_18 rfl (lv_at hl 1 rfl) ?_
    refine lv_ldc2 (pc := 19) (v := iL (31)) E.1 E.2 hown (show (Jvm.Cond.constantLong RX8 243 (iL (31))).before _ ss = true from (hts _ (List.mem_of_getElem? (i := 1) rfl))) dX8_saysName_19 ?_
    refine z_land31 (pc := 22) E dX8_saysName_22 ?_
    refine z_l2i (pc := 23) E dX8_saysName_23 ?_
    refine z_iadd (pc := 24) E dX8_saysName_24 ?_
    refine z_wVv (pc := 25) (As := [.int (iI (96 + (x % 32)))]) (rest := []) E hml hown hts (mX8_says lL G o μ σ φ κ β ω (96 + (x % 32)) (by omega) (by omega)) (cwV 1 hts gX8_saysName_X8_says rfl rfl rfl vdX8_says ⟨Nat.le_of_ble_eq_true rfl, Nat.le_of_ble_eq_true rfl⟩) (oB.recv hK hM.1 rfl) hM hK hS (fun _ h => h) rfl hl.1 rfl dX8_saysName_25 hcs (Nat.le_of_ble_eq_true rfl) (fun H locs hnew hsz hoth hS => ?_)
    have hM : W8 G o [.ref (o 1), .ref (o 2), .ref (o 3), .int (iI (μ 3)), .int (iI (μ 4)), .ref (o 4), .int (iI (μ 6)), .int (iI (μ 7)), .int (iI (μ 8)), .int (iI (μ 9)), .int (iI (μ 10)), .int (iI (μ 11)), .int (iI (μ 12)), .int (iI (μ 13)), .int (iI (μ 14)), .long (iL (μ 15)), .ref (o 5), .int (iI (μ 17 + 1))] σ φ κ β (zu ω (μ 17) (96 + (x % 32))) H := W8.eq hnew (by simp only [mV, zu, Int.reduceEq, reduceIte])
    exact z_retWv E hr (by rw [show naL 0 x = [96 + x % 32] from rfl]; exact W8.mu hM (by simp only [mV, zu, Int.reduceEq, reduceIte]; rfl)) hS hlocks dX8_saysName_28
  · exact absurd h4 (by omega)
set_option maxHeartbeats 1000000 in
set_option maxRecDepth 100000 in
theorem mX8_saysName1 (lL : Launch) (G : GG) (o : Nat → Nat) (μ σ φ κ β ω : Int → Int) (x : Int) (hx : 0 ≤ x ∧ x < 1024) (hm : 0 ≤ μ 17 ∧ μ 17 + 2 ≤ 400) : Met lL yX8_saysName wsX8_saysName ({ frames := 2, cells := 0, slots := 0, locals := 43 } : Room) (va_Pc [.ref (o 0), .long (iL x)] (fun U => W8 G o (mV o μ) σ φ κ β ω U.heap ∧ KK G U)) (va_Qv (fun _ : Unit => True) (fun _ tZ => W8 G o (mV o (zu μ 17 (μ 17 + ((naL 1 x).length : Int)))) σ φ κ β (ouA ω (μ 17) (naL 1 x)) tZ.heap) (Ax o 6)) 0 0 (Ax o 6) := by
  refine z_met (P := (fun H : Heap => W8 G o (mV o μ) σ φ κ β ω H)) (by decide) rfl (Nat.le_of_ble_eq_true rfl) (fun pp ee ss mm below meth cC E hr hml hown hts hlocks hM hK ls hl => ?_)
  have hl : lv_has ls 3 [(0, .ref (o 0)), (1, .long (iL x))] := hl
  have hcs : 0 ≤ (({ frames := 2, cells := 0, slots := 0, locals := 43 } : Room)).cells ∧ 0 ≤ (({ frames := 2, cells := 0, slots := 0, locals := 43 } : Room)).slots := ⟨Nat.zero_le _, Nat.zero_le _⟩
  have hS : va_S (Ax o 6) ss.heap ss.heap [] := va_S.rf
  refine lv_lload_n (pc := 0) E.1 E.2 dX8_saysName_0 rfl (lv_at hl 1 rfl) ?_
  refine lv_ldc2 (pc := 1) (v := iL (31)) E.1 E.2 hown (show (Jvm.Cond.constantLong RX8 243 (iL (31))).before _ ss = true from (hts _ (List.mem_of_getElem? (i := 1) rfl))) dX8_saysName_1 ?_
  refine z_lcmp_le (pc := 4) (tgt := 15) E ⟨by omega, by omega⟩ (by decide) dX8_saysName_4 dX8_saysName_5 (by decide) (fun h4 => ?_) (fun h4 => ?_)
  · refine lv_aload_n (pc := 15) E.1 E.2 dX8_saysName_15 rfl (lv_at hl 0 rfl) ?_
    refine z_bipush (pc := 16) E (by decide) dX8_saysName_16 ?_
    refine lv_lload_n (pc := 18) E.1 E.2 dX8_saysName_18 rfl (lv_at hl 1 rfl) ?_
    refine lv_ldc2 (pc := 19) (v := iL (31)) E.1 E.2 hown (show (Jvm.Cond.constantLong RX8 243 (iL (31))).before _ ss = true from (hts _ (List.mem_of_getElem? (i := 1) rfl))) dX8_saysName_19 ?_
    refine z_land31 (pc := 22) E dX8_saysName_22 ?_
    refine z_l2i (pc := 23) E dX8_saysName_23 ?_
    refine z_iadd (pc := 24) E dX8_saysName_24 ?_
    refine z_wVv (pc := 25) (As := [.int (iI (96 + (x % 32)))]) (rest := []) E hml hown hts (mX8_says lL G o μ σ φ κ β ω (96 + (x % 32)) (by omega) (by omega)) (cwV 1 hts gX8_saysName_X8_says rfl rfl rfl vdX8_says ⟨Nat.le_of_ble_eq_true rfl, Nat.le_of_ble_eq_true rfl⟩) (oB.recv hK hM.1 rfl) hM hK hS (fun _ h => h) rfl hl.1 rfl dX8_saysName_25 hcs (Nat.le_of_ble_eq_true rfl) (fun H locs hnew hsz hoth hS => ?_)
    have hM : W8 G o [.ref (o 1), .ref (o 2), .ref (o 3), .int (iI (μ 3)), .int (iI (μ 4)), .ref (o 4), .int (iI (μ 6)), .int (iI (μ 7)), .int (iI (μ 8)), .int (iI (μ 9)), .int (iI (μ 10)), .int (iI (μ 11)), .int (iI (μ 12)), .int (iI (μ 13)), .int (iI (μ 14)), .long (iL (μ 15)), .ref (o 5), .int (iI (μ 17 + 1))] σ φ κ β (zu ω (μ 17) (96 + (x % 32))) H := W8.eq hnew (by simp only [mV, zu, Int.reduceEq, reduceIte])
    exact z_retWv E hr (by rw [show naL 1 x = [96 + x % 32] from if_neg (by omega)]; exact W8.mu hM (by simp only [mV, zu, Int.reduceEq, reduceIte]; rfl)) hS hlocks dX8_saysName_28
  · refine lv_aload_n (pc := 8) E.1 E.2 dX8_saysName_8 rfl (lv_at hl 0 rfl) ?_
    refine lv_lload_n (pc := 9) E.1 E.2 dX8_saysName_9 rfl (lv_at hl 1 rfl) ?_
    refine z_iconst (pc := 10) E dX8_saysName_10 ?_
    refine z_lshr (pc := 11) (n := 5) E ⟨by omega, by omega⟩ (by decide) dX8_saysName_11 ?_
    rw [show x / ((2 ^ 5 : Nat) : Int) = x / 32 from rfl]
    refine z_wVv (pc := 12) (As := [.long (iL (x / 32))]) (rest := []) E hml hown hts (mX8_saysName0 lL G o μ σ φ κ β ω (x / 32) (by omega) (by omega)) (cwV 1 hts gX8_saysName_X8_saysName rfl rfl rfl vdX8_saysName ⟨Nat.le_of_ble_eq_true rfl, Nat.le_of_ble_eq_true rfl⟩) (oB.recv hK hM.1 rfl) hM hK hS (fun _ h => h) rfl hl.1 rfl dX8_saysName_12 hcs (Nat.le_of_ble_eq_true rfl) (fun H locs hnew hsz hoth hS => ?_)
    have hM : W8 G o [.ref (o 1), .ref (o 2), .ref (o 3), .int (iI (μ 3)), .int (iI (μ 4)), .ref (o 4), .int (iI (μ 6)), .int (iI (μ 7)), .int (iI (μ 8)), .int (iI (μ 9)), .int (iI (μ 10)), .int (iI (μ 11)), .int (iI (μ 12)), .int (iI (μ 13)), .int (iI (μ 14)), .long (iL (μ 15)), .ref (o 5), .int (iI (μ 17 + ((naL 0 (x / 32)).length : Int)))] σ φ κ β (ouA ω (μ 17) (naL 0 (x / 32))) H := W8.eq hnew (by simp only [mV, zu, Int.reduceEq, reduceIte])
    have hlb := naL_b 0 (x / 32)
    refine lv_aload_n (pc := 15) E.1 E.2 dX8_saysName_15 rfl (lv_at hl 0 rfl) ?_
    refine z_bipush (pc := 16) E (by decide) dX8_saysName_16 ?_
    refine lv_lload_n (pc := 18) E.1 E.2 dX8_saysName_18 rfl (lv_at hl 1 rfl) ?_
    refine lv_ldc2 (pc := 19) (v := iL (31)) E.1 E.2 hown (show (Jvm.Cond.constantLong RX8 243 (iL (31))).before _ ss = true from (hts _ (List.mem_of_getElem? (i := 1) rfl))) dX8_saysName_19 ?_
    refine z_land31 (pc := 22) E dX8_saysName_22 ?_
    refine z_l2i (pc := 23) E dX8_saysName_23 ?_
    refine z_iadd (pc := 24) E dX8_saysName_24 ?_
    refine z_wVv (pc := 25) (As := [.int (iI (96 + (x % 32)))]) (rest := []) E hml hown hts (mX8_says lL G o (zu μ 17 (μ 17 + ((naL 0 (x / 32)).length : Int))) σ φ κ β (ouA ω (μ 17) (naL 0 (x / 32))) (96 + (x % 32)) (by first | omega | (simp only [zu, Int.reduceEq, reduceIte]; omega)) (by first | omega | (simp only [zu, Int.reduceEq, reduceIte]; omega))) (cwV 1 hts gX8_saysName_X8_says rfl rfl rfl vdX8_says ⟨Nat.le_of_ble_eq_true rfl, Nat.le_of_ble_eq_true rfl⟩) (oB.recv hK hM.1 rfl) (W8.mu hM (by simp only [mV, zu, Int.reduceEq, reduceIte])) hK hS (fun _ h => h) rfl hl.1 rfl dX8_saysName_25 hcs (Nat.le_of_ble_eq_true rfl) (fun H locs hnew hsz hoth hS => ?_)
    have hM : W8 G o [.ref (o 1), .ref (o 2), .ref (o 3), .int (iI (μ 3)), .int (iI (μ 4)), .ref (o 4), .int (iI (μ 6)), .int (iI (μ 7)), .int (iI (μ 8)), .int (iI (μ 9)), .int (iI (μ 10)), .int (iI (μ 11)), .int (iI (μ 12)), .int (iI (μ 13)), .int (iI (μ 14)), .long (iL (μ 15)), .ref (o 5), .int (iI ((μ 17 + ((naL 0 (x / 32)).length : Int)) + 1))] σ φ κ β (zu (ouA ω (μ 17) (naL 0 (x / 32))) ((μ 17 + ((naL 0 (x / 32)).length : Int))) (96 + (x % 32))) H := W8.eq hnew (by simp only [mV, zu, Int.reduceEq, reduceIte])
    exact z_retWv E hr (by rw [show naL 1 x = naL 0 (x / 32) ++ [96 + x % 32] from if_pos (by omega), ← ouA_2]; exact W8.mu hM (by rw [← ouA_l2]; simp only [mV, zu, Int.reduceEq, reduceIte])) hS hlocks dX8_saysName_28
set_option maxHeartbeats 1000000 in
set_option maxRecDepth 100000 in
theorem mX8_saysName2 (lL : Launch) (G : GG) (o : Nat → Nat) (μ σ φ κ β ω : Int → Int) (x : Int) (hx : 0 ≤ x ∧ x < 32768) (hm : 0 ≤ μ 17 ∧ μ 17 + 3 ≤ 400) : Met lL yX8_saysName wsX8_saysName ({ frames := 3, cells := 0, slots := 0, locals := 65 } : Room) (va_Pc [.ref (o 0), .long (iL x)] (fun U => W8 G o (mV o μ) σ φ κ β ω U.heap ∧ KK G U)) (va_Qv (fun _ : Unit => True) (fun _ tZ => W8 G o (mV o (zu μ 17 (μ 17 + ((naL 2 x).length : Int)))) σ φ κ β (ouA ω (μ 17) (naL 2 x)) tZ.heap) (Ax o 6)) 0 0 (Ax o 6) := by
  refine z_met (P := (fun H : Heap => W8 G o (mV o μ) σ φ κ β ω H)) (by decide) rfl (Nat.le_of_ble_eq_true rfl) (fun pp ee ss mm below meth cC E hr hml hown hts hlocks hM hK ls hl => ?_)
  have hl : lv_has ls 3 [(0, .ref (o 0)), (1, .long (iL x))] := hl
  have hcs : 0 ≤ (({ frames := 3, cells := 0, slots := 0, locals := 65 } : Room)).cells ∧ 0 ≤ (({ frames := 3, cells := 0, slots := 0, locals := 65 } : Room)).slots := ⟨Nat.zero_le _, Nat.zero_le _⟩
  have hS : va_S (Ax o 6) ss.heap ss.heap [] := va_S.rf
  refine lv_lload_n (pc := 0) E.1 E.2 dX8_saysName_0 rfl (lv_at hl 1 rfl) ?_
  refine lv_ldc2 (pc := 1) (v := iL (31)) E.1 E.2 hown (show (Jvm.Cond.constantLong RX8 243 (iL (31))).before _ ss = true from (hts _ (List.mem_of_getElem? (i := 1) rfl))) dX8_saysName_1 ?_
  refine z_lcmp_le (pc := 4) (tgt := 15) E ⟨by omega, by omega⟩ (by decide) dX8_saysName_4 dX8_saysName_5 (by decide) (fun h4 => ?_) (fun h4 => ?_)
  · refine lv_aload_n (pc := 15) E.1 E.2 dX8_saysName_15 rfl (lv_at hl 0 rfl) ?_
    refine z_bipush (pc := 16) E (by decide) dX8_saysName_16 ?_
    refine lv_lload_n (pc := 18) E.1 E.2 dX8_saysName_18 rfl (lv_at hl 1 rfl) ?_
    refine lv_ldc2 (pc := 19) (v := iL (31)) E.1 E.2 hown (show (Jvm.Cond.constantLong RX8 243 (iL (31))).before _ ss = true from (hts _ (List.mem_of_getElem? (i := 1) rfl))) dX8_saysName_19 ?_
    refine z_land31 (pc := 22) E dX8_saysName_22 ?_
    refine z_l2i (pc := 23) E dX8_saysName_23 ?_
    refine z_iadd (pc := 24) E dX8_saysName_24 ?_
    refine z_wVv (pc := 25) (As := [.int (iI (96 + (x % 32)))]) (rest := []) E hml hown hts (mX8_says lL G o μ σ φ κ β ω (96 + (x % 32)) (by omega) (by omega)) (cwV 1 hts gX8_saysName_X8_says rfl rfl rfl vdX8_says ⟨Nat.le_of_ble_eq_true rfl, Nat.le_of_ble_eq_true rfl⟩) (oB.recv hK hM.1 rfl) hM hK hS (fun _ h => h) rfl hl.1 rfl dX8_saysName_25 hcs (Nat.le_of_ble_eq_true rfl) (fun H locs hnew hsz hoth hS => ?_)
    have hM : W8 G o [.ref (o 1), .ref (o 2), .ref (o 3), .int (iI (μ 3)), .int (iI (μ 4)), .ref (o 4), .int (iI (μ 6)), .int (iI (μ 7)), .int (iI (μ 8)), .int (iI (μ 9)), .int (iI (μ 10)), .int (iI (μ 11)), .int (iI (μ 12)), .int (iI (μ 13)), .int (iI (μ 14)), .long (iL (μ 15)), .ref (o 5), .int (iI (μ 17 + 1))] σ φ κ β (zu ω (μ 17) (96 + (x % 32))) H := W8.eq hnew (by simp only [mV, zu, Int.reduceEq, reduceIte])
    exact z_retWv E hr (by rw [show naL 2 x = [96 + x % 32] from if_neg (by omega)]; exact W8.mu hM (by simp only [mV, zu, Int.reduceEq, reduceIte]; rfl)) hS hlocks dX8_saysName_28
  · refine lv_aload_n (pc := 8) E.1 E.2 dX8_saysName_8 rfl (lv_at hl 0 rfl) ?_
    refine lv_lload_n (pc := 9) E.1 E.2 dX8_saysName_9 rfl (lv_at hl 1 rfl) ?_
    refine z_iconst (pc := 10) E dX8_saysName_10 ?_
    refine z_lshr (pc := 11) (n := 5) E ⟨by omega, by omega⟩ (by decide) dX8_saysName_11 ?_
    rw [show x / ((2 ^ 5 : Nat) : Int) = x / 32 from rfl]
    refine z_wVv (pc := 12) (As := [.long (iL (x / 32))]) (rest := []) E hml hown hts (mX8_saysName1 lL G o μ σ φ κ β ω (x / 32) (by omega) (by omega)) (cwV 1 hts gX8_saysName_X8_saysName rfl rfl rfl vdX8_saysName ⟨Nat.le_of_ble_eq_true rfl, Nat.le_of_ble_eq_true rfl⟩) (oB.recv hK hM.1 rfl) hM hK hS (fun _ h => h) rfl hl.1 rfl dX8_saysName_12 hcs (Nat.le_of_ble_eq_true rfl) (fun H locs hnew hsz hoth hS => ?_)
    have hM : W8 G o [.ref (o 1), .ref (o 2), .ref (o 3), .int (iI (μ 3)), .int (iI (μ 4)), .ref (o 4), .int (iI (μ 6)), .int (iI (μ 7)), .int (iI (μ 8)), .int (iI (μ 9)), .int (iI (μ 10)), .int (iI (μ 11)), .int (iI (μ 12)), .int (iI (μ 13)), .int (iI (μ 14)), .long (iL (μ 15)), .ref (o 5), .int (iI (μ 17 + ((naL 1 (x / 32)).length : Int)))] σ φ κ β (ouA ω (μ 17) (naL 1 (x / 32))) H := W8.eq hnew (by simp only [mV, zu, Int.reduceEq, reduceIte])
    have hlb := naL_b 1 (x / 32)
    refine lv_aload_n (pc := 15) E.1 E.2 dX8_saysName_15 rfl (lv_at hl 0 rfl) ?_
    refine z_bipush (pc := 16) E (by decide) dX8_saysName_16 ?_
    refine lv_lload_n (pc := 18) E.1 E.2 dX8_saysName_18 rfl (lv_at hl 1 rfl) ?_
    refine lv_ldc2 (pc := 19) (v := iL (31)) E.1 E.2 hown (show (Jvm.Cond.constantLong RX8 243 (iL (31))).before _ ss = true from (hts _ (List.mem_of_getElem? (i := 1) rfl))) dX8_saysName_19 ?_
    refine z_land31 (pc := 22) E dX8_saysName_22 ?_
    refine z_l2i (pc := 23) E dX8_saysName_23 ?_
    refine z_iadd (pc := 24) E dX8_saysName_24 ?_
    refine z_wVv (pc := 25) (As := [.int (iI (96 + (x % 32)))]) (rest := []) E hml hown hts (mX8_says lL G o (zu μ 17 (μ 17 + ((naL 1 (x / 32)).length : Int))) σ φ κ β (ouA ω (μ 17) (naL 1 (x / 32))) (96 + (x % 32)) (by first | omega | (simp only [zu, Int.reduceEq, reduceIte]; omega)) (by first | omega | (simp only [zu, Int.reduceEq, reduceIte]; omega))) (cwV 1 hts gX8_saysName_X8_says rfl rfl rfl vdX8_says ⟨Nat.le_of_ble_eq_true rfl, Nat.le_of_ble_eq_true rfl⟩) (oB.recv hK hM.1 rfl) (W8.mu hM (by simp only [mV, zu, Int.reduceEq, reduceIte])) hK hS (fun _ h => h) rfl hl.1 rfl dX8_saysName_25 hcs (Nat.le_of_ble_eq_true rfl) (fun H locs hnew hsz hoth hS => ?_)
    have hM : W8 G o [.ref (o 1), .ref (o 2), .ref (o 3), .int (iI (μ 3)), .int (iI (μ 4)), .ref (o 4), .int (iI (μ 6)), .int (iI (μ 7)), .int (iI (μ 8)), .int (iI (μ 9)), .int (iI (μ 10)), .int (iI (μ 11)), .int (iI (μ 12)), .int (iI (μ 13)), .int (iI (μ 14)), .long (iL (μ 15)), .ref (o 5), .int (iI ((μ 17 + ((naL 1 (x / 32)).length : Int)) + 1))] σ φ κ β (zu (ouA ω (μ 17) (naL 1 (x / 32))) ((μ 17 + ((naL 1 (x / 32)).length : Int))) (96 + (x % 32))) H := W8.eq hnew (by simp only [mV, zu, Int.reduceEq, reduceIte])
    exact z_retWv E hr (by rw [show naL 2 x = naL 1 (x / 32) ++ [96 + x % 32] from if_pos (by omega), ← ouA_2]; exact W8.mu hM (by rw [← ouA_l2]; simp only [mV, zu, Int.reduceEq, reduceIte])) hS hlocks dX8_saysName_28
set_option maxHeartbeats 1000000 in
set_option maxRecDepth 100000 in
theorem mX8_saysName3 (lL : Launch) (G : GG) (o : Nat → Nat) (μ σ φ κ β ω : Int → Int) (x : Int) (hx : 0 ≤ x ∧ x < 1048576) (hm : 0 ≤ μ 17 ∧ μ 17 + 4 ≤ 400) : Met lL yX8_saysName wsX8_saysName ({ frames := 4, cells := 0, slots := 0, locals := 87 } : Room) (va_Pc [.ref (o 0), .long (iL x)] (fun U => W8 G o (mV o μ) σ φ κ β ω U.heap ∧ KK G U)) (va_Qv (fun _ : Unit => True) (fun _ tZ => W8 G o (mV o (zu μ 17 (μ 17 + ((naL 3 x).length : Int)))) σ φ κ β (ouA ω (μ 17) (naL 3 x)) tZ.heap) (Ax o 6)) 0 0 (Ax o 6) := by
  refine z_met (P := (fun H : Heap => W8 G o (mV o μ) σ φ κ β ω H)) (by decide) rfl (Nat.le_of_ble_eq_true rfl) (fun pp ee ss mm below meth cC E hr hml hown hts hlocks hM hK ls hl => ?_)
  have hl : lv_has ls 3 [(0, .ref (o 0)), (1, .long (iL x))] := hl
  have hcs : 0 ≤ (({ frames := 4, cells := 0, slots := 0, locals := 87 } : Room)).cells ∧ 0 ≤ (({ frames := 4, cells := 0, slots := 0, locals := 87 } : Room)).slots := ⟨Nat.zero_le _, Nat.zero_le _⟩
  have hS : va_S (Ax o 6) ss.heap ss.heap [] := va_S.rf
  refine lv_lload_n (pc := 0) E.1 E.2 dX8_saysName_0 rfl (lv_at hl 1 rfl) ?_
  refine lv_ldc2 (pc := 1) (v := iL (31)) E.1 E.2 hown (show (Jvm.Cond.constantLong RX8 243 (iL (31))).before _ ss = true from (hts _ (List.mem_of_getElem? (i := 1) rfl))) dX8_saysName_1 ?_
  refine z_lcmp_le (pc := 4) (tgt := 15) E ⟨by omega, by omega⟩ (by decide) dX8_saysName_4 dX8_saysName_5 (by decide) (fun h4 => ?_) (fun h4 => ?_)
  · refine lv_aload_n (pc := 15) E.1 E.2 dX8_saysName_15 rfl (lv_at hl 0 rfl) ?_
    refine z_bipush (pc := 16) E (by decide) dX8_saysName_16 ?_
    refine lv_lload_n (pc := 18) E.1 E.2 dX8_saysName_18 rfl (lv_at hl 1 rfl) ?_
    refine lv_ldc2 (pc := 19) (v := iL (31)) E.1 E.2 hown (show (Jvm.Cond.constantLong RX8 243 (iL (31))).before _ ss = true from (hts _ (List.mem_of_getElem? (i := 1) rfl))) dX8_saysName_19 ?_
    refine z_land31 (pc := 22) E dX8_saysName_22 ?_
    refine z_l2i (pc := 23) E dX8_saysName_23 ?_
    refine z_iadd (pc := 24) E dX8_saysName_24 ?_
    refine z_wVv (pc := 25) (As := [.int (iI (96 + (x % 32)))]) (rest := []) E hml hown hts (mX8_says lL G o μ σ φ κ β ω (96 + (x % 32)) (by omega) (by omega)) (cwV 1 hts gX8_saysName_X8_says rfl rfl rfl vdX8_says ⟨Nat.le_of_ble_eq_true rfl, Nat.le_of_ble_eq_true rfl⟩) (oB.recv hK hM.1 rfl) hM hK hS (fun _ h => h) rfl hl.1 rfl dX8_saysName_25 hcs (Nat.le_of_ble_eq_true rfl) (fun H locs hnew hsz hoth hS => ?_)
    have hM : W8 G o [.ref (o 1), .ref (o 2), .ref (o 3), .int (iI (μ 3)), .int (iI (μ 4)), .ref (o 4), .int (iI (μ 6)), .int (iI (μ 7)), .int (iI (μ 8)), .int (iI (μ 9)), .int (iI (μ 10)), .int (iI (μ 11)), .int (iI (μ 12)), .int (iI (μ 13)), .int (iI (μ 14)), .long (iL (μ 15)), .ref (o 5), .int (iI (μ 17 + 1))] σ φ κ β (zu ω (μ 17) (96 + (x % 32))) H := W8.eq hnew (by simp only [mV, zu, Int.reduceEq, reduceIte])
    exact z_retWv E hr (by rw [show naL 3 x = [96 + x % 32] from if_neg (by omega)]; exact W8.mu hM (by simp only [mV, zu, Int.reduceEq, reduceIte]; rfl)) hS hlocks dX8_saysName_28
  · refine lv_aload_n (pc := 8) E.1 E.2 dX8_saysName_8 rfl (lv_at hl 0 rfl) ?_
    refine lv_lload_n (pc := 9) E.1 E.2 dX8_saysName_9 rfl (lv_at hl 1 rfl) ?_
    refine z_iconst (pc := 10) E dX8_saysName_10 ?_
    refine z_lshr (pc := 11) (n := 5) E ⟨by omega, by omega⟩ (by decide) dX8_saysName_11 ?_
    rw [show x / ((2 ^ 5 : Nat) : Int) = x / 32 from rfl]
    refine z_wVv (pc := 12) (As := [.long (iL (x / 32))]) (rest := []) E hml hown hts (mX8_saysName2 lL G o μ σ φ κ β ω (x / 32) (by omega) (by omega)) (cwV 1 hts gX8_saysName_X8_saysName rfl rfl rfl vdX8_saysName ⟨Nat.le_of_ble_eq_true rfl, Nat.le_of_ble_eq_true rfl⟩) (oB.recv hK hM.1 rfl) hM hK hS (fun _ h => h) rfl hl.1 rfl dX8_saysName_12 hcs (Nat.le_of_ble_eq_true rfl) (fun H locs hnew hsz hoth hS => ?_)
    have hM : W8 G o [.ref (o 1), .ref (o 2), .ref (o 3), .int (iI (μ 3)), .int (iI (μ 4)), .ref (o 4), .int (iI (μ 6)), .int (iI (μ 7)), .int (iI (μ 8)), .int (iI (μ 9)), .int (iI (μ 10)), .int (iI (μ 11)), .int (iI (μ 12)), .int (iI (μ 13)), .int (iI (μ 14)), .long (iL (μ 15)), .ref (o 5), .int (iI (μ 17 + ((naL 2 (x / 32)).length : Int)))] σ φ κ β (ouA ω (μ 17) (naL 2 (x / 32))) H := W8.eq hnew (by simp only [mV, zu, Int.reduceEq, reduceIte])
    have hlb := naL_b 2 (x / 32)
    refine lv_aload_n (pc := 15) E.1 E.2 dX8_saysName_15 rfl (lv_at hl 0 rfl) ?_
    refine z_bipush (pc := 16) E (by decide) dX8_saysName_16 ?_
    refine lv_lload_n (pc := 18) E.1 E.2 dX8_saysName_18 rfl (lv_at hl 1 rfl) ?_
    refine lv_ldc2 (pc := 19) (v := iL (31)) E.1 E.2 hown (show (Jvm.Cond.constantLong RX8 243 (iL (31))).before _ ss = true from (hts _ (List.mem_of_getElem? (i := 1) rfl))) dX8_saysName_19 ?_
    refine z_land31 (pc := 22) E dX8_saysName_22 ?_
    refine z_l2i (pc := 23) E dX8_saysName_23 ?_
    refine z_iadd (pc := 24) E dX8_saysName_24 ?_
    refine z_wVv (pc := 25) (As := [.int (iI (96 + (x % 32)))]) (rest := []) E hml hown hts (mX8_says lL G o (zu μ 17 (μ 17 + ((naL 2 (x / 32)).length : Int))) σ φ κ β (ouA ω (μ 17) (naL 2 (x / 32))) (96 + (x % 32)) (by first | omega | (simp only [zu, Int.reduceEq, reduceIte]; omega)) (by first | omega | (simp only [zu, Int.reduceEq, reduceIte]; omega))) (cwV 1 hts gX8_saysName_X8_says rfl rfl rfl vdX8_says ⟨Nat.le_of_ble_eq_true rfl, Nat.le_of_ble_eq_true rfl⟩) (oB.recv hK hM.1 rfl) (W8.mu hM (by simp only [mV, zu, Int.reduceEq, reduceIte])) hK hS (fun _ h => h) rfl hl.1 rfl dX8_saysName_25 hcs (Nat.le_of_ble_eq_true rfl) (fun H locs hnew hsz hoth hS => ?_)
    have hM : W8 G o [.ref (o 1), .ref (o 2), .ref (o 3), .int (iI (μ 3)), .int (iI (μ 4)), .ref (o 4), .int (iI (μ 6)), .int (iI (μ 7)), .int (iI (μ 8)), .int (iI (μ 9)), .int (iI (μ 10)), .int (iI (μ 11)), .int (iI (μ 12)), .int (iI (μ 13)), .int (iI (μ 14)), .long (iL (μ 15)), .ref (o 5), .int (iI ((μ 17 + ((naL 2 (x / 32)).length : Int)) + 1))] σ φ κ β (zu (ouA ω (μ 17) (naL 2 (x / 32))) ((μ 17 + ((naL 2 (x / 32)).length : Int))) (96 + (x % 32))) H := W8.eq hnew (by simp only [mV, zu, Int.reduceEq, reduceIte])
    exact z_retWv E hr (by rw [show naL 3 x = naL 2 (x / 32) ++ [96 + x % 32] from if_pos (by omega), ← ouA_2]; exact W8.mu hM (by rw [← ouA_l2]; simp only [mV, zu, Int.reduceEq, reduceIte])) hS hlocks dX8_saysName_28
set_option maxHeartbeats 1000000 in
set_option maxRecDepth 100000 in
theorem mX8_saysName4 (lL : Launch) (G : GG) (o : Nat → Nat) (μ σ φ κ β ω : Int → Int) (x : Int) (hx : 0 ≤ x ∧ x < 33554432) (hm : 0 ≤ μ 17 ∧ μ 17 + 5 ≤ 400) : Met lL yX8_saysName wsX8_saysName ({ frames := 5, cells := 0, slots := 0, locals := 109 } : Room) (va_Pc [.ref (o 0), .long (iL x)] (fun U => W8 G o (mV o μ) σ φ κ β ω U.heap ∧ KK G U)) (va_Qv (fun _ : Unit => True) (fun _ tZ => W8 G o (mV o (zu μ 17 (μ 17 + ((naL 4 x).length : Int)))) σ φ κ β (ouA ω (μ 17) (naL 4 x)) tZ.heap) (Ax o 6)) 0 0 (Ax o 6) := by
  refine z_met (P := (fun H : Heap => W8 G o (mV o μ) σ φ κ β ω H)) (by decide) rfl (Nat.le_of_ble_eq_true rfl) (fun pp ee ss mm below meth cC E hr hml hown hts hlocks hM hK ls hl => ?_)
  have hl : lv_has ls 3 [(0, .ref (o 0)), (1, .long (iL x))] := hl
  have hcs : 0 ≤ (({ frames := 5, cells := 0, slots := 0, locals := 109 } : Room)).cells ∧ 0 ≤ (({ frames := 5, cells := 0, slots := 0, locals := 109 } : Room)).slots := ⟨Nat.zero_le _, Nat.zero_le _⟩
  have hS : va_S (Ax o 6) ss.heap ss.heap [] := va_S.rf
  refine lv_lload_n (pc := 0) E.1 E.2 dX8_saysName_0 rfl (lv_at hl 1 rfl) ?_
  refine lv_ldc2 (pc := 1) (v := iL (31)) E.1 E.2 hown (show (Jvm.Cond.constantLong RX8 243 (iL (31))).before _ ss = true from (hts _ (List.mem_of_getElem? (i := 1) rfl))) dX8_saysName_1 ?_
  refine z_lcmp_le (pc := 4) (tgt := 15) E ⟨by omega, by omega⟩ (by decide) dX8_saysName_4 dX8_saysName_5 (by decide) (fun h4 => ?_) (fun h4 => ?_)
  · refine lv_aload_n (pc := 15) E.1 E.2 dX8_saysName_15 rfl (lv_at hl 0 rfl) ?_
    refine z_bipush (pc := 16) E (by decide) dX8_saysName_16 ?_
    refine lv_lload_n (pc := 18) E.1 E.2 dX8_saysName_18 rfl (lv_at hl 1 rfl) ?_
    refine lv_ldc2 (pc := 19) (v := iL (31)) E.1 E.2 hown (show (Jvm.Cond.constantLong RX8 243 (iL (31))).before _ ss = true from (hts _ (List.mem_of_getElem? (i := 1) rfl))) dX8_saysName_19 ?_
    refine z_land31 (pc := 22) E dX8_saysName_22 ?_
    refine z_l2i (pc := 23) E dX8_saysName_23 ?_
    refine z_iadd (pc := 24) E dX8_saysName_24 ?_
    refine z_wVv (pc := 25) (As := [.int (iI (96 + (x % 32)))]) (rest := []) E hml hown hts (mX8_says lL G o μ σ φ κ β ω (96 + (x % 32)) (by omega) (by omega)) (cwV 1 hts gX8_saysName_X8_says rfl rfl rfl vdX8_says ⟨Nat.le_of_ble_eq_true rfl, Nat.le_of_ble_eq_true rfl⟩) (oB.recv hK hM.1 rfl) hM hK hS (fun _ h => h) rfl hl.1 rfl dX8_saysName_25 hcs (Nat.le_of_ble_eq_true rfl) (fun H locs hnew hsz hoth hS => ?_)
    have hM : W8 G o [.ref (o 1), .ref (o 2), .ref (o 3), .int (iI (μ 3)), .int (iI (μ 4)), .ref (o 4), .int (iI (μ 6)), .int (iI (μ 7)), .int (iI (μ 8)), .int (iI (μ 9)), .int (iI (μ 10)), .int (iI (μ 11)), .int (iI (μ 12)), .int (iI (μ 13)), .int (iI (μ 14)), .long (iL (μ 15)), .ref (o 5), .int (iI (μ 17 + 1))] σ φ κ β (zu ω (μ 17) (96 + (x % 32))) H := W8.eq hnew (by simp only [mV, zu, Int.reduceEq, reduceIte])
    exact z_retWv E hr (by rw [show naL 4 x = [96 + x % 32] from if_neg (by omega)]; exact W8.mu hM (by simp only [mV, zu, Int.reduceEq, reduceIte]; rfl)) hS hlocks dX8_saysName_28
  · refine lv_aload_n (pc := 8) E.1 E.2 dX8_saysName_8 rfl (lv_at hl 0 rfl) ?_
    refine lv_lload_n (pc := 9) E.1 E.2 dX8_saysName_9 rfl (lv_at hl 1 rfl) ?_
    refine z_iconst (pc := 10) E dX8_saysName_10 ?_
    refine z_lshr (pc := 11) (n := 5) E ⟨by omega, by omega⟩ (by decide) dX8_saysName_11 ?_
    rw [show x / ((2 ^ 5 : Nat) : Int) = x / 32 from rfl]
    refine z_wVv (pc := 12) (As := [.long (iL (x / 32))]) (rest := []) E hml hown hts (mX8_saysName3 lL G o μ σ φ κ β ω (x / 32) (by omega) (by omega)) (cwV 1 hts gX8_saysName_X8_saysName rfl rfl rfl vdX8_saysName ⟨Nat.le_of_ble_eq_true rfl, Nat.le_of_ble_eq_true rfl⟩) (oB.recv hK hM.1 rfl) hM hK hS (fun _ h => h) rfl hl.1 rfl dX8_saysName_12 hcs (Nat.le_of_ble_eq_true rfl) (fun H locs hnew hsz hoth hS => ?_)
    have hM : W8 G o [.ref (o 1), .ref (o 2), .ref (o 3), .int (iI (μ 3)), .int (iI (μ 4)), .ref (o 4), .int (iI (μ 6)), .int (iI (μ 7)), .int (iI (μ 8)), .int (iI (μ 9)), .int (iI (μ 10)), .int (iI (μ 11)), .int (iI (μ 12)), .int (iI (μ 13)), .int (iI (μ 14)), .long (iL (μ 15)), .ref (o 5), .int (iI (μ 17 + ((naL 3 (x / 32)).length : Int)))] σ φ κ β (ouA ω (μ 17) (naL 3 (x / 32))) H := W8.eq hnew (by simp only [mV, zu, Int.reduceEq, reduceIte])
    have hlb := naL_b 3 (x / 32)
    refine lv_aload_n (pc := 15) E.1 E.2 dX8_saysName_15 rfl (lv_at hl 0 rfl) ?_
    refine z_bipush (pc := 16) E (by decide) dX8_saysName_16 ?_
    refine lv_lload_n (pc := 18) E.1 E.2 dX8_saysName_18 rfl (lv_at hl 1 rfl) ?_
    refine lv_ldc2 (pc := 19) (v := iL (31)) E.1 E.2 hown (show (Jvm.Cond.constantLong RX8 243 (iL (31))).before _ ss = true from (hts _ (List.mem_of_getElem? (i := 1) rfl))) dX8_saysName_19 ?_
    refine z_land31 (pc := 22) E dX8_saysName_22 ?_
    refine z_l2i (pc := 23) E dX8_saysName_23 ?_
    refine z_iadd (pc := 24) E dX8_saysName_24 ?_
    refine z_wVv (pc := 25) (As := [.int (iI (96 + (x % 32)))]) (rest := []) E hml hown hts (mX8_says lL G o (zu μ 17 (μ 17 + ((naL 3 (x / 32)).length : Int))) σ φ κ β (ouA ω (μ 17) (naL 3 (x / 32))) (96 + (x % 32)) (by first | omega | (simp only [zu, Int.reduceEq, reduceIte]; omega)) (by first | omega | (simp only [zu, Int.reduceEq, reduceIte]; omega))) (cwV 1 hts gX8_saysName_X8_says rfl rfl rfl vdX8_says ⟨Nat.le_of_ble_eq_true rfl, Nat.le_of_ble_eq_true rfl⟩) (oB.recv hK hM.1 rfl) (W8.mu hM (by simp only [mV, zu, Int.reduceEq, reduceIte])) hK hS (fun _ h => h) rfl hl.1 rfl dX8_saysName_25 hcs (Nat.le_of_ble_eq_true rfl) (fun H locs hnew hsz hoth hS => ?_)
    have hM : W8 G o [.ref (o 1), .ref (o 2), .ref (o 3), .int (iI (μ 3)), .int (iI (μ 4)), .ref (o 4), .int (iI (μ 6)), .int (iI (μ 7)), .int (iI (μ 8)), .int (iI (μ 9)), .int (iI (μ 10)), .int (iI (μ 11)), .int (iI (μ 12)), .int (iI (μ 13)), .int (iI (μ 14)), .long (iL (μ 15)), .ref (o 5), .int (iI ((μ 17 + ((naL 3 (x / 32)).length : Int)) + 1))] σ φ κ β (zu (ouA ω (μ 17) (naL 3 (x / 32))) ((μ 17 + ((naL 3 (x / 32)).length : Int))) (96 + (x % 32))) H := W8.eq hnew (by simp only [mV, zu, Int.reduceEq, reduceIte])
    exact z_retWv E hr (by rw [show naL 4 x = naL 3 (x / 32) ++ [96 + x % 32] from if_pos (by omega), ← ouA_2]; exact W8.mu hM (by rw [← ouA_l2]; simp only [mV, zu, Int.reduceEq, reduceIte])) hS hlocks dX8_saysName_28
set_option maxHeartbeats 1000000 in
set_option maxRecDepth 100000 in
theorem mX8_saysName5 (lL : Launch) (G : GG) (o : Nat → Nat) (μ σ φ κ β ω : Int → Int) (x : Int) (hx : 0 ≤ x ∧ x < 1073741824) (hm : 0 ≤ μ 17 ∧ μ 17 + 6 ≤ 400) : Met lL yX8_saysName wsX8_saysName ({ frames := 6, cells := 0, slots := 0, locals := 131 } : Room) (va_Pc [.ref (o 0), .long (iL x)] (fun U => W8 G o (mV o μ) σ φ κ β ω U.heap ∧ KK G U)) (va_Qv (fun _ : Unit => True) (fun _ tZ => W8 G o (mV o (zu μ 17 (μ 17 + ((naL 5 x).length : Int)))) σ φ κ β (ouA ω (μ 17) (naL 5 x)) tZ.heap) (Ax o 6)) 0 0 (Ax o 6) := by
  refine z_met (P := (fun H : Heap => W8 G o (mV o μ) σ φ κ β ω H)) (by decide) rfl (Nat.le_of_ble_eq_true rfl) (fun pp ee ss mm below meth cC E hr hml hown hts hlocks hM hK ls hl => ?_)
  have hl : lv_has ls 3 [(0, .ref (o 0)), (1, .long (iL x))] := hl
  have hcs : 0 ≤ (({ frames := 6, cells := 0, slots := 0, locals := 131 } : Room)).cells ∧ 0 ≤ (({ frames := 6, cells := 0, slots := 0, locals := 131 } : Room)).slots := ⟨Nat.zero_le _, Nat.zero_le _⟩
  have hS : va_S (Ax o 6) ss.heap ss.heap [] := va_S.rf
  refine lv_lload_n (pc := 0) E.1 E.2 dX8_saysName_0 rfl (lv_at hl 1 rfl) ?_
  refine lv_ldc2 (pc := 1) (v := iL (31)) E.1 E.2 hown (show (Jvm.Cond.constantLong RX8 243 (iL (31))).before _ ss = true from (hts _ (List.mem_of_getElem? (i := 1) rfl))) dX8_saysName_1 ?_
  refine z_lcmp_le (pc := 4) (tgt := 15) E ⟨by omega, by omega⟩ (by decide) dX8_saysName_4 dX8_saysName_5 (by decide) (fun h4 => ?_) (fun h4 => ?_)
  · refine lv_aload_n (pc := 15) E.1 E.2 dX8_saysName_15 rfl (lv_at hl 0 rfl) ?_
    refine z_bipush (pc := 16) E (by decide) dX8_saysName_16 ?_
    refine lv_lload_n (pc := 18) E.1 E.2 dX8_saysName_18 rfl (lv_at hl 1 rfl) ?_
    refine lv_ldc2 (pc := 19) (v := iL (31)) E.1 E.2 hown (show (Jvm.Cond.constantLong RX8 243 (iL (31))).before _ ss = true from (hts _ (List.mem_of_getElem? (i := 1) rfl))) dX8_saysName_19 ?_
    refine z_land31 (pc := 22) E dX8_saysName_22 ?_
    refine z_l2i (pc := 23) E dX8_saysName_23 ?_
    refine z_iadd (pc := 24) E dX8_saysName_24 ?_
    refine z_wVv (pc := 25) (As := [.int (iI (96 + (x % 32)))]) (rest := []) E hml hown hts (mX8_says lL G o μ σ φ κ β ω (96 + (x % 32)) (by omega) (by omega)) (cwV 1 hts gX8_saysName_X8_says rfl rfl rfl vdX8_says ⟨Nat.le_of_ble_eq_true rfl, Nat.le_of_ble_eq_true rfl⟩) (oB.recv hK hM.1 rfl) hM hK hS (fun _ h => h) rfl hl.1 rfl dX8_saysName_25 hcs (Nat.le_of_ble_eq_true rfl) (fun H locs hnew hsz hoth hS => ?_)
    have hM : W8 G o [.ref (o 1), .ref (o 2), .ref (o 3), .int (iI (μ 3)), .int (iI (μ 4)), .ref (o 4), .int (iI (μ 6)), .int (iI (μ 7)), .int (iI (μ 8)), .int (iI (μ 9)), .int (iI (μ 10)), .int (iI (μ 11)), .int (iI (μ 12)), .int (iI (μ 13)), .int (iI (μ 14)), .long (iL (μ 15)), .ref (o 5), .int (iI (μ 17 + 1))] σ φ κ β (zu ω (μ 17) (96 + (x % 32))) H := W8.eq hnew (by simp only [mV, zu, Int.reduceEq, reduceIte])
    exact z_retWv E hr (by rw [show naL 5 x = [96 + x % 32] from if_neg (by omega)]; exact W8.mu hM (by simp only [mV, zu, Int.reduceEq, reduceIte]; rfl)) hS hlocks dX8_saysName_28
  · refine lv_aload_n (pc := 8) E.1 E.2 dX8_saysName_8 rfl (lv_at hl 0 rfl) ?_
    refine lv_lload_n (pc := 9) E.1 E.2 dX8_saysName_9 rfl (lv_at hl 1 rfl) ?_
    refine z_iconst (pc := 10) E dX8_saysName_10 ?_
    refine z_lshr (pc := 11) (n := 5) E ⟨by omega, by omega⟩ (by decide) dX8_saysName_11 ?_
    rw [show x / ((2 ^ 5 : Nat) : Int) = x / 32 from rfl]
    refine z_wVv (pc := 12) (As := [.long (iL (x / 32))]) (rest := []) E hml hown hts (mX8_saysName4 lL G o μ σ φ κ β ω (x / 32) (by omega) (by omega)) (cwV 1 hts gX8_saysName_X8_saysName rfl rfl rfl vdX8_saysName ⟨Nat.le_of_ble_eq_true rfl, Nat.le_of_ble_eq_true rfl⟩) (oB.recv hK hM.1 rfl) hM hK hS (fun _ h => h) rfl hl.1 rfl dX8_saysName_12 hcs (Nat.le_of_ble_eq_true rfl) (fun H locs hnew hsz hoth hS => ?_)
    have hM : W8 G o [.ref (o 1), .ref (o 2), .ref (o 3), .int (iI (μ 3)), .int (iI (μ 4)), .ref (o 4), .int (iI (μ 6)), .int (iI (μ 7)), .int (iI (μ 8)), .int (iI (μ 9)), .int (iI (μ 10)), .int (iI (μ 11)), .int (iI (μ 12)), .int (iI (μ 13)), .int (iI (μ 14)), .long (iL (μ 15)), .ref (o 5), .int (iI (μ 17 + ((naL 4 (x / 32)).length : Int)))] σ φ κ β (ouA ω (μ 17) (naL 4 (x / 32))) H := W8.eq hnew (by simp only [mV, zu, Int.reduceEq, reduceIte])
    have hlb := naL_b 4 (x / 32)
    refine lv_aload_n (pc := 15) E.1 E.2 dX8_saysName_15 rfl (lv_at hl 0 rfl) ?_
    refine z_bipush (pc := 16) E (by decide) dX8_saysName_16 ?_
    refine lv_lload_n (pc := 18) E.1 E.2 dX8_saysName_18 rfl (lv_at hl 1 rfl) ?_
    refine lv_ldc2 (pc := 19) (v := iL (31)) E.1 E.2 hown (show (Jvm.Cond.constantLong RX8 243 (iL (31))).before _ ss = true from (hts _ (List.mem_of_getElem? (i := 1) rfl))) dX8_saysName_19 ?_
    refine z_land31 (pc := 22) E dX8_saysName_22 ?_
    refine z_l2i (pc := 23) E dX8_saysName_23 ?_
    refine z_iadd (pc := 24) E dX8_saysName_24 ?_
    refine z_wVv (pc := 25) (As := [.int (iI (96 + (x % 32)))]) (rest := []) E hml hown hts (mX8_says lL G o (zu μ 17 (μ 17 + ((naL 4 (x / 32)).length : Int))) σ φ κ β (ouA ω (μ 17) (naL 4 (x / 32))) (96 + (x % 32)) (by first | omega | (simp only [zu, Int.reduceEq, reduceIte]; omega)) (by first | omega | (simp only [zu, Int.reduceEq, reduceIte]; omega))) (cwV 1 hts gX8_saysName_X8_says rfl rfl rfl vdX8_says ⟨Nat.le_of_ble_eq_true rfl, Nat.le_of_ble_eq_true rfl⟩) (oB.recv hK hM.1 rfl) (W8.mu hM (by simp only [mV, zu, Int.reduceEq, reduceIte])) hK hS (fun _ h => h) rfl hl.1 rfl dX8_saysName_25 hcs (Nat.le_of_ble_eq_true rfl) (fun H locs hnew hsz hoth hS => ?_)
    have hM : W8 G o [.ref (o 1), .ref (o 2), .ref (o 3), .int (iI (μ 3)), .int (iI (μ 4)), .ref (o 4), .int (iI (μ 6)), .int (iI (μ 7)), .int (iI (μ 8)), .int (iI (μ 9)), .int (iI (μ 10)), .int (iI (μ 11)), .int (iI (μ 12)), .int (iI (μ 13)), .int (iI (μ 14)), .long (iL (μ 15)), .ref (o 5), .int (iI ((μ 17 + ((naL 4 (x / 32)).length : Int)) + 1))] σ φ κ β (zu (ouA ω (μ 17) (naL 4 (x / 32))) ((μ 17 + ((naL 4 (x / 32)).length : Int))) (96 + (x % 32))) H := W8.eq hnew (by simp only [mV, zu, Int.reduceEq, reduceIte])
    exact z_retWv E hr (by rw [show naL 5 x = naL 4 (x / 32) ++ [96 + x % 32] from if_pos (by omega), ← ouA_2]; exact W8.mu hM (by rw [← ouA_l2]; simp only [mV, zu, Int.reduceEq, reduceIte])) hS hlocks dX8_saysName_28
set_option maxHeartbeats 1000000 in
set_option maxRecDepth 100000 in
theorem mX8_saysName6 (lL : Launch) (G : GG) (o : Nat → Nat) (μ σ φ κ β ω : Int → Int) (x : Int) (hx : 0 ≤ x ∧ x < 34359738368) (hm : 0 ≤ μ 17 ∧ μ 17 + 7 ≤ 400) : Met lL yX8_saysName wsX8_saysName ({ frames := 7, cells := 0, slots := 0, locals := 153 } : Room) (va_Pc [.ref (o 0), .long (iL x)] (fun U => W8 G o (mV o μ) σ φ κ β ω U.heap ∧ KK G U)) (va_Qv (fun _ : Unit => True) (fun _ tZ => W8 G o (mV o (zu μ 17 (μ 17 + ((naL 6 x).length : Int)))) σ φ κ β (ouA ω (μ 17) (naL 6 x)) tZ.heap) (Ax o 6)) 0 0 (Ax o 6) := by
  refine z_met (P := (fun H : Heap => W8 G o (mV o μ) σ φ κ β ω H)) (by decide) rfl (Nat.le_of_ble_eq_true rfl) (fun pp ee ss mm below meth cC E hr hml hown hts hlocks hM hK ls hl => ?_)
  have hl : lv_has ls 3 [(0, .ref (o 0)), (1, .long (iL x))] := hl
  have hcs : 0 ≤ (({ frames := 7, cells := 0, slots := 0, locals := 153 } : Room)).cells ∧ 0 ≤ (({ frames := 7, cells := 0, slots := 0, locals := 153 } : Room)).slots := ⟨Nat.zero_le _, Nat.zero_le _⟩
  have hS : va_S (Ax o 6) ss.heap ss.heap [] := va_S.rf
  refine lv_lload_n (pc := 0) E.1 E.2 dX8_saysName_0 rfl (lv_at hl 1 rfl) ?_
  refine lv_ldc2 (pc := 1) (v := iL (31)) E.1 E.2 hown (show (Jvm.Cond.constantLong RX8 243 (iL (31))).before _ ss = true from (hts _ (List.mem_of_getElem? (i := 1) rfl))) dX8_saysName_1 ?_
  refine z_lcmp_le (pc := 4) (tgt := 15) E ⟨by omega, by omega⟩ (by decide) dX8_saysName_4 dX8_saysName_5 (by decide) (fun h4 => ?_) (fun h4 => ?_)
  · refine lv_aload_n (pc := 15) E.1 E.2 dX8_saysName_15 rfl (lv_at hl 0 rfl) ?_
    refine z_bipush (pc := 16) E (by decide) dX8_saysName_16 ?_
    refine lv_lload_n (pc := 18) E.1 E.2 dX8_saysName_18 rfl (lv_at hl 1 rfl) ?_
    refine lv_ldc2 (pc := 19) (v := iL (31)) E.1 E.2 hown (show (Jvm.Cond.constantLong RX8 243 (iL (31))).before _ ss = true from (hts _ (List.mem_of_getElem? (i := 1) rfl))) dX8_saysName_19 ?_
    refine z_land31 (pc := 22) E dX8_saysName_22 ?_
    refine z_l2i (pc := 23) E dX8_saysName_23 ?_
    refine z_iadd (pc := 24) E dX8_saysName_24 ?_
    refine z_wVv (pc := 25) (As := [.int (iI (96 + (x % 32)))]) (rest := []) E hml hown hts (mX8_says lL G o μ σ φ κ β ω (96 + (x % 32)) (by omega) (by omega)) (cwV 1 hts gX8_saysName_X8_says rfl rfl rfl vdX8_says ⟨Nat.le_of_ble_eq_true rfl, Nat.le_of_ble_eq_true rfl⟩) (oB.recv hK hM.1 rfl) hM hK hS (fun _ h => h) rfl hl.1 rfl dX8_saysName_25 hcs (Nat.le_of_ble_eq_true rfl) (fun H locs hnew hsz hoth hS => ?_)
    have hM : W8 G o [.ref (o 1), .ref (o 2), .ref (o 3), .int (iI (μ 3)), .int (iI (μ 4)), .ref (o 4), .int (iI (μ 6)), .int (iI (μ 7)), .int (iI (μ 8)), .int (iI (μ 9)), .int (iI (μ 10)), .int (iI (μ 11)), .int (iI (μ 12)), .int (iI (μ 13)), .int (iI (μ 14)), .long (iL (μ 15)), .ref (o 5), .int (iI (μ 17 + 1))] σ φ κ β (zu ω (μ 17) (96 + (x % 32))) H := W8.eq hnew (by simp only [mV, zu, Int.reduceEq, reduceIte])
    exact z_retWv E hr (by rw [show naL 6 x = [96 + x % 32] from if_neg (by omega)]; exact W8.mu hM (by simp only [mV, zu, Int.reduceEq, reduceIte]; rfl)) hS hlocks dX8_saysName_28
  · refine lv_aload_n (pc := 8) E.1 E.2 dX8_saysName_8 rfl (lv_at hl 0 rfl) ?_
    refine lv_lload_n (pc := 9) E.1 E.2 dX8_saysName_9 rfl (lv_at hl 1 rfl) ?_
    refine z_iconst (pc := 10) E dX8_saysName_10 ?_
    refine z_lshr (pc := 11) (n := 5) E ⟨by omega, by omega⟩ (by decide) dX8_saysName_11 ?_
    rw [show x / ((2 ^ 5 : Nat) : Int) = x / 32 from rfl]
    refine z_wVv (pc := 12) (As := [.long (iL (x / 32))]) (rest := []) E hml hown hts (mX8_saysName5 lL G o μ σ φ κ β ω (x / 32) (by omega) (by omega)) (cwV 1 hts gX8_saysName_X8_saysName rfl rfl rfl vdX8_saysName ⟨Nat.le_of_ble_eq_true rfl, Nat.le_of_ble_eq_true rfl⟩) (oB.recv hK hM.1 rfl) hM hK hS (fun _ h => h) rfl hl.1 rfl dX8_saysName_12 hcs (Nat.le_of_ble_eq_true rfl) (fun H locs hnew hsz hoth hS => ?_)
    have hM : W8 G o [.ref (o 1), .ref (o 2), .ref (o 3), .int (iI (μ 3)), .int (iI (μ 4)), .ref (o 4), .int (iI (μ 6)), .int (iI (μ 7)), .int (iI (μ 8)), .int (iI (μ 9)), .int (iI (μ 10)), .int (iI (μ 11)), .int (iI (μ 12)), .int (iI (μ 13)), .int (iI (μ 14)), .long (iL (μ 15)), .ref (o 5), .int (iI (μ 17 + ((naL 5 (x / 32)).length : Int)))] σ φ κ β (ouA ω (μ 17) (naL 5 (x / 32))) H := W8.eq hnew (by simp only [mV, zu, Int.reduceEq, reduceIte])
    have hlb := naL_b 5 (x / 32)
    refine lv_aload_n (pc := 15) E.1 E.2 dX8_saysName_15 rfl (lv_at hl 0 rfl) ?_
    refine z_bipush (pc := 16) E (by decide) dX8_saysName_16 ?_
    refine lv_lload_n (pc := 18) E.1 E.2 dX8_saysName_18 rfl (lv_at hl 1 rfl) ?_
    refine lv_ldc2 (pc := 19) (v := iL (31)) E.1 E.2 hown (show (Jvm.Cond.constantLong RX8 243 (iL (31))).before _ ss = true from (hts _ (List.mem_of_getElem? (i := 1) rfl))) dX8_saysName_19 ?_
    refine z_land31 (pc := 22) E dX8_saysName_22 ?_
    refine z_l2i (pc := 23) E dX8_saysName_23 ?_
    refine z_iadd (pc := 24) E dX8_saysName_24 ?_
    refine z_wVv (pc := 25) (As := [.int (iI (96 + (x % 32)))]) (rest := []) E hml hown hts (mX8_says lL G o (zu μ 17 (μ 17 + ((naL 5 (x / 32)).length : Int))) σ φ κ β (ouA ω (μ 17) (naL 5 (x / 32))) (96 + (x % 32)) (by first | omega | (simp only [zu, Int.reduceEq, reduceIte]; omega)) (by first | omega | (simp only [zu, Int.reduceEq, reduceIte]; omega))) (cwV 1 hts gX8_saysName_X8_says rfl rfl rfl vdX8_says ⟨Nat.le_of_ble_eq_true rfl, Nat.le_of_ble_eq_true rfl⟩) (oB.recv hK hM.1 rfl) (W8.mu hM (by simp only [mV, zu, Int.reduceEq, reduceIte])) hK hS (fun _ h => h) rfl hl.1 rfl dX8_saysName_25 hcs (Nat.le_of_ble_eq_true rfl) (fun H locs hnew hsz hoth hS => ?_)
    have hM : W8 G o [.ref (o 1), .ref (o 2), .ref (o 3), .int (iI (μ 3)), .int (iI (μ 4)), .ref (o 4), .int (iI (μ 6)), .int (iI (μ 7)), .int (iI (μ 8)), .int (iI (μ 9)), .int (iI (μ 10)), .int (iI (μ 11)), .int (iI (μ 12)), .int (iI (μ 13)), .int (iI (μ 14)), .long (iL (μ 15)), .ref (o 5), .int (iI ((μ 17 + ((naL 5 (x / 32)).length : Int)) + 1))] σ φ κ β (zu (ouA ω (μ 17) (naL 5 (x / 32))) ((μ 17 + ((naL 5 (x / 32)).length : Int))) (96 + (x % 32))) H := W8.eq hnew (by simp only [mV, zu, Int.reduceEq, reduceIte])
    exact z_retWv E hr (by rw [show naL 6 x = naL 5 (x / 32) ++ [96 + x % 32] from if_pos (by omega), ← ouA_2]; exact W8.mu hM (by rw [← ouA_l2]; simp only [mV, zu, Int.reduceEq, reduceIte])) hS hlocks dX8_saysName_28
set_option maxHeartbeats 1000000 in
set_option maxRecDepth 100000 in
theorem mX8_saysName7 (lL : Launch) (G : GG) (o : Nat → Nat) (μ σ φ κ β ω : Int → Int) (x : Int) (hx : 0 ≤ x ∧ x < 1099511627776) (hm : 0 ≤ μ 17 ∧ μ 17 + 8 ≤ 400) : Met lL yX8_saysName wsX8_saysName ({ frames := 8, cells := 0, slots := 0, locals := 175 } : Room) (va_Pc [.ref (o 0), .long (iL x)] (fun U => W8 G o (mV o μ) σ φ κ β ω U.heap ∧ KK G U)) (va_Qv (fun _ : Unit => True) (fun _ tZ => W8 G o (mV o (zu μ 17 (μ 17 + ((naL 7 x).length : Int)))) σ φ κ β (ouA ω (μ 17) (naL 7 x)) tZ.heap) (Ax o 6)) 0 0 (Ax o 6) := by
  refine z_met (P := (fun H : Heap => W8 G o (mV o μ) σ φ κ β ω H)) (by decide) rfl (Nat.le_of_ble_eq_true rfl) (fun pp ee ss mm below meth cC E hr hml hown hts hlocks hM hK ls hl => ?_)
  have hl : lv_has ls 3 [(0, .ref (o 0)), (1, .long (iL x))] := hl
  have hcs : 0 ≤ (({ frames := 8, cells := 0, slots := 0, locals := 175 } : Room)).cells ∧ 0 ≤ (({ frames := 8, cells := 0, slots := 0, locals := 175 } : Room)).slots := ⟨Nat.zero_le _, Nat.zero_le _⟩
  have hS : va_S (Ax o 6) ss.heap ss.heap [] := va_S.rf
  refine lv_lload_n (pc := 0) E.1 E.2 dX8_saysName_0 rfl (lv_at hl 1 rfl) ?_
  refine lv_ldc2 (pc := 1) (v := iL (31)) E.1 E.2 hown (show (Jvm.Cond.constantLong RX8 243 (iL (31))).before _ ss = true from (hts _ (List.mem_of_getElem? (i := 1) rfl))) dX8_saysName_1 ?_
  refine z_lcmp_le (pc := 4) (tgt := 15) E ⟨by omega, by omega⟩ (by decide) dX8_saysName_4 dX8_saysName_5 (by decide) (fun h4 => ?_) (fun h4 => ?_)
  · refine lv_aload_n (pc := 15) E.1 E.2 dX8_saysName_15 rfl (lv_at hl 0 rfl) ?_
    refine z_bipush (pc := 16) E (by decide) dX8_saysName_16 ?_
    refine lv_lload_n (pc := 18) E.1 E.2 dX8_saysName_18 rfl (lv_at hl 1 rfl) ?_
    refine lv_ldc2 (pc := 19) (v := iL (31)) E.1 E.2 hown (show (Jvm.Cond.constantLong RX8 243 (iL (31))).before _ ss = true from (hts _ (List.mem_of_getElem? (i := 1) rfl))) dX8_saysName_19 ?_
    refine z_land31 (pc := 22) E dX8_saysName_22 ?_
    refine z_l2i (pc := 23) E dX8_saysName_23 ?_
    refine z_iadd (pc := 24) E dX8_saysName_24 ?_
    refine z_wVv (pc := 25) (As := [.int (iI (96 + (x % 32)))]) (rest := []) E hml hown hts (mX8_says lL G o μ σ φ κ β ω (96 + (x % 32)) (by omega) (by omega)) (cwV 1 hts gX8_saysName_X8_says rfl rfl rfl vdX8_says ⟨Nat.le_of_ble_eq_true rfl, Nat.le_of_ble_eq_true rfl⟩) (oB.recv hK hM.1 rfl) hM hK hS (fun _ h => h) rfl hl.1 rfl dX8_saysName_25 hcs (Nat.le_of_ble_eq_true rfl) (fun H locs hnew hsz hoth hS => ?_)
    have hM : W8 G o [.ref (o 1), .ref (o 2), .ref (o 3), .int (iI (μ 3)), .int (iI (μ 4)), .ref (o 4), .int (iI (μ 6)), .int (iI (μ 7)), .int (iI (μ 8)), .int (iI (μ 9)), .int (iI (μ 10)), .int (iI (μ 11)), .int (iI (μ 12)), .int (iI (μ 13)), .int (iI (μ 14)), .long (iL (μ 15)), .ref (o 5), .int (iI (μ 17 + 1))] σ φ κ β (zu ω (μ 17) (96 + (x % 32))) H := W8.eq hnew (by simp only [mV, zu, Int.reduceEq, reduceIte])
    exact z_retWv E hr (by rw [show naL 7 x = [96 + x % 32] from if_neg (by omega)]; exact W8.mu hM (by simp only [mV, zu, Int.reduceEq, reduceIte]; rfl)) hS hlocks dX8_saysName_28
  · refine lv_aload_n (pc := 8) E.1 E.2 dX8_saysName_8 rfl (lv_at hl 0 rfl) ?_
    refine lv_lload_n (pc := 9) E.1 E.2 dX8_saysName_9 rfl (lv_at hl 1 rfl) ?_
    refine z_iconst (pc := 10) E dX8_saysName_10 ?_
    refine z_lshr (pc := 11) (n := 5) E ⟨by omega, by omega⟩ (by decide) dX8_saysName_11 ?_
    rw [show x / ((2 ^ 5 : Nat) : Int) = x / 32 from rfl]
    refine z_wVv (pc := 12) (As := [.long (iL (x / 32))]) (rest := []) E hml hown hts (mX8_saysName6 lL G o μ σ φ κ β ω (x / 32) (by omega) (by omega)) (cwV 1 hts gX8_saysName_X8_saysName rfl rfl rfl vdX8_saysName ⟨Nat.le_of_ble_eq_true rfl, Nat.le_of_ble_eq_true rfl⟩) (oB.recv hK hM.1 rfl) hM hK hS (fun _ h => h) rfl hl.1 rfl dX8_saysName_12 hcs (Nat.le_of_ble_eq_true rfl) (fun H locs hnew hsz hoth hS => ?_)
    have hM : W8 G o [.ref (o 1), .ref (o 2), .ref (o 3), .int (iI (μ 3)), .int (iI (μ 4)), .ref (o 4), .int (iI (μ 6)), .int (iI (μ 7)), .int (iI (μ 8)), .int (iI (μ 9)), .int (iI (μ 10)), .int (iI (μ 11)), .int (iI (μ 12)), .int (iI (μ 13)), .int (iI (μ 14)), .long (iL (μ 15)), .ref (o 5), .int (iI (μ 17 + ((naL 6 (x / 32)).length : Int)))] σ φ κ β (ouA ω (μ 17) (naL 6 (x / 32))) H := W8.eq hnew (by simp only [mV, zu, Int.reduceEq, reduceIte])
    have hlb := naL_b 6 (x / 32)
    refine lv_aload_n (pc := 15) E.1 E.2 dX8_saysName_15 rfl (lv_at hl 0 rfl) ?_
    refine z_bipush (pc := 16) E (by decide) dX8_saysName_16 ?_
    refine lv_lload_n (pc := 18) E.1 E.2 dX8_saysName_18 rfl (lv_at hl 1 rfl) ?_
    refine lv_ldc2 (pc := 19) (v := iL (31)) E.1 E.2 hown (show (Jvm.Cond.constantLong RX8 243 (iL (31))).before _ ss = true from (hts _ (List.mem_of_getElem? (i := 1) rfl))) dX8_saysName_19 ?_
    refine z_land31 (pc := 22) E dX8_saysName_22 ?_
    refine z_l2i (pc := 23) E dX8_saysName_23 ?_
    refine z_iadd (pc := 24) E dX8_saysName_24 ?_
    refine z_wVv (pc := 25) (As := [.int (iI (96 + (x % 32)))]) (rest := []) E hml hown hts (mX8_says lL G o (zu μ 17 (μ 17 + ((naL 6 (x / 32)).length : Int))) σ φ κ β (ouA ω (μ 17) (naL 6 (x / 32))) (96 + (x % 32)) (by first | omega | (simp only [zu, Int.reduceEq, reduceIte]; omega)) (by first | omega | (simp only [zu, Int.reduceEq, reduceIte]; omega))) (cwV 1 hts gX8_saysName_X8_says rfl rfl rfl vdX8_says ⟨Nat.le_of_ble_eq_true rfl, Nat.le_of_ble_eq_true rfl⟩) (oB.recv hK hM.1 rfl) (W8.mu hM (by simp only [mV, zu, Int.reduceEq, reduceIte])) hK hS (fun _ h => h) rfl hl.1 rfl dX8_saysName_25 hcs (Nat.le_of_ble_eq_true rfl) (fun H locs hnew hsz hoth hS => ?_)
    have hM : W8 G o [.ref (o 1), .ref (o 2), .ref (o 3), .int (iI (μ 3)), .int (iI (μ 4)), .ref (o 4), .int (iI (μ 6)), .int (iI (μ 7)), .int (iI (μ 8)), .int (iI (μ 9)), .int (iI (μ 10)), .int (iI (μ 11)), .int (iI (μ 12)), .int (iI (μ 13)), .int (iI (μ 14)), .long (iL (μ 15)), .ref (o 5), .int (iI ((μ 17 + ((naL 6 (x / 32)).length : Int)) + 1))] σ φ κ β (zu (ouA ω (μ 17) (naL 6 (x / 32))) ((μ 17 + ((naL 6 (x / 32)).length : Int))) (96 + (x % 32))) H := W8.eq hnew (by simp only [mV, zu, Int.reduceEq, reduceIte])
    exact z_retWv E hr (by rw [show naL 7 x = naL 6 (x / 32) ++ [96 + x % 32] from if_pos (by omega), ← ouA_2]; exact W8.mu hM (by rw [← ouA_l2]; simp only [mV, zu, Int.reduceEq, reduceIte])) hS hlocks dX8_saysName_28
