theorem vdX1_put : yX1_put.cls = RX1 ∧ yX1_put.cls ≠ "java/lang/invoke/MethodHandle" ∧ yX1_put.cls ≠ "java/lang/invoke/VarHandle" ∧ (parseMethodDescriptor yX1_put.desc).map (fun d => d.parameters.length) = some 1 := by decide +kernel
theorem vdX1_putFour : yX1_putFour.cls = RX1 ∧ yX1_putFour.cls ≠ "java/lang/invoke/MethodHandle" ∧ yX1_putFour.cls ≠ "java/lang/invoke/VarHandle" ∧ (parseMethodDescriptor yX1_putFour.desc).map (fun d => d.parameters.length) = some 1 := by decide +kernel
set_option maxHeartbeats 1000000 in
set_option maxRecDepth 100000 in
theorem mX1_put (lL : Launch) (G : GG) (o : Nat → Nat) (m : Int) (τ : Int → Int) (c : Int) (hc : -2147483648 ≤ c ∧ c < 2147483648) (hm : 0 ≤ m ∧ m < 900) : Met lL yX1_put wsX1_put ({ frames := 0, cells := 0, slots := 0, locals := 0 } : Room) (va_Pc [.ref (o 0), .int (iI c)] (fun U => BYr G o [.ref (o 1), .int (iI m)] τ U.heap ∧ KK G U)) (va_Qv (fun _ : Unit => True) (fun _ tZ => BYr G o [.ref (o 1), .int (iI (m + 1))] (zu τ m (sg8 c)) tZ.heap) (Ax o 2)) 0 0 (Ax o 2) := by
  refine z_met (P := (fun H : Heap => BYr G o [.ref (o 1), .int (iI m)] τ H)) (by decide) rfl (Nat.le_of_ble_eq_true rfl) (fun pp ee ss mm below meth cC E hr hml hown hts hlocks hM hK ls hl => ?_)
  have hl : lv_has ls 2 [(0, .ref (o 0)), (1, .int (iI c))] := hl
  have hcs : 0 ≤ (({ frames := 0, cells := 0, slots := 0, locals := 0 } : Room)).cells ∧ 0 ≤ (({ frames := 0, cells := 0, slots := 0, locals := 0 } : Room)).slots := ⟨Nat.zero_le _, Nat.zero_le _⟩
  have hS : va_S (Ax o 2) ss.heap ss.heap [] := va_S.rf
  have hin1 : ∀ w ∈ wsX10, w ∈ wsX1_put := fun w h => List.mem_cons_of_mem _ (List.mem_append_right _ (h))
  refine lv_aload_n (pc := 0) E.1 E.2 dX1_put_0 rfl (lv_at hl 0 rfl) ?_
  refine g1_1 (pc := 1) E hts hin1 hown hK hM.1 (hts _ (List.mem_of_getElem? (i := 1) rfl)) dX1_put_1 ?_
  refine z_if_lt (pc := 4) (tgt := 38) E ⟨by omega, by omega⟩ dX1_put_4 (by decide) (fun h4 => ?_) (fun h4 => ?_)
  · exact absurd h4 (by omega)
  · refine lv_aload_n (pc := 7) E.1 E.2 dX1_put_7 rfl (lv_at hl 0 rfl) ?_
    refine g1_1 (pc := 8) E hts hin1 hown hK hM.1 (hts _ (List.mem_of_getElem? (i := 1) rfl)) dX1_put_8 ?_
    refine z_sipush (pc := 11) E (by decide) dX1_put_11 ?_
    refine z_icmp_ge (pc := 14) (tgt := 38) E ⟨by omega, by omega⟩ (by decide) dX1_put_14 (by decide) (fun h14 => ?_) (fun h14 => ?_)
    · exact absurd h14 (by omega)
    · refine lv_aload_n (pc := 17) E.1 E.2 dX1_put_17 rfl (lv_at hl 0 rfl) ?_
      refine g1_0 (pc := 18) E hts hin1 hown hK hM.1 (hts _ (List.mem_of_getElem? (i := 2) rfl)) dX1_put_18 ?_
      refine lv_aload_n (pc := 21) E.1 E.2 dX1_put_21 rfl (lv_at hl 0 rfl) ?_
      refine g1_1 (pc := 22) E hts hin1 hown hK hM.1 (hts _ (List.mem_of_getElem? (i := 1) rfl)) dX1_put_22 ?_
      refine lv_iload_n (pc := 25) E.1 E.2 dX1_put_25 rfl (lv_at hl 1 rfl) ?_
      refine z_i2b (pc := 26) E dX1_put_26 ?_
      refine z_bastore (pc := 27) E hK hM.2.1 hS (Ax.at 1 (by decide)) ⟨by omega, by omega⟩ (by decide) (sg8_b _) dX1_put_27 (fun H locs hnew hoth hS => ?_)
      have hM := BYr.a1 hM hnew (fun q _ h => hoth q h)
      refine lv_aload_n (pc := 28) E.1 E.2 dX1_put_28 rfl (lv_at hl 0 rfl) ?_
      refine lv_dup (pc := 29) E.1 E.2 dX1_put_29 rfl ?_
      refine g1_1 (pc := 30) E hts hin1 hown hK hM.1 (hts _ (List.mem_of_getElem? (i := 1) rfl)) dX1_put_30 ?_
      refine z_iconst (pc := 33) E dX1_put_33 ?_
      refine z_iadd (pc := 34) E dX1_put_34 ?_
      refine p1_1 (pc := 35) E hts hin1 hown hK hM.1 hS (Ax.at 0 (by decide)) (hts _ (List.mem_of_getElem? (i := 1) rfl)) dX1_put_35 (fun H locs hnew hoth hS => ?_)
      have hM := BYr.p (V2 := [.ref (o 1), .int (iI (m + 1))]) hM hnew (fun q _ h => hoth q h)
      exact z_retWv E hr hM hS hlocks dX1_put_38
set_option maxHeartbeats 1000000 in
set_option maxRecDepth 100000 in
theorem mX1_putFour (lL : Launch) (G : GG) (o : Nat → Nat) (m : Int) (τ : Int → Int) (v : Int) (hv : -2147483648 ≤ v ∧ v < 2147483648) (hm : 0 ≤ m ∧ m + 4 ≤ 900) : Met lL yX1_putFour wsX1_putFour ({ frames := 1, cells := 0, slots := 0, locals := 21 } : Room) (va_Pc [.ref (o 0), .int (iI v)] (fun U => BYr G o [.ref (o 1), .int (iI m)] τ U.heap ∧ KK G U)) (va_Qv (fun _ : Unit => True) (fun _ tZ => BYr G o [.ref (o 1), .int (iI (m + 4))] (zu (zu (zu (zu τ m (sg8 (v / 16777216))) (m + 1) (sg8 (v / 65536))) (m + 2) (sg8 (v / 256))) (m + 3) (sg8 v)) tZ.heap) (Ax o 2)) 0 0 (Ax o 2) := by
  refine z_met (P := (fun H : Heap => BYr G o [.ref (o 1), .int (iI m)] τ H)) (by decide) rfl (Nat.le_of_ble_eq_true rfl) (fun pp ee ss mm below meth cC E hr hml hown hts hlocks hM hK ls hl => ?_)
  have hl : lv_has ls 2 [(0, .ref (o 0)), (1, .int (iI v))] := hl
  have hcs : 0 ≤ (({ frames := 1, cells := 0, slots := 0, locals := 21 } : Room)).cells ∧ 0 ≤ (({ frames := 1, cells := 0, slots := 0, locals := 21 } : Room)).slots := ⟨Nat.zero_le _, Nat.zero_le _⟩
  have hS : va_S (Ax o 2) ss.heap ss.heap [] := va_S.rf
  refine lv_aload_n (pc := 0) E.1 E.2 dX1_putFour_0 rfl (lv_at hl 0 rfl) ?_
  refine lv_iload_n (pc := 1) E.1 E.2 dX1_putFour_1 rfl (lv_at hl 1 rfl) ?_
  refine z_bipush (pc := 2) E (by decide) dX1_putFour_2 ?_
  refine z_ishr (pc := 4) (n := 24) E ⟨by omega, by omega⟩ (by decide) dX1_putFour_4 ?_
  rw [show v / ((2 ^ 24 : Nat) : Int) = v / 16777216 from rfl]
  refine z_wVv (pc := 5) (As := [.int (iI (v / 16777216))]) (rest := []) E hml hown hts (mX1_put lL G o m τ (v / 16777216) (by omega) (by omega)) (cwV 1 hts gX1_putFour_X1_put rfl rfl rfl vdX1_put ⟨Nat.le_of_ble_eq_true rfl, Nat.le_of_ble_eq_true rfl⟩) (oB.recv hK hM.1 rfl) hM hK hS (fun _ h => h) rfl hl.1 rfl dX1_putFour_5 hcs (Nat.le_of_ble_eq_true rfl) (fun H locs hnew hsz hoth hS => ?_)
  have hM := hnew
  refine lv_aload_n (pc := 8) E.1 E.2 dX1_putFour_8 rfl (lv_at hl 0 rfl) ?_
  refine lv_iload_n (pc := 9) E.1 E.2 dX1_putFour_9 rfl (lv_at hl 1 rfl) ?_
  refine z_bipush (pc := 10) E (by decide) dX1_putFour_10 ?_
  refine z_ishr (pc := 12) (n := 16) E ⟨by omega, by omega⟩ (by decide) dX1_putFour_12 ?_
  rw [show v / ((2 ^ 16 : Nat) : Int) = v / 65536 from rfl]
  refine z_wVv (pc := 13) (As := [.int (iI (v / 65536))]) (rest := []) E hml hown hts (mX1_put lL G o (m + 1) (zu τ m (sg8 (v / 16777216))) (v / 65536) (by omega) (by omega)) (cwV 1 hts gX1_putFour_X1_put rfl rfl rfl vdX1_put ⟨Nat.le_of_ble_eq_true rfl, Nat.le_of_ble_eq_true rfl⟩) (oB.recv hK hM.1 rfl) hM hK hS (fun _ h => h) rfl hl.1 rfl dX1_putFour_13 hcs (Nat.le_of_ble_eq_true rfl) (fun H locs hnew hsz hoth hS => ?_)
  have hM := hnew
  refine lv_aload_n (pc := 16) E.1 E.2 dX1_putFour_16 rfl (lv_at hl 0 rfl) ?_
  refine lv_iload_n (pc := 17) E.1 E.2 dX1_putFour_17 rfl (lv_at hl 1 rfl) ?_
  refine z_bipush (pc := 18) E (by decide) dX1_putFour_18 ?_
  refine z_ishr (pc := 20) (n := 8) E ⟨by omega, by omega⟩ (by decide) dX1_putFour_20 ?_
  rw [show v / ((2 ^ 8 : Nat) : Int) = v / 256 from rfl]
  refine z_wVv (pc := 21) (As := [.int (iI (v / 256))]) (rest := []) E hml hown hts (mX1_put lL G o ((m + 1) + 1) (zu (zu τ m (sg8 (v / 16777216))) (m + 1) (sg8 (v / 65536))) (v / 256) (by omega) (by omega)) (cwV 1 hts gX1_putFour_X1_put rfl rfl rfl vdX1_put ⟨Nat.le_of_ble_eq_true rfl, Nat.le_of_ble_eq_true rfl⟩) (oB.recv hK hM.1 rfl) hM hK hS (fun _ h => h) rfl hl.1 rfl dX1_putFour_21 hcs (Nat.le_of_ble_eq_true rfl) (fun H locs hnew hsz hoth hS => ?_)
  have hM := hnew
  refine lv_aload_n (pc := 24) E.1 E.2 dX1_putFour_24 rfl (lv_at hl 0 rfl) ?_
  refine lv_iload_n (pc := 25) E.1 E.2 dX1_putFour_25 rfl (lv_at hl 1 rfl) ?_
  refine z_wVv (pc := 26) (As := [.int (iI v)]) (rest := []) E hml hown hts (mX1_put lL G o (((m + 1) + 1) + 1) (zu (zu (zu τ m (sg8 (v / 16777216))) (m + 1) (sg8 (v / 65536))) ((m + 1) + 1) (sg8 (v / 256))) v (by omega) (by omega)) (cwV 1 hts gX1_putFour_X1_put rfl rfl rfl vdX1_put ⟨Nat.le_of_ble_eq_true rfl, Nat.le_of_ble_eq_true rfl⟩) (oB.recv hK hM.1 rfl) hM hK hS (fun _ h => h) rfl hl.1 rfl dX1_putFour_26 hcs (Nat.le_of_ble_eq_true rfl) (fun H locs hnew hsz hoth hS => ?_)
  have hM := hnew
  exact z_retWv E hr (by rw [show m + 4 = m + 1 + 1 + 1 + 1 by omega, show m + 3 = m + 1 + 1 + 1 by omega, show m + 2 = m + 1 + 1 by omega]; exact hM) hS hlocks dX1_putFour_29
