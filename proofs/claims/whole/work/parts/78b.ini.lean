set_option maxHeartbeats 1000000 in
set_option maxRecDepth 100000 in
theorem mX1_init (lL : Launch) (G : GG) (a : Nat) : Met lL yX1_init wsX1_init ({ frames := 1, cells := 1, slots := 900, locals := 20 } : Room) (va_Pc [.ref a] (fun U => (oB G 1 a [.null, .int (iI 0)] U.heap ∧ U.heap.size = a + 1) ∧ KK G U)) (va_Qv (fun _ : Unit => True) (fun _ tZ => BYr G (fun k => a + k) [.ref (a + 1), .int (iI 0)] (fun _ => 0) tZ.heap ∧ tZ.heap.size = a + 2) (fun q : Nat => a ≤ q)) 1 900 (fun q : Nat => a ≤ q) := by
  refine z_metI (P := fun H : Heap => oB G 1 a [.null, .int (iI 0)] H ∧ H.size = a + 1) (by decide) rfl rfl (Nat.le_of_ble_eq_true rfl) (fun pp ee ss mm below meth cC E hr hml hown hts hlocks hmn hP hK ls hl => ?_)
  have hl : lv_has ls 1 [(0, .ref a)] := hl
  obtain ⟨hO, hz⟩ := hP
  have hS : va_S (fun q : Nat => a ≤ q) ss.heap ss.heap [] := va_S.rf
  have hin1 : ∀ w ∈ wsX10, w ∈ wsX1_init := fun w h => List.mem_cons_of_mem _ (List.mem_append_right _ (h))
  refine lv_aload_n (pc := 0) E.1 E.2 dX1_init_0 rfl (lv_at hl 0 rfl) ?_
  refine W.objInit E.1 E.2 hown (hts _ (List.mem_of_getElem? (i := 1) rfl)) (hts _ (List.mem_of_getElem? (i := 2) rfl)) (hts _ (List.mem_of_getElem? (i := 3) rfl)) rfl (hl.1.trans hml.symm) rfl dX1_init_1 (Nat.le_of_ble_eq_true rfl) (Nat.le_of_ble_eq_true rfl) ?_
  refine W.eq (g2 := F0 mm 4 ls []) rfl ?_
  refine lv_aload_n (pc := 4) E.1 E.2 dX1_init_4 rfl (lv_at hl 0 rfl) ?_
  refine z_sipush (pc := 5) E (by decide) dX1_init_5 ?_
  refine z_newB (pc := 8) E (hts _ (List.mem_of_getElem? (i := 4) rfl)) hK hS (N := 900) rfl (Nat.le_of_ble_eq_true rfl) (Nat.le_of_ble_eq_true rfl) (Nat.le_of_ble_eq_true rfl) dX1_init_8 hz (fun H h1 hz ho hS => ?_)
  have hO := hO.kp (ho _ (by omega))
  have hz : H.size = a + 2 := hz
  refine z_putF (pc := 10) E hts hin1 tyX1 tyX1_ok nmX1 hown hK hO rfl hS (Nat.le_refl _) 0 (by decide) (hts _ (List.mem_of_getElem? (i := 5) rfl)) rfl hmn rfl (tyX1_ok 0 (by decide)) rfl rfl (Nat.le_of_ble_eq_true rfl) dX1_init_10 (fun H locs hO ho hzz hS => ?_)
  have hO : oB G 1 a [.ref (a + 1), .int (iI 0)] H := hO
  have hz := hzz.trans hz
  have h1 := h1.kp (ho _ (by omega))
  refine W.widen (k := 1) (n := 900) (Nat.le_of_ble_eq_true rfl) (Nat.le_of_ble_eq_true rfl) ?_
  exact z_retC (P1 := fun H : Heap => BYr G (fun k => a + k) [.ref (a + 1), .int (iI 0)] (fun _ => 0) H ∧ H.size = a + 2) E hr ⟨⟨hO, h1, (fun i j _ _ h => Nat.add_left_cancel h)⟩, hz⟩ hS hlocks dX1_init_13
set_option maxHeartbeats 1000000 in
set_option maxRecDepth 100000 in
theorem mX2_init (lL : Launch) (G : GG) (a : Nat) : Met lL yX2_init wsX2_init ({ frames := 1, cells := 2, slots := 120, locals := 20 } : Room) (va_Pc [.ref a] (fun U => (oB G 2 a [.null, .null, .int (iI 0)] U.heap ∧ U.heap.size = a + 1) ∧ KK G U)) (va_Qv (fun _ : Unit => True) (fun _ tZ => FI G (fun k => a + k) iniT tZ.heap ∧ tZ.heap.size = a + 3) (fun q : Nat => a ≤ q)) 2 120 (fun q : Nat => a ≤ q) := by
  refine z_metI (P := fun H : Heap => oB G 2 a [.null, .null, .int (iI 0)] H ∧ H.size = a + 1) (by decide) rfl rfl (Nat.le_of_ble_eq_true rfl) (fun pp ee ss mm below meth cC E hr hml hown hts hlocks hmn hP hK ls hl => ?_)
  have hl : lv_has ls 1 [(0, .ref a)] := hl
  obtain ⟨hO, hz⟩ := hP
  have hS : va_S (fun q : Nat => a ≤ q) ss.heap ss.heap [] := va_S.rf
  have hin2 : ∀ w ∈ wsX20, w ∈ wsX2_init := fun w h => List.mem_cons_of_mem _ (List.mem_append_right _ (h))
  refine lv_aload_n (pc := 0) E.1 E.2 dX2_init_0 rfl (lv_at hl 0 rfl) ?_
  refine W.objInit E.1 E.2 hown (hts _ (List.mem_of_getElem? (i := 1) rfl)) (hts _ (List.mem_of_getElem? (i := 2) rfl)) (hts _ (List.mem_of_getElem? (i := 3) rfl)) rfl (hl.1.trans hml.symm) rfl dX2_init_1 (Nat.le_of_ble_eq_true rfl) (Nat.le_of_ble_eq_true rfl) ?_
  refine W.eq (g2 := F0 mm 4 ls []) rfl ?_
  refine lv_aload_n (pc := 4) E.1 E.2 dX2_init_4 rfl (lv_at hl 0 rfl) ?_
  refine z_bipush (pc := 5) E (by decide) dX2_init_5 ?_
  refine z_newI (pc := 7) E (hts _ (List.mem_of_getElem? (i := 4) rfl)) hK hS (N := 60) rfl (Nat.le_of_ble_eq_true rfl) (Nat.le_of_ble_eq_true rfl) (Nat.le_of_ble_eq_true rfl) dX2_init_7 hz (fun H h1 hz ho hS => ?_)
  have hO := hO.kp (ho _ (by omega))
  have hz : H.size = a + 2 := hz
  refine z_putF (pc := 9) E hts hin2 tyX2 tyX2_ok nmX2 hown hK hO rfl hS (Nat.le_refl _) 0 (by decide) (hts _ (List.mem_of_getElem? (i := 5) rfl)) rfl hmn rfl (tyX2_ok 0 (by decide)) rfl rfl (Nat.le_of_ble_eq_true rfl) dX2_init_9 (fun H locs hO ho hzz hS => ?_)
  have hO : oB G 2 a [.ref (a + 1), .null, .int (iI 0)] H := hO
  have hz := hzz.trans hz
  have h1 := h1.kp (ho _ (by omega))
  refine lv_aload_n (pc := 12) E.1 E.2 dX2_init_12 rfl (lv_at hl 0 rfl) ?_
  refine z_bipush (pc := 13) E (by decide) dX2_init_13 ?_
  refine z_newI (pc := 15) E (hts _ (List.mem_of_getElem? (i := 4) rfl)) hK hS (N := 60) rfl (Nat.le_of_ble_eq_true rfl) (Nat.le_of_ble_eq_true rfl) (Nat.le_of_ble_eq_true rfl) dX2_init_15 hz (fun H h2 hz ho hS => ?_)
  have hO := hO.kp (ho _ (by omega))
  have h1 := h1.kp (ho _ (by omega))
  have hz : H.size = a + 3 := hz
  refine z_putF (pc := 17) E hts hin2 tyX2 tyX2_ok nmX2 hown hK hO rfl hS (Nat.le_refl _) 1 (by decide) (hts _ (List.mem_of_getElem? (i := 6) rfl)) rfl hmn rfl (tyX2_ok 1 (by decide)) rfl rfl (Nat.le_of_ble_eq_true rfl) dX2_init_17 (fun H locs hO ho hzz hS => ?_)
  have hO : oB G 2 a [.ref (a + 1), .ref (a + 2), .int (iI 0)] H := hO
  have hz := hzz.trans hz
  have h1 := h1.kp (ho _ (by omega))
  have h2 := h2.kp (ho _ (by omega))
  refine W.widen (k := 2) (n := 120) (Nat.le_of_ble_eq_true rfl) (Nat.le_of_ble_eq_true rfl) ?_
  exact z_retC (P1 := fun H : Heap => FI G (fun k => a + k) iniT H ∧ H.size = a + 3) E hr ⟨⟨_, _, ⟨hO, h1, h2, (fun i j _ _ h => Nat.add_left_cancel h)⟩, fun j h0 h1 => absurd h1 (Int.not_lt.mpr h0)⟩, hz⟩ hS hlocks dX2_init_20
set_option maxHeartbeats 1000000 in
set_option maxRecDepth 100000 in
theorem mX4_init (lL : Launch) (G : GG) (a : Nat) : Met lL yX4_init wsX4_init ({ frames := 1, cells := 4, slots := 48, locals := 20 } : Room) (va_Pc [.ref a] (fun U => (oB G 4 a [.null, .null, .null, .null, .int (iI 0)] U.heap ∧ U.heap.size = a + 1) ∧ KK G U)) (va_Qv (fun _ : Unit => True) (fun _ tZ => GI G (fun k => a + k) iniT tZ.heap ∧ tZ.heap.size = a + 5) (fun q : Nat => a ≤ q)) 4 48 (fun q : Nat => a ≤ q) := by
  refine z_metI (P := fun H : Heap => oB G 4 a [.null, .null, .null, .null, .int (iI 0)] H ∧ H.size = a + 1) (by decide) rfl rfl (Nat.le_of_ble_eq_true rfl) (fun pp ee ss mm below meth cC E hr hml hown hts hlocks hmn hP hK ls hl => ?_)
  have hl : lv_has ls 1 [(0, .ref a)] := hl
  obtain ⟨hO, hz⟩ := hP
  have hS : va_S (fun q : Nat => a ≤ q) ss.heap ss.heap [] := va_S.rf
  have hin4 : ∀ w ∈ wsX40, w ∈ wsX4_init := fun w h => List.mem_cons_of_mem _ (List.mem_append_right _ (h))
  refine lv_aload_n (pc := 0) E.1 E.2 dX4_init_0 rfl (lv_at hl 0 rfl) ?_
  refine W.objInit E.1 E.2 hown (hts _ (List.mem_of_getElem? (i := 1) rfl)) (hts _ (List.mem_of_getElem? (i := 2) rfl)) (hts _ (List.mem_of_getElem? (i := 3) rfl)) rfl (hl.1.trans hml.symm) rfl dX4_init_1 (Nat.le_of_ble_eq_true rfl) (Nat.le_of_ble_eq_true rfl) ?_
  refine W.eq (g2 := F0 mm 4 ls []) rfl ?_
  refine lv_aload_n (pc := 4) E.1 E.2 dX4_init_4 rfl (lv_at hl 0 rfl) ?_
  refine z_bipush (pc := 5) E (by decide) dX4_init_5 ?_
  refine z_newI (pc := 7) E (hts _ (List.mem_of_getElem? (i := 4) rfl)) hK hS (N := 12) rfl (Nat.le_of_ble_eq_true rfl) (Nat.le_of_ble_eq_true rfl) (Nat.le_of_ble_eq_true rfl) dX4_init_7 hz (fun H h1 hz ho hS => ?_)
  have hO := hO.kp (ho _ (by omega))
  have hz : H.size = a + 2 := hz
  refine z_putF (pc := 9) E hts hin4 tyX4 tyX4_ok nmX4 hown hK hO rfl hS (Nat.le_refl _) 0 (by decide) (hts _ (List.mem_of_getElem? (i := 5) rfl)) rfl hmn rfl (tyX4_ok 0 (by decide)) rfl rfl (Nat.le_of_ble_eq_true rfl) dX4_init_9 (fun H locs hO ho hzz hS => ?_)
  have hO : oB G 4 a [.ref (a + 1), .null, .null, .null, .int (iI 0)] H := hO
  have hz := hzz.trans hz
  have h1 := h1.kp (ho _ (by omega))
  refine lv_aload_n (pc := 12) E.1 E.2 dX4_init_12 rfl (lv_at hl 0 rfl) ?_
  refine z_bipush (pc := 13) E (by decide) dX4_init_13 ?_
  refine z_newI (pc := 15) E (hts _ (List.mem_of_getElem? (i := 4) rfl)) hK hS (N := 12) rfl (Nat.le_of_ble_eq_true rfl) (Nat.le_of_ble_eq_true rfl) (Nat.le_of_ble_eq_true rfl) dX4_init_15 hz (fun H h2 hz ho hS => ?_)
  have hO := hO.kp (ho _ (by omega))
  have h1 := h1.kp (ho _ (by omega))
  have hz : H.size = a + 3 := hz
  refine z_putF (pc := 17) E hts hin4 tyX4 tyX4_ok nmX4 hown hK hO rfl hS (Nat.le_refl _) 1 (by decide) (hts _ (List.mem_of_getElem? (i := 6) rfl)) rfl hmn rfl (tyX4_ok 1 (by decide)) rfl rfl (Nat.le_of_ble_eq_true rfl) dX4_init_17 (fun H locs hO ho hzz hS => ?_)
  have hO : oB G 4 a [.ref (a + 1), .ref (a + 2), .null, .null, .int (iI 0)] H := hO
  have hz := hzz.trans hz
  have h1 := h1.kp (ho _ (by omega))
  have h2 := h2.kp (ho _ (by omega))
  refine lv_aload_n (pc := 20) E.1 E.2 dX4_init_20 rfl (lv_at hl 0 rfl) ?_
  refine z_bipush (pc := 21) E (by decide) dX4_init_21 ?_
  refine z_newI (pc := 23) E (hts _ (List.mem_of_getElem? (i := 4) rfl)) hK hS (N := 12) rfl (Nat.le_of_ble_eq_true rfl) (Nat.le_of_ble_eq_true rfl) (Nat.le_of_ble_eq_true rfl) dX4_init_23 hz (fun H h3 hz ho hS => ?_)
  have hO := hO.kp (ho _ (by omega))
  have h1 := h1.kp (ho _ (by omega))
  have h2 := h2.kp (ho _ (by omega))
  have hz : H.size = a + 4 := hz
  refine z_putF (pc := 25) E hts hin4 tyX4 tyX4_ok nmX4 hown hK hO rfl hS (Nat.le_refl _) 2 (by decide) (hts _ (List.mem_of_getElem? (i := 7) rfl)) rfl hmn rfl (tyX4_ok 2 (by decide)) rfl rfl (Nat.le_of_ble_eq_true rfl) dX4_init_25 (fun H locs hO ho hzz hS => ?_)
  have hO : oB G 4 a [.ref (a + 1), .ref (a + 2), .ref (a + 3), .null, .int (iI 0)] H := hO
  have hz := hzz.trans hz
  have h1 := h1.kp (ho _ (by omega))
  have h2 := h2.kp (ho _ (by omega))
  have h3 := h3.kp (ho _ (by omega))
  refine lv_aload_n (pc := 28) E.1 E.2 dX4_init_28 rfl (lv_at hl 0 rfl) ?_
  refine z_bipush (pc := 29) E (by decide) dX4_init_29 ?_
  refine z_newI (pc := 31) E (hts _ (List.mem_of_getElem? (i := 4) rfl)) hK hS (N := 12) rfl (Nat.le_of_ble_eq_true rfl) (Nat.le_of_ble_eq_true rfl) (Nat.le_of_ble_eq_true rfl) dX4_init_31 hz (fun H h4 hz ho hS => ?_)
  have hO := hO.kp (ho _ (by omega))
  have h1 := h1.kp (ho _ (by omega))
  have h2 := h2.kp (ho _ (by omega))
  have h3 := h3.kp (ho _ (by omega))
  have hz : H.size = a + 5 := hz
  refine z_putF (pc := 33) E hts hin4 tyX4 tyX4_ok nmX4 hown hK hO rfl hS (Nat.le_refl _) 3 (by decide) (hts _ (List.mem_of_getElem? (i := 8) rfl)) rfl hmn rfl (tyX4_ok 3 (by decide)) rfl rfl (Nat.le_of_ble_eq_true rfl) dX4_init_33 (fun H locs hO ho hzz hS => ?_)
  have hO : oB G 4 a [.ref (a + 1), .ref (a + 2), .ref (a + 3), .ref (a + 4), .int (iI 0)] H := hO
  have hz := hzz.trans hz
  have h1 := h1.kp (ho _ (by omega))
  have h2 := h2.kp (ho _ (by omega))
  have h3 := h3.kp (ho _ (by omega))
  have h4 := h4.kp (ho _ (by omega))
  refine W.widen (k := 4) (n := 48) (Nat.le_of_ble_eq_true rfl) (Nat.le_of_ble_eq_true rfl) ?_
  exact z_retC (P1 := fun H : Heap => GI G (fun k => a + k) iniT H ∧ H.size = a + 5) E hr ⟨⟨_, _, _, _, ⟨hO, h1, h2, h3, h4, (fun i j _ _ h => Nat.add_left_cancel h)⟩, fun j h0 h1 => absurd h1 (Int.not_lt.mpr h0)⟩, hz⟩ hS hlocks dX4_init_36
set_option maxHeartbeats 1000000 in
set_option maxRecDepth 100000 in
theorem mX3_init (lL : Launch) (G : GG) (a : Nat) : Met lL yX3_init wsX3_init ({ frames := 1, cells := 3, slots := 120, locals := 21 } : Room) (va_Pc [.ref a] (fun U => (oB G 3 a [.null, .null, .null, .int (iI 0)] U.heap ∧ U.heap.size = a + 1) ∧ KK G U)) (va_Qv (fun _ : Unit => True) (fun _ tZ => FO G (fun k => a + k) iniT tZ.heap ∧ tZ.heap.size = a + 4) (fun q : Nat => a ≤ q)) 3 120 (fun q : Nat => a ≤ q) := by
  refine z_metI (P := fun H : Heap => oB G 3 a [.null, .null, .null, .int (iI 0)] H ∧ H.size = a + 1) (by decide) rfl rfl (Nat.le_of_ble_eq_true rfl) (fun pp ee ss mm below meth cC E hr hml hown hts hlocks hmn hP hK ls hl => ?_)
  have hl : lv_has ls 1 [(0, .ref a)] := hl
  obtain ⟨hO, hz⟩ := hP
  have hS : va_S (fun q : Nat => a ≤ q) ss.heap ss.heap [] := va_S.rf
  have hin3 : ∀ w ∈ wsX30, w ∈ wsX3_init := fun w h => List.mem_cons_of_mem _ (List.mem_append_right _ (h))
  refine lv_aload_n (pc := 0) E.1 E.2 dX3_init_0 rfl (lv_at hl 0 rfl) ?_
  refine W.objInit E.1 E.2 hown (hts _ (List.mem_of_getElem? (i := 1) rfl)) (hts _ (List.mem_of_getElem? (i := 2) rfl)) (hts _ (List.mem_of_getElem? (i := 3) rfl)) rfl (hl.1.trans hml.symm) rfl dX3_init_1 (Nat.le_of_ble_eq_true rfl) (Nat.le_of_ble_eq_true rfl) ?_
  refine W.eq (g2 := F0 mm 4 ls []) rfl ?_
  refine lv_aload_n (pc := 4) E.1 E.2 dX3_init_4 rfl (lv_at hl 0 rfl) ?_
  refine z_bipush (pc := 5) E (by decide) dX3_init_5 ?_
  refine z_newI (pc := 7) E (hts _ (List.mem_of_getElem? (i := 4) rfl)) hK hS (N := 40) rfl (Nat.le_of_ble_eq_true rfl) (Nat.le_of_ble_eq_true rfl) (Nat.le_of_ble_eq_true rfl) dX3_init_7 hz (fun H h1 hz ho hS => ?_)
  have hO := hO.kp (ho _ (by omega))
  have hz : H.size = a + 2 := hz
  refine z_putF (pc := 9) E hts hin3 tyX3 tyX3_ok nmX3 hown hK hO rfl hS (Nat.le_refl _) 0 (by decide) (hts _ (List.mem_of_getElem? (i := 5) rfl)) rfl hmn rfl (tyX3_ok 0 (by decide)) rfl rfl (Nat.le_of_ble_eq_true rfl) dX3_init_9 (fun H locs hO ho hzz hS => ?_)
  have hO : oB G 3 a [.ref (a + 1), .null, .null, .int (iI 0)] H := hO
  have hz := hzz.trans hz
  have h1 := h1.kp (ho _ (by omega))
  refine lv_aload_n (pc := 12) E.1 E.2 dX3_init_12 rfl (lv_at hl 0 rfl) ?_
  refine z_bipush (pc := 13) E (by decide) dX3_init_13 ?_
  refine z_newL (pc := 15) E (hts _ (List.mem_of_getElem? (i := 6) rfl)) hK hS (N := 40) rfl (Nat.le_of_ble_eq_true rfl) (Nat.le_of_ble_eq_true rfl) (Nat.le_of_ble_eq_true rfl) dX3_init_15 hz (fun H h2 hz ho hS => ?_)
  have hO := hO.kp (ho _ (by omega))
  have h1 := h1.kp (ho _ (by omega))
  have hz : H.size = a + 3 := hz
  refine z_putF (pc := 17) E hts hin3 tyX3 tyX3_ok nmX3 hown hK hO rfl hS (Nat.le_refl _) 1 (by decide) (hts _ (List.mem_of_getElem? (i := 7) rfl)) rfl hmn rfl (tyX3_ok 1 (by decide)) rfl rfl (Nat.le_of_ble_eq_true rfl) dX3_init_17 (fun H locs hO ho hzz hS => ?_)
  have hO : oB G 3 a [.ref (a + 1), .ref (a + 2), .null, .int (iI 0)] H := hO
  have hz := hzz.trans hz
  have h1 := h1.kp (ho _ (by omega))
  have h2 := h2.kp (ho _ (by omega))
  refine lv_aload_n (pc := 20) E.1 E.2 dX3_init_20 rfl (lv_at hl 0 rfl) ?_
  refine z_bipush (pc := 21) E (by decide) dX3_init_21 ?_
  refine z_newI (pc := 23) E (hts _ (List.mem_of_getElem? (i := 4) rfl)) hK hS (N := 40) rfl (Nat.le_of_ble_eq_true rfl) (Nat.le_of_ble_eq_true rfl) (Nat.le_of_ble_eq_true rfl) dX3_init_23 hz (fun H h3 hz ho hS => ?_)
  have hO := hO.kp (ho _ (by omega))
  have h1 := h1.kp (ho _ (by omega))
  have h2 := h2.kp (ho _ (by omega))
  have hz : H.size = a + 4 := hz
  refine z_putF (pc := 25) E hts hin3 tyX3 tyX3_ok nmX3 hown hK hO rfl hS (Nat.le_refl _) 2 (by decide) (hts _ (List.mem_of_getElem? (i := 8) rfl)) rfl hmn rfl (tyX3_ok 2 (by decide)) rfl rfl (Nat.le_of_ble_eq_true rfl) dX3_init_25 (fun H locs hO ho hzz hS => ?_)
  have hO : oB G 3 a [.ref (a + 1), .ref (a + 2), .ref (a + 3), .int (iI 0)] H := hO
  have hz := hzz.trans hz
  have h1 := h1.kp (ho _ (by omega))
  have h2 := h2.kp (ho _ (by omega))
  have h3 := h3.kp (ho _ (by omega))
  refine lv_aload_n (pc := 28) E.1 E.2 dX3_init_28 rfl (lv_at hl 0 rfl) ?_
  have hX : FO G (fun k => a + k) (fun _ => 0) H := ⟨_, _, _, ⟨hO, h1, h2, h3, (fun i j _ _ h => Nat.add_left_cancel h)⟩, fun j h0 h1 => absurd h1 (Int.not_lt.mpr h0)⟩
  have hz0 := hz
  refine z_wVv (pc := 29) (As := []) (rest := []) E hml hown hts (mX3_clear lL G (fun k => a + k) (fun _ => 0)) (cwV 0 hts gX3_init_X3_clear rfl rfl rfl vdX3_clear ⟨Nat.le_of_ble_eq_true rfl, Nat.le_of_ble_eq_true rfl⟩) (hO.recv hK rfl) hX hK hS (fun q h => Exists.elim h fun k hk => by show a ≤ q; rw [hk.2]; exact Nat.le_add_right _ _) rfl hl.1 rfl dX3_init_29 ⟨Nat.le_of_ble_eq_true rfl, Nat.le_of_ble_eq_true rfl⟩ (Nat.le_of_ble_eq_true rfl) (fun H locs hX hsz hoth hS => ?_)
  refine z_sz fun hle => ?_
  have hz : H.size = a + 4 := by omega
  refine W.widen (k := 3) (n := 120) (Nat.le_of_ble_eq_true rfl) (Nat.le_of_ble_eq_true rfl) ?_
  exact z_retC (P1 := fun H : Heap => FO G (fun k => a + k) iniT H ∧ H.size = a + 4) E hr ⟨hX, hz⟩ hS hlocks dX3_init_32
set_option maxHeartbeats 1000000 in
set_option maxRecDepth 100000 in
theorem mX0_init (lL : Launch) (G : GG) (a : Nat) : Met lL yX0_init wsX0_init ({ frames := 1, cells := 4, slots := 64, locals := 21 } : Room) (va_Pc [.ref a] (fun U => (oB G 0 a [.null, .null, .null, .null] U.heap ∧ U.heap.size = a + 1) ∧ KK G U)) (va_Qv (fun _ : Unit => True) (fun _ tZ => AC G (fun k => a + k) iniT tZ.heap ∧ tZ.heap.size = a + 5) (fun q : Nat => a ≤ q)) 4 64 (fun q : Nat => a ≤ q) := by
  refine z_metI (P := fun H : Heap => oB G 0 a [.null, .null, .null, .null] H ∧ H.size = a + 1) (by decide) rfl rfl (Nat.le_of_ble_eq_true rfl) (fun pp ee ss mm below meth cC E hr hml hown hts hlocks hmn hP hK ls hl => ?_)
  have hl : lv_has ls 1 [(0, .ref a)] := hl
  obtain ⟨hO, hz⟩ := hP
  have hS : va_S (fun q : Nat => a ≤ q) ss.heap ss.heap [] := va_S.rf
  have hin0 : ∀ w ∈ wsX00, w ∈ wsX0_init := fun w h => List.mem_cons_of_mem _ (List.mem_append_right _ (h))
  refine lv_aload_n (pc := 0) E.1 E.2 dX0_init_0 rfl (lv_at hl 0 rfl) ?_
  refine W.objInit E.1 E.2 hown (hts _ (List.mem_of_getElem? (i := 1) rfl)) (hts _ (List.mem_of_getElem? (i := 2) rfl)) (hts _ (List.mem_of_getElem? (i := 3) rfl)) rfl (hl.1.trans hml.symm) rfl dX0_init_1 (Nat.le_of_ble_eq_true rfl) (Nat.le_of_ble_eq_true rfl) ?_
  refine W.eq (g2 := F0 mm 4 ls []) rfl ?_
  refine lv_aload_n (pc := 4) E.1 E.2 dX0_init_4 rfl (lv_at hl 0 rfl) ?_
  refine z_bipush (pc := 5) E (by decide) dX0_init_5 ?_
  refine z_newI (pc := 7) E (hts _ (List.mem_of_getElem? (i := 4) rfl)) hK hS (N := 16) rfl (Nat.le_of_ble_eq_true rfl) (Nat.le_of_ble_eq_true rfl) (Nat.le_of_ble_eq_true rfl) dX0_init_7 hz (fun H h1 hz ho hS => ?_)
  have hO := hO.kp (ho _ (by omega))
  have hz : H.size = a + 2 := hz
  refine z_putF (pc := 9) E hts hin0 tyX0 tyX0_ok nmX0 hown hK hO rfl hS (Nat.le_refl _) 0 (by decide) (hts _ (List.mem_of_getElem? (i := 5) rfl)) rfl hmn rfl (tyX0_ok 0 (by decide)) rfl rfl (Nat.le_of_ble_eq_true rfl) dX0_init_9 (fun H locs hO ho hzz hS => ?_)
  have hO : oB G 0 a [.ref (a + 1), .null, .null, .null] H := hO
  have hz := hzz.trans hz
  have h1 := h1.kp (ho _ (by omega))
  refine lv_aload_n (pc := 12) E.1 E.2 dX0_init_12 rfl (lv_at hl 0 rfl) ?_
  refine z_bipush (pc := 13) E (by decide) dX0_init_13 ?_
  refine z_newI (pc := 15) E (hts _ (List.mem_of_getElem? (i := 4) rfl)) hK hS (N := 16) rfl (Nat.le_of_ble_eq_true rfl) (Nat.le_of_ble_eq_true rfl) (Nat.le_of_ble_eq_true rfl) dX0_init_15 hz (fun H h2 hz ho hS => ?_)
  have hO := hO.kp (ho _ (by omega))
  have h1 := h1.kp (ho _ (by omega))
  have hz : H.size = a + 3 := hz
  refine z_putF (pc := 17) E hts hin0 tyX0 tyX0_ok nmX0 hown hK hO rfl hS (Nat.le_refl _) 1 (by decide) (hts _ (List.mem_of_getElem? (i := 6) rfl)) rfl hmn rfl (tyX0_ok 1 (by decide)) rfl rfl (Nat.le_of_ble_eq_true rfl) dX0_init_17 (fun H locs hO ho hzz hS => ?_)
  have hO : oB G 0 a [.ref (a + 1), .ref (a + 2), .null, .null] H := hO
  have hz := hzz.trans hz
  have h1 := h1.kp (ho _ (by omega))
  have h2 := h2.kp (ho _ (by omega))
  refine lv_aload_n (pc := 20) E.1 E.2 dX0_init_20 rfl (lv_at hl 0 rfl) ?_
  refine z_bipush (pc := 21) E (by decide) dX0_init_21 ?_
  refine z_newI (pc := 23) E (hts _ (List.mem_of_getElem? (i := 4) rfl)) hK hS (N := 16) rfl (Nat.le_of_ble_eq_true rfl) (Nat.le_of_ble_eq_true rfl) (Nat.le_of_ble_eq_true rfl) dX0_init_23 hz (fun H h3 hz ho hS => ?_)
  have hO := hO.kp (ho _ (by omega))
  have h1 := h1.kp (ho _ (by omega))
  have h2 := h2.kp (ho _ (by omega))
  have hz : H.size = a + 4 := hz
  refine z_putF (pc := 25) E hts hin0 tyX0 tyX0_ok nmX0 hown hK hO rfl hS (Nat.le_refl _) 2 (by decide) (hts _ (List.mem_of_getElem? (i := 7) rfl)) rfl hmn rfl (tyX0_ok 2 (by decide)) rfl rfl (Nat.le_of_ble_eq_true rfl) dX0_init_25 (fun H locs hO ho hzz hS => ?_)
  have hO : oB G 0 a [.ref (a + 1), .ref (a + 2), .ref (a + 3), .null] H := hO
  have hz := hzz.trans hz
  have h1 := h1.kp (ho _ (by omega))
  have h2 := h2.kp (ho _ (by omega))
  have h3 := h3.kp (ho _ (by omega))
  refine lv_aload_n (pc := 28) E.1 E.2 dX0_init_28 rfl (lv_at hl 0 rfl) ?_
  refine z_bipush (pc := 29) E (by decide) dX0_init_29 ?_
  refine z_newI (pc := 31) E (hts _ (List.mem_of_getElem? (i := 4) rfl)) hK hS (N := 16) rfl (Nat.le_of_ble_eq_true rfl) (Nat.le_of_ble_eq_true rfl) (Nat.le_of_ble_eq_true rfl) dX0_init_31 hz (fun H h4 hz ho hS => ?_)
  have hO := hO.kp (ho _ (by omega))
  have h1 := h1.kp (ho _ (by omega))
  have h2 := h2.kp (ho _ (by omega))
  have h3 := h3.kp (ho _ (by omega))
  have hz : H.size = a + 5 := hz
  refine z_putF (pc := 33) E hts hin0 tyX0 tyX0_ok nmX0 hown hK hO rfl hS (Nat.le_refl _) 3 (by decide) (hts _ (List.mem_of_getElem? (i := 8) rfl)) rfl hmn rfl (tyX0_ok 3 (by decide)) rfl rfl (Nat.le_of_ble_eq_true rfl) dX0_init_33 (fun H locs hO ho hzz hS => ?_)
  have hO : oB G 0 a [.ref (a + 1), .ref (a + 2), .ref (a + 3), .ref (a + 4)] H := hO
  have hz := hzz.trans hz
  have h1 := h1.kp (ho _ (by omega))
  have h2 := h2.kp (ho _ (by omega))
  have h3 := h3.kp (ho _ (by omega))
  have h4 := h4.kp (ho _ (by omega))
  refine lv_aload_n (pc := 36) E.1 E.2 dX0_init_36 rfl (lv_at hl 0 rfl) ?_
  have hX : AC G (fun k => a + k) (fun _ => 0) H := ⟨_, _, _, _, ⟨hO, h1, h2, h3, h4, (fun i j _ _ h => Nat.add_left_cancel h)⟩, fun j _ _ => ⟨rfl, rfl, rfl, rfl⟩⟩
  have hz0 := hz
  refine z_wVv (pc := 37) (As := []) (rest := []) E hml hown hts (mX0_clear lL G (fun k => a + k) (fun _ => 0)) (cwV 0 hts gX0_init_X0_clear rfl rfl rfl vdX0_clear ⟨Nat.le_of_ble_eq_true rfl, Nat.le_of_ble_eq_true rfl⟩) (hO.recv hK rfl) hX hK hS (fun q h => Exists.elim h fun k hk => by show a ≤ q; rw [hk.2]; exact Nat.le_add_right _ _) rfl hl.1 rfl dX0_init_37 ⟨Nat.le_of_ble_eq_true rfl, Nat.le_of_ble_eq_true rfl⟩ (Nat.le_of_ble_eq_true rfl) (fun H locs hX hsz hoth hS => ?_)
  refine z_sz fun hle => ?_
  have hz : H.size = a + 5 := by omega
  refine W.widen (k := 4) (n := 64) (Nat.le_of_ble_eq_true rfl) (Nat.le_of_ble_eq_true rfl) ?_
  exact z_retC (P1 := fun H : Heap => AC G (fun k => a + k) iniT H ∧ H.size = a + 5) E hr ⟨hX, hz⟩ hS hlocks dX0_init_40
set_option maxHeartbeats 1000000 in
set_option maxRecDepth 100000 in
theorem mX6_init (lL : Launch) (G : GG) (a : Nat) : Met lL yX6_init wsX6_init ({ frames := 4, cells := 17, slots := 368, locals := 120 } : Room) (va_Pc [.ref a] (fun U => (oB G 6 a [.null, .null, .null, .null, .int (iI 0), .int (iI 0)] U.heap ∧ U.heap.size = a + 1) ∧ KK G U)) (va_Qv (fun _ : Unit => True) (fun _ tZ => ST G (fun k => a + k) iniT tZ.heap ∧ tZ.heap.size = a + 18) (fun q : Nat => a ≤ q)) 17 368 (fun q : Nat => a ≤ q) := by
  refine z_metI (P := fun H : Heap => oB G 6 a [.null, .null, .null, .null, .int (iI 0), .int (iI 0)] H ∧ H.size = a + 1) (by decide) rfl rfl (Nat.le_of_ble_eq_true rfl) (fun pp ee ss mm below meth cC E hr hml hown hts hlocks hmn hP hK ls hl => ?_)
  have hl : lv_has ls 1 [(0, .ref a)] := hl
  obtain ⟨hO, hz⟩ := hP
  have hS : va_S (fun q : Nat => a ≤ q) ss.heap ss.heap [] := va_S.rf
  have hin0 : ∀ w ∈ wsX00, w ∈ wsX6_init := fun w h => List.mem_cons_of_mem _ (List.mem_append_left _ (List.mem_append_right _ (h)))
  have hin2 : ∀ w ∈ wsX20, w ∈ wsX6_init := fun w h => List.mem_cons_of_mem _ (List.mem_append_left _ (List.mem_append_left _ (List.mem_append_right _ (h))))
  have hin3 : ∀ w ∈ wsX30, w ∈ wsX6_init := fun w h => List.mem_cons_of_mem _ (List.mem_append_left _ (List.mem_append_left _ (List.mem_append_left _ (List.mem_append_left _ (List.mem_append_right _ (h))))))
  have hin4 : ∀ w ∈ wsX40, w ∈ wsX6_init := fun w h => List.mem_cons_of_mem _ (List.mem_append_right _ (h))
  have hin6 : ∀ w ∈ wsX60, w ∈ wsX6_init := fun w h => List.mem_cons_of_mem _ (List.mem_append_left _ (List.mem_append_left _ (List.mem_append_left _ (List.mem_append_right _ (h)))))
  refine lv_aload_n (pc := 0) E.1 E.2 dX6_init_0 rfl (lv_at hl 0 rfl) ?_
  refine W.objInit E.1 E.2 hown (hts _ (List.mem_of_getElem? (i := 1) rfl)) (hts _ (List.mem_of_getElem? (i := 2) rfl)) (hts _ (List.mem_of_getElem? (i := 3) rfl)) rfl (hl.1.trans hml.symm) rfl dX6_init_1 (Nat.le_of_ble_eq_true rfl) (Nat.le_of_ble_eq_true rfl) ?_
  refine W.eq (g2 := F0 mm 4 ls []) rfl ?_
  refine lv_aload_n (pc := 4) E.1 E.2 dX6_init_4 rfl (lv_at hl 0 rfl) ?_
  refine z_new (pc := 5) E hts hin3 tyX3 tyX3_ok hown (hts _ (List.mem_of_getElem? (i := 4) rfl)) (hts _ (List.mem_of_getElem? (i := 5) rfl)) (hts _ (List.mem_of_getElem? (i := 6) rfl)) hK hS (ci := 3) rfl bl3 (Nat.le_of_ble_eq_true rfl) (Nat.le_of_ble_eq_true rfl) dX6_init_5 hz (fun H hN hz ho hS => ?_)
  have hO := hO.kp (ho _ (by omega))
  have hz : H.size = a + 2 := hz
  refine lv_dup (pc := 8) E.1 E.2 dX6_init_8 rfl ?_
  refine z_wI (pc := 9) (P := fun H : Heap => oB G 3 (a + 1) [.null, .null, .null, .int (iI 0)] H ∧ H.size = a + 1 + 1) (P1 := fun H : Heap => FO G (fun k => a + 1 + k) iniT H ∧ H.size = a + 1 + 4) (As := []) (rest := [.ref (a + 1), .ref a]) E hml hown hts (mX3_init lL G (a + 1)) (cwI 0 hts gX6_init_X3_init rfl rfl rfl (hts _ (List.mem_of_getElem? (i := 6) rfl)) (hts _ (List.mem_of_getElem? (i := 21) rfl)) (hts _ (List.mem_of_getElem? (i := 22) rfl)) rfl vdX3_init.2 ⟨Nat.le_of_ble_eq_true rfl, Nat.le_of_ble_eq_true rfl⟩) ⟨hN, hz⟩ hK hS (fun q h => Nat.le_trans (Nat.le_add_right _ _) h) rfl hl.1 rfl dX6_init_9 ⟨Nat.le_of_ble_eq_true rfl, Nat.le_of_ble_eq_true rfl⟩ (Nat.le_of_ble_eq_true rfl) (fun H locs hP1 hsz hoth hS => ?_)
  have ho : ∀ q, q < a + 1 → H[q]? = _ := fun q hq => hoth q (by omega) (by show ¬ (a + 1 ≤ q); omega)
  obtain ⟨hFO, hz⟩ := hP1
  have hz : H.size = a + 5 := hz
  have hO := hO.kp (ho _ (by omega))
  refine z_putF (pc := 12) E hts hin6 tyX6 tyX6_ok nmX6 hown hK hO rfl hS (Nat.le_refl _) 0 (by decide) (hts _ (List.mem_of_getElem? (i := 7) rfl)) rfl hmn rfl (tyX6_ok 0 (by decide)) rfl rfl (Nat.le_of_ble_eq_true rfl) dX6_init_12 (fun H locs hO ho hzz hS => ?_)
  have hO : oB G 6 a [.ref (a + 1), .null, .null, .null, .int (iI 0), .int (iI 0)] H := hO
  have hz := hzz.trans hz
  have hFO := hFO.kp (fun k hk => ho (a + 1 + k) (by omega))
  refine lv_aload_n (pc := 15) E.1 E.2 dX6_init_15 rfl (lv_at hl 0 rfl) ?_
  refine z_new (pc := 16) E hts hin2 tyX2 tyX2_ok hown (hts _ (List.mem_of_getElem? (i := 8) rfl)) (hts _ (List.mem_of_getElem? (i := 9) rfl)) (hts _ (List.mem_of_getElem? (i := 10) rfl)) hK hS (ci := 2) rfl bl2 (Nat.le_of_ble_eq_true rfl) (Nat.le_of_ble_eq_true rfl) dX6_init_16 hz (fun H hN hz ho hS => ?_)
  have hO := hO.kp (ho _ (by omega))
  have hFO := hFO.kp (fun k hk => ho (a + 1 + k) (by omega))
  have hz : H.size = a + 6 := hz
  refine lv_dup (pc := 19) E.1 E.2 dX6_init_19 rfl ?_
  refine z_wIN (pc := 20) (P := fun H : Heap => oB G 2 (a + 5) [.null, .null, .int (iI 0)] H ∧ H.size = a + 5 + 1) (P1 := fun H : Heap => FI G (fun k => a + 5 + k) iniT H ∧ H.size = a + 5 + 3) (As := []) (rest := [.ref (a + 5), .ref a]) E hml hown hts (mX2_init lL G (a + 5)) ⟨va_cnB 0 hts gX6_init_X2_init_n20 rfl rfl rfl hK.2.2.2.2.2.2.1 (hts _ (List.mem_of_getElem? (i := 10) rfl)) vdX2_init.2 ⟨Nat.le_of_ble_eq_true rfl, Nat.le_of_ble_eq_true rfl⟩, rfl, (hts _ (List.mem_of_getElem? (i := 36) rfl))⟩ ⟨hN, hz⟩ hK hS (fun q h => Nat.le_trans (Nat.le_add_right _ _) h) rfl hl.1 rfl dX6_init_20 ⟨Nat.le_of_ble_eq_true rfl, Nat.le_of_ble_eq_true rfl⟩ (Nat.le_of_ble_eq_true rfl) (fun H locs hP1 hsz hoth hS => ?_)
  have ho : ∀ q, q < a + 5 → H[q]? = _ := fun q hq => hoth q (by omega) (by show ¬ (a + 5 ≤ q); omega)
  obtain ⟨hFI, hz⟩ := hP1
  have hz : H.size = a + 8 := hz
  have hO := hO.kp (ho _ (by omega))
  have hFO := hFO.kp (fun k hk => ho (a + 1 + k) (by omega))
  refine z_putF (pc := 23) E hts hin6 tyX6 tyX6_ok nmX6 hown hK hO rfl hS (Nat.le_refl _) 1 (by decide) (hts _ (List.mem_of_getElem? (i := 11) rfl)) rfl hmn rfl (tyX6_ok 1 (by decide)) rfl rfl (Nat.le_of_ble_eq_true rfl) dX6_init_23 (fun H locs hO ho hzz hS => ?_)
  have hO : oB G 6 a [.ref (a + 1), .ref (a + 5), .null, .null, .int (iI 0), .int (iI 0)] H := hO
  have hz := hzz.trans hz
  have hFO := hFO.kp (fun k hk => ho (a + 1 + k) (by omega))
  have hFI := hFI.kp (fun k hk => ho (a + 5 + k) (by omega))
  refine lv_aload_n (pc := 26) E.1 E.2 dX6_init_26 rfl (lv_at hl 0 rfl) ?_
  refine z_new (pc := 27) E hts hin0 tyX0 tyX0_ok hown (hts _ (List.mem_of_getElem? (i := 12) rfl)) (hts _ (List.mem_of_getElem? (i := 13) rfl)) (hts _ (List.mem_of_getElem? (i := 14) rfl)) hK hS (ci := 0) rfl bl0 (Nat.le_of_ble_eq_true rfl) (Nat.le_of_ble_eq_true rfl) dX6_init_27 hz (fun H hN hz ho hS => ?_)
  have hO := hO.kp (ho _ (by omega))
  have hFO := hFO.kp (fun k hk => ho (a + 1 + k) (by omega))
  have hFI := hFI.kp (fun k hk => ho (a + 5 + k) (by omega))
  have hz : H.size = a + 9 := hz
  refine lv_dup (pc := 30) E.1 E.2 dX6_init_30 rfl ?_
  refine z_wI (pc := 31) (P := fun H : Heap => oB G 0 (a + 8) [.null, .null, .null, .null] H ∧ H.size = a + 8 + 1) (P1 := fun H : Heap => AC G (fun k => a + 8 + k) iniT H ∧ H.size = a + 8 + 5) (As := []) (rest := [.ref (a + 8), .ref a]) E hml hown hts (mX0_init lL G (a + 8)) (cwI 0 hts gX6_init_X0_init rfl rfl rfl (hts _ (List.mem_of_getElem? (i := 14) rfl)) (hts _ (List.mem_of_getElem? (i := 41) rfl)) (hts _ (List.mem_of_getElem? (i := 42) rfl)) rfl vdX0_init.2 ⟨Nat.le_of_ble_eq_true rfl, Nat.le_of_ble_eq_true rfl⟩) ⟨hN, hz⟩ hK hS (fun q h => Nat.le_trans (Nat.le_add_right _ _) h) rfl hl.1 rfl dX6_init_31 ⟨Nat.le_of_ble_eq_true rfl, Nat.le_of_ble_eq_true rfl⟩ (Nat.le_of_ble_eq_true rfl) (fun H locs hP1 hsz hoth hS => ?_)
  have ho : ∀ q, q < a + 8 → H[q]? = _ := fun q hq => hoth q (by omega) (by show ¬ (a + 8 ≤ q); omega)
  obtain ⟨hAC, hz⟩ := hP1
  have hz : H.size = a + 13 := hz
  have hO := hO.kp (ho _ (by omega))
  have hFO := hFO.kp (fun k hk => ho (a + 1 + k) (by omega))
  have hFI := hFI.kp (fun k hk => ho (a + 5 + k) (by omega))
  refine z_putF (pc := 34) E hts hin6 tyX6 tyX6_ok nmX6 hown hK hO rfl hS (Nat.le_refl _) 2 (by decide) (hts _ (List.mem_of_getElem? (i := 15) rfl)) rfl hmn rfl (tyX6_ok 2 (by decide)) rfl rfl (Nat.le_of_ble_eq_true rfl) dX6_init_34 (fun H locs hO ho hzz hS => ?_)
  have hO : oB G 6 a [.ref (a + 1), .ref (a + 5), .ref (a + 8), .null, .int (iI 0), .int (iI 0)] H := hO
  have hz := hzz.trans hz
  have hFO := hFO.kp (fun k hk => ho (a + 1 + k) (by omega))
  have hFI := hFI.kp (fun k hk => ho (a + 5 + k) (by omega))
  have hAC := hAC.kp (fun k hk => ho (a + 8 + k) (by omega))
  refine lv_aload_n (pc := 37) E.1 E.2 dX6_init_37 rfl (lv_at hl 0 rfl) ?_
  refine z_new (pc := 38) E hts hin4 tyX4 tyX4_ok hown (hts _ (List.mem_of_getElem? (i := 16) rfl)) (hts _ (List.mem_of_getElem? (i := 17) rfl)) (hts _ (List.mem_of_getElem? (i := 18) rfl)) hK hS (ci := 4) rfl bl4 (Nat.le_of_ble_eq_true rfl) (Nat.le_of_ble_eq_true rfl) dX6_init_38 hz (fun H hN hz ho hS => ?_)
  have hO := hO.kp (ho _ (by omega))
  have hFO := hFO.kp (fun k hk => ho (a + 1 + k) (by omega))
  have hFI := hFI.kp (fun k hk => ho (a + 5 + k) (by omega))
  have hAC := hAC.kp (fun k hk => ho (a + 8 + k) (by omega))
  have hz : H.size = a + 14 := hz
  refine lv_dup (pc := 41) E.1 E.2 dX6_init_41 rfl ?_
  refine z_wIN (pc := 42) (P := fun H : Heap => oB G 4 (a + 13) [.null, .null, .null, .null, .int (iI 0)] H ∧ H.size = a + 13 + 1) (P1 := fun H : Heap => GI G (fun k => a + 13 + k) iniT H ∧ H.size = a + 13 + 5) (As := []) (rest := [.ref (a + 13), .ref a]) E hml hown hts (mX4_init lL G (a + 13)) ⟨va_cnB 0 hts gX6_init_X4_init_n34 rfl rfl rfl hK.2.2.2.2.2.2.2.1 (hts _ (List.mem_of_getElem? (i := 18) rfl)) vdX4_init.2 ⟨Nat.le_of_ble_eq_true rfl, Nat.le_of_ble_eq_true rfl⟩, rfl, (hts _ (List.mem_of_getElem? (i := 53) rfl))⟩ ⟨hN, hz⟩ hK hS (fun q h => Nat.le_trans (Nat.le_add_right _ _) h) rfl hl.1 rfl dX6_init_42 ⟨Nat.le_of_ble_eq_true rfl, Nat.le_of_ble_eq_true rfl⟩ (Nat.le_of_ble_eq_true rfl) (fun H locs hP1 hsz hoth hS => ?_)
  have ho : ∀ q, q < a + 13 → H[q]? = _ := fun q hq => hoth q (by omega) (by show ¬ (a + 13 ≤ q); omega)
  obtain ⟨hGI, hz⟩ := hP1
  have hz : H.size = a + 18 := hz
  have hO := hO.kp (ho _ (by omega))
  have hFO := hFO.kp (fun k hk => ho (a + 1 + k) (by omega))
  have hFI := hFI.kp (fun k hk => ho (a + 5 + k) (by omega))
  have hAC := hAC.kp (fun k hk => ho (a + 8 + k) (by omega))
  refine z_putF (pc := 45) E hts hin6 tyX6 tyX6_ok nmX6 hown hK hO rfl hS (Nat.le_refl _) 3 (by decide) (hts _ (List.mem_of_getElem? (i := 19) rfl)) rfl hmn rfl (tyX6_ok 3 (by decide)) rfl rfl (Nat.le_of_ble_eq_true rfl) dX6_init_45 (fun H locs hO ho hzz hS => ?_)
  have hO : oB G 6 a [.ref (a + 1), .ref (a + 5), .ref (a + 8), .ref (a + 13), .int (iI 0), .int (iI 0)] H := hO
  have hz := hzz.trans hz
  have hFO := hFO.kp (fun k hk => ho (a + 1 + k) (by omega))
  have hFI := hFI.kp (fun k hk => ho (a + 5 + k) (by omega))
  have hAC := hAC.kp (fun k hk => ho (a + 8 + k) (by omega))
  have hGI := hGI.kp (fun k hk => ho (a + 13 + k) (by omega))
  refine lv_aload_n (pc := 48) E.1 E.2 dX6_init_48 rfl (lv_at hl 0 rfl) ?_
  refine z_bipush (pc := 49) E (by decide) dX6_init_49 ?_
  have hlt := hO.lt
  refine p6_5 (pc := 51) E hts hin6 hown hK hO hS (Nat.le_refl _) (hts _ (List.mem_of_getElem? (i := 20) rfl)) dX6_init_51 (fun H locs hO ho hS => ?_)
  have hz := (sz_eq ho hlt hO.lt).trans hz
  have hFO := hFO.kp (fun k hk => ho (a + 1 + k) (by omega))
  have hFI := hFI.kp (fun k hk => ho (a + 5 + k) (by omega))
  have hAC := hAC.kp (fun k hk => ho (a + 8 + k) (by omega))
  have hGI := hGI.kp (fun k hk => ho (a + 13 + k) (by omega))
  rw [fA] at hFO hFI hAC hGI
  refine W.widen (k := 17) (n := 368) (Nat.le_of_ble_eq_true rfl) (Nat.le_of_ble_eq_true rfl) ?_
  exact z_retC (P1 := fun H : Heap => ST G (fun k => a + k) iniT H ∧ H.size = a + 18) E hr ⟨⟨hO, hFO, hFI, hAC, hGI, (fun i j _ _ h => Nat.add_left_cancel h)⟩, hz⟩ hS hlocks dX6_init_54
