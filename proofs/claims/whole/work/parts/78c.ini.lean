set_option maxHeartbeats 1000000 in
set_option maxRecDepth 100000 in
theorem mX5_init (lL : Launch) (G : GG) (a : Nat) (t tb : Nat) (x1 : Value) : Met lL yX5_init wsX5_init ({ frames := 6, cells := 18, slots := 374, locals := 160 } : Room) (va_Pc [.ref a, .ref t] (fun U => (oB G 5 a [.null, .int (iI 0), .int (iI 0), .null, .int (iI 0), .int (iI 0), .int (iI 0)] U.heap ∧ U.heap.size = a + 1 ∧ oB G 1 t [.ref tb, x1] U.heap ∧ t < a) ∧ KK G U)) (va_Qv (fun _ : Unit => True) (fun _ tZ => oB G 5 a [.ref (a + 1), .int (iI 0), .int (iI (-1)), .ref tb, .int (iI 0), .int (iI 0), .int (iI 0)] tZ.heap ∧ ST G (fun k => a + 1 + k) iniT tZ.heap ∧ tZ.heap.size = a + 19) (fun q : Nat => a ≤ q)) 18 374 (fun q : Nat => a ≤ q) := by
  refine z_metI (P := fun H : Heap => oB G 5 a [.null, .int (iI 0), .int (iI 0), .null, .int (iI 0), .int (iI 0), .int (iI 0)] H ∧ H.size = a + 1 ∧ oB G 1 t [.ref tb, x1] H ∧ t < a) (by decide) rfl rfl (Nat.le_of_ble_eq_true rfl) (fun pp ee ss mm below meth cC E hr hml hown hts hlocks hmn hP hK ls hl => ?_)
  have hl : lv_has ls 2 [(0, .ref a), (1, .ref t)] := hl
  obtain ⟨hO, hz, hT, hta⟩ := hP
  have hS : va_S (fun q : Nat => a ≤ q) ss.heap ss.heap [] := va_S.rf
  have hin1 : ∀ w ∈ wsX10, w ∈ wsX5_init := fun w h => List.mem_cons_of_mem _ (List.mem_append_left _ (List.mem_append_left _ (List.mem_append_left _ (List.mem_append_left _ (List.mem_append_right _ (h))))))
  have hin5 : ∀ w ∈ wsX50, w ∈ wsX5_init := fun w h => List.mem_cons_of_mem _ (List.mem_append_left _ (List.mem_append_left _ (List.mem_append_left _ (List.mem_append_left _ (List.mem_append_left _ (List.mem_append_right _ (h)))))))
  have hin6 : ∀ w ∈ wsX60, w ∈ wsX5_init := fun w h => List.mem_cons_of_mem _ (List.mem_append_left _ (List.mem_append_left _ (List.mem_append_left _ (List.mem_append_left _ (List.mem_append_left _ (List.mem_append_left _ (List.mem_append_right _ (h))))))))
  refine lv_aload_n (pc := 0) E.1 E.2 dX5_init_0 rfl (lv_at hl 0 rfl) ?_
  refine W.objInit E.1 E.2 hown (hts _ (List.mem_of_getElem? (i := 1) rfl)) (hts _ (List.mem_of_getElem? (i := 2) rfl)) (hts _ (List.mem_of_getElem? (i := 3) rfl)) rfl (hl.1.trans hml.symm) rfl dX5_init_1 (Nat.le_of_ble_eq_true rfl) (Nat.le_of_ble_eq_true rfl) ?_
  refine W.eq (g2 := F0 mm 4 ls []) rfl ?_
  refine lv_aload_n (pc := 4) E.1 E.2 dX5_init_4 rfl (lv_at hl 0 rfl) ?_
  refine z_new (pc := 5) E hts hin6 tyX6 tyX6_ok hown (hts _ (List.mem_of_getElem? (i := 4) rfl)) (hts _ (List.mem_of_getElem? (i := 5) rfl)) (hts _ (List.mem_of_getElem? (i := 6) rfl)) hK hS (ci := 6) rfl bl6 (Nat.le_of_ble_eq_true rfl) (Nat.le_of_ble_eq_true rfl) dX5_init_5 hz (fun H hN hz ho hS => ?_)
  have hO := hO.kp (ho _ (by omega))
  have hT := hT.kp (ho _ (by omega))
  have hz : H.size = a + 2 := hz
  refine lv_dup (pc := 8) E.1 E.2 dX5_init_8 rfl ?_
  refine z_wIN (pc := 9) (P := fun H : Heap => oB G 6 (a + 1) [.null, .null, .null, .null, .int (iI 0), .int (iI 0)] H ∧ H.size = a + 1 + 1) (P1 := fun H : Heap => ST G (fun k => a + 1 + k) iniT H ∧ H.size = a + 1 + 18) (As := []) (rest := [.ref (a + 1), .ref a]) E hml hown hts (mX6_init lL G (a + 1)) ⟨va_cnB 0 hts gX5_init_X6_init_n11 rfl rfl rfl hK.2.2.2.2.2.1 (hts _ (List.mem_of_getElem? (i := 6) rfl)) vdX6_init.2 ⟨Nat.le_of_ble_eq_true rfl, Nat.le_of_ble_eq_true rfl⟩, rfl, (hts _ (List.mem_of_getElem? (i := 10) rfl))⟩ ⟨hN, hz⟩ hK hS (fun q h => Nat.le_trans (Nat.le_add_right _ _) h) rfl hl.1 rfl dX5_init_9 ⟨Nat.le_of_ble_eq_true rfl, Nat.le_of_ble_eq_true rfl⟩ (Nat.le_of_ble_eq_true rfl) (fun H locs hP1 hsz hoth hS => ?_)
  have ho : ∀ q, q < a + 1 → H[q]? = _ := fun q hq => hoth q (by omega) (by show ¬ (a + 1 ≤ q); omega)
  obtain ⟨hD, hz⟩ := hP1
  have hz : H.size = a + 19 := hz
  have hO := hO.kp (ho _ (by omega))
  have hT := hT.kp (ho _ (by omega))
  refine z_putF (pc := 12) E hts hin5 tyX5 tyX5_ok nmX5 hown hK hO rfl hS (Nat.le_refl _) 0 (by decide) (hts _ (List.mem_of_getElem? (i := 7) rfl)) rfl hmn rfl (tyX5_ok 0 (by decide)) rfl rfl (Nat.le_of_ble_eq_true rfl) dX5_init_12 (fun H locs hO ho hzz hS => ?_)
  have hO : oB G 5 a [.ref (a + 1), .int (iI 0), .int (iI 0), .null, .int (iI 0), .int (iI 0), .int (iI 0)] H := hO
  have hz := hzz.trans hz
  have hT := hT.kp (ho _ (by omega))
  have hD := hD.kp (fun k hk => ho (a + 1 + k) (by omega))
  refine lv_aload_n (pc := 15) E.1 E.2 dX5_init_15 rfl (lv_at hl 0 rfl) ?_
  refine z_iconst (pc := 16) E dX5_init_16 ?_
  have hlt := hO.lt
  refine p5_2 (pc := 17) E hts hin5 hown hK hO hS (Nat.le_refl _) (hts _ (List.mem_of_getElem? (i := 8) rfl)) dX5_init_17 (fun H locs hO ho hS => ?_)
  have hz := (sz_eq ho hlt hO.lt).trans hz
  have hT := hT.kp (ho _ (by omega))
  have hD := hD.kp (fun k hk => ho (a + 1 + k) (by omega))
  refine lv_aload_n (pc := 20) E.1 E.2 dX5_init_20 rfl (lv_at hl 0 rfl) ?_
  refine lv_aload_n (pc := 21) E.1 E.2 dX5_init_21 rfl (lv_at hl 1 rfl) ?_
  refine z_getBy (pc := 22) E hts hin1 hown hK hT (va_Nw.use rfl hK.2.2.2.2.2.2.2.2.2) dX5_init_22 ?_
  refine z_putF (pc := 25) E hts hin5 tyX5 tyX5_ok nmX5 hown hK hO rfl hS (Nat.le_refl _) 3 (by decide) (hts _ (List.mem_of_getElem? (i := 9) rfl)) rfl hmn rfl (tyX5_ok 3 (by decide)) rfl rfl (Nat.le_of_ble_eq_true rfl) dX5_init_25 (fun H locs hO ho hzz hS => ?_)
  have hO : oB G 5 a [.ref (a + 1), .int (iI 0), .int (iI (-1)), .ref tb, .int (iI 0), .int (iI 0), .int (iI 0)] H := hO
  have hz := hzz.trans hz
  have hT := hT.kp (ho _ (by omega))
  have hD := hD.kp (fun k hk => ho (a + 1 + k) (by omega))
  refine W.widen (k := 18) (n := 374) (Nat.le_of_ble_eq_true rfl) (Nat.le_of_ble_eq_true rfl) ?_
  exact z_retC (P1 := fun H : Heap => oB G 5 a [.ref (a + 1), .int (iI 0), .int (iI (-1)), .ref tb, .int (iI 0), .int (iI 0), .int (iI 0)] H ∧ ST G (fun k => a + 1 + k) iniT H ∧ H.size = a + 19) E hr ⟨hO, hD, hz⟩ hS hlocks dX5_init_28
set_option maxHeartbeats 1000000 in
set_option maxRecDepth 100000 in
theorem mX8_init (lL : Launch) (G : GG) (a : Nat) : Met lL yX8_init wsX8_init ({ frames := 1, cells := 5, slots := 4870, locals := 40 } : Room) (va_Pc [.ref a] (fun U => (oB G 8 a [.null, .null, .null, .int (iI 0), .int (iI 0), .null, .int (iI 0), .int (iI 0), .int (iI 0), .int (iI 0), .int (iI 0), .int (iI 0), .int (iI 0), .int (iI 0), .int (iI 0), .long (iL 0), .null, .int (iI 0)] U.heap ∧ U.heap.size = a + 1) ∧ KK G U)) (va_Qv (fun _ : Unit => True) (fun _ tZ => W8 G (fun k => a + k) (mV (fun k => a + k) (zu (fun _ => 0) 14 (-1))) iniT iniT (fun _ => 0) (fun _ => 0) (fun _ => 0) tZ.heap ∧ tZ.heap.size = a + 6) (fun q : Nat => a ≤ q)) 5 4870 (fun q : Nat => a ≤ q) := by
  refine z_metI (P := fun H : Heap => oB G 8 a [.null, .null, .null, .int (iI 0), .int (iI 0), .null, .int (iI 0), .int (iI 0), .int (iI 0), .int (iI 0), .int (iI 0), .int (iI 0), .int (iI 0), .int (iI 0), .int (iI 0), .long (iL 0), .null, .int (iI 0)] H ∧ H.size = a + 1) (by decide) rfl rfl (Nat.le_of_ble_eq_true rfl) (fun pp ee ss mm below meth cC E hr hml hown hts hlocks hmn hP hK ls hl => ?_)
  have hl : lv_has ls 1 [(0, .ref a)] := hl
  obtain ⟨hO, hz⟩ := hP
  have hS : va_S (fun q : Nat => a ≤ q) ss.heap ss.heap [] := va_S.rf
  have hin8 : ∀ w ∈ wsX80, w ∈ wsX8_init := fun w h => List.mem_cons_of_mem _ (List.mem_append_right _ (h))
  refine lv_aload_n (pc := 0) E.1 E.2 dX8_init_0 rfl (lv_at hl 0 rfl) ?_
  refine W.objInit E.1 E.2 hown (hts _ (List.mem_of_getElem? (i := 1) rfl)) (hts _ (List.mem_of_getElem? (i := 2) rfl)) (hts _ (List.mem_of_getElem? (i := 3) rfl)) rfl (hl.1.trans hml.symm) rfl dX8_init_1 (Nat.le_of_ble_eq_true rfl) (Nat.le_of_ble_eq_true rfl) ?_
  refine W.eq (g2 := F0 mm 4 ls []) rfl ?_
  refine lv_aload_n (pc := 4) E.1 E.2 dX8_init_4 rfl (lv_at hl 0 rfl) ?_
  refine z_sipush (pc := 5) E (by decide) dX8_init_5 ?_
  refine z_newL (pc := 8) E (hts _ (List.mem_of_getElem? (i := 4) rfl)) hK hS (N := 357) rfl (Nat.le_of_ble_eq_true rfl) (Nat.le_of_ble_eq_true rfl) (Nat.le_of_ble_eq_true rfl) dX8_init_8 hz (fun H h1 hz ho hS => ?_)
  have hO := hO.kp (ho _ (by omega))
  have hz : H.size = a + 2 := hz
  refine z_putF (pc := 10) E hts hin8 tyX8 tyX8_ok nmX8 hown hK hO rfl hS (Nat.le_refl _) 0 (by decide) (hts _ (List.mem_of_getElem? (i := 5) rfl)) rfl hmn rfl (tyX8_ok 0 (by decide)) rfl rfl (Nat.le_of_ble_eq_true rfl) dX8_init_10 (fun H locs hO ho hzz hS => ?_)
  have hO : oB G 8 a [.ref (a + 1), .null, .null, .int (iI 0), .int (iI 0), .null, .int (iI 0), .int (iI 0), .int (iI 0), .int (iI 0), .int (iI 0), .int (iI 0), .int (iI 0), .int (iI 0), .int (iI 0), .long (iL 0), .null, .int (iI 0)] H := hO
  have hz := hzz.trans hz
  have h1 := h1.kp (ho _ (by omega))
  refine lv_aload_n (pc := 13) E.1 E.2 dX8_init_13 rfl (lv_at hl 0 rfl) ?_
  refine z_sipush (pc := 14) E (by decide) dX8_init_14 ?_
  refine z_newL (pc := 17) E (hts _ (List.mem_of_getElem? (i := 4) rfl)) hK hS (N := 357) rfl (Nat.le_of_ble_eq_true rfl) (Nat.le_of_ble_eq_true rfl) (Nat.le_of_ble_eq_true rfl) dX8_init_17 hz (fun H h2 hz ho hS => ?_)
  have hO := hO.kp (ho _ (by omega))
  have h1 := h1.kp (ho _ (by omega))
  have hz : H.size = a + 3 := hz
  refine z_putF (pc := 19) E hts hin8 tyX8 tyX8_ok nmX8 hown hK hO rfl hS (Nat.le_refl _) 1 (by decide) (hts _ (List.mem_of_getElem? (i := 6) rfl)) rfl hmn rfl (tyX8_ok 1 (by decide)) rfl rfl (Nat.le_of_ble_eq_true rfl) dX8_init_19 (fun H locs hO ho hzz hS => ?_)
  have hO : oB G 8 a [.ref (a + 1), .ref (a + 2), .null, .int (iI 0), .int (iI 0), .null, .int (iI 0), .int (iI 0), .int (iI 0), .int (iI 0), .int (iI 0), .int (iI 0), .int (iI 0), .int (iI 0), .int (iI 0), .long (iL 0), .null, .int (iI 0)] H := hO
  have hz := hzz.trans hz
  have h1 := h1.kp (ho _ (by omega))
  have h2 := h2.kp (ho _ (by omega))
  refine lv_aload_n (pc := 22) E.1 E.2 dX8_init_22 rfl (lv_at hl 0 rfl) ?_
  refine z_sipush (pc := 23) E (by decide) dX8_init_23 ?_
  refine z_newL (pc := 26) E (hts _ (List.mem_of_getElem? (i := 4) rfl)) hK hS (N := 2856) rfl (Nat.le_of_ble_eq_true rfl) (Nat.le_of_ble_eq_true rfl) (Nat.le_of_ble_eq_true rfl) dX8_init_26 hz (fun H h3 hz ho hS => ?_)
  have hO := hO.kp (ho _ (by omega))
  have h1 := h1.kp (ho _ (by omega))
  have h2 := h2.kp (ho _ (by omega))
  have hz : H.size = a + 4 := hz
  refine z_putF (pc := 28) E hts hin8 tyX8 tyX8_ok nmX8 hown hK hO rfl hS (Nat.le_refl _) 2 (by decide) (hts _ (List.mem_of_getElem? (i := 7) rfl)) rfl hmn rfl (tyX8_ok 2 (by decide)) rfl rfl (Nat.le_of_ble_eq_true rfl) dX8_init_28 (fun H locs hO ho hzz hS => ?_)
  have hO : oB G 8 a [.ref (a + 1), .ref (a + 2), .ref (a + 3), .int (iI 0), .int (iI 0), .null, .int (iI 0), .int (iI 0), .int (iI 0), .int (iI 0), .int (iI 0), .int (iI 0), .int (iI 0), .int (iI 0), .int (iI 0), .long (iL 0), .null, .int (iI 0)] H := hO
  have hz := hzz.trans hz
  have h1 := h1.kp (ho _ (by omega))
  have h2 := h2.kp (ho _ (by omega))
  have h3 := h3.kp (ho _ (by omega))
  refine lv_aload_n (pc := 31) E.1 E.2 dX8_init_31 rfl (lv_at hl 0 rfl) ?_
  refine z_sipush (pc := 32) E (by decide) dX8_init_32 ?_
  refine z_newI (pc := 35) E (hts _ (List.mem_of_getElem? (i := 8) rfl)) hK hS (N := 900) rfl (Nat.le_of_ble_eq_true rfl) (Nat.le_of_ble_eq_true rfl) (Nat.le_of_ble_eq_true rfl) dX8_init_35 hz (fun H h4 hz ho hS => ?_)
  have hO := hO.kp (ho _ (by omega))
  have h1 := h1.kp (ho _ (by omega))
  have h2 := h2.kp (ho _ (by omega))
  have h3 := h3.kp (ho _ (by omega))
  have hz : H.size = a + 5 := hz
  refine z_putF (pc := 37) E hts hin8 tyX8 tyX8_ok nmX8 hown hK hO rfl hS (Nat.le_refl _) 5 (by decide) (hts _ (List.mem_of_getElem? (i := 9) rfl)) rfl hmn rfl (tyX8_ok 5 (by decide)) rfl rfl (Nat.le_of_ble_eq_true rfl) dX8_init_37 (fun H locs hO ho hzz hS => ?_)
  have hO : oB G 8 a [.ref (a + 1), .ref (a + 2), .ref (a + 3), .int (iI 0), .int (iI 0), .ref (a + 4), .int (iI 0), .int (iI 0), .int (iI 0), .int (iI 0), .int (iI 0), .int (iI 0), .int (iI 0), .int (iI 0), .int (iI 0), .long (iL 0), .null, .int (iI 0)] H := hO
  have hz := hzz.trans hz
  have h1 := h1.kp (ho _ (by omega))
  have h2 := h2.kp (ho _ (by omega))
  have h3 := h3.kp (ho _ (by omega))
  have h4 := h4.kp (ho _ (by omega))
  refine lv_aload_n (pc := 40) E.1 E.2 dX8_init_40 rfl (lv_at hl 0 rfl) ?_
  refine z_iconst (pc := 41) E dX8_init_41 ?_
  have hlt := hO.lt
  refine p8_14 (pc := 42) E hts hin8 hown hK hO hS (Nat.le_refl _) (hts _ (List.mem_of_getElem? (i := 10) rfl)) dX8_init_42 (fun H locs hO ho hS => ?_)
  have hz := (sz_eq ho hlt hO.lt).trans hz
  have h1 := h1.kp (ho _ (by omega))
  have h2 := h2.kp (ho _ (by omega))
  have h3 := h3.kp (ho _ (by omega))
  have h4 := h4.kp (ho _ (by omega))
  refine lv_aload_n (pc := 45) E.1 E.2 dX8_init_45 rfl (lv_at hl 0 rfl) ?_
  refine z_sipush (pc := 46) E (by decide) dX8_init_46 ?_
  refine z_newI (pc := 49) E (hts _ (List.mem_of_getElem? (i := 8) rfl)) hK hS (N := 400) rfl (Nat.le_of_ble_eq_true rfl) (Nat.le_of_ble_eq_true rfl) (Nat.le_of_ble_eq_true rfl) dX8_init_49 hz (fun H h5 hz ho hS => ?_)
  have hO := hO.kp (ho _ (by omega))
  have h1 := h1.kp (ho _ (by omega))
  have h2 := h2.kp (ho _ (by omega))
  have h3 := h3.kp (ho _ (by omega))
  have h4 := h4.kp (ho _ (by omega))
  have hz : H.size = a + 6 := hz
  refine z_putF (pc := 51) E hts hin8 tyX8 tyX8_ok nmX8 hown hK hO rfl hS (Nat.le_refl _) 16 (by decide) (hts _ (List.mem_of_getElem? (i := 11) rfl)) rfl hmn rfl (tyX8_ok 16 (by decide)) rfl rfl (Nat.le_of_ble_eq_true rfl) dX8_init_51 (fun H locs hO ho hzz hS => ?_)
  have hO : oB G 8 a [.ref (a + 1), .ref (a + 2), .ref (a + 3), .int (iI 0), .int (iI 0), .ref (a + 4), .int (iI 0), .int (iI 0), .int (iI 0), .int (iI 0), .int (iI 0), .int (iI 0), .int (iI 0), .int (iI 0), .int (iI (-1)), .long (iL 0), .ref (a + 5), .int (iI 0)] H := hO
  have hz := hzz.trans hz
  have h1 := h1.kp (ho _ (by omega))
  have h2 := h2.kp (ho _ (by omega))
  have h3 := h3.kp (ho _ (by omega))
  have h4 := h4.kp (ho _ (by omega))
  have h5 := h5.kp (ho _ (by omega))
  refine lv_aload_n (pc := 54) E.1 E.2 dX8_init_54 rfl (lv_at hl 0 rfl) ?_
  have hX : W8 G (fun k => a + k) (mV (fun k => a + k) (zu (fun _ => 0) 14 (-1))) (fun _ => 0) (fun _ => 0) (fun _ => 0) (fun _ => 0) (fun _ => 0) H := ⟨hO, h1, h2, h3, h4, h5, (fun i j _ _ h => Nat.add_left_cancel h)⟩
  have hz0 := hz
  refine z_wVv (pc := 55) (As := []) (rest := []) E hml hown hts (mX8_begins lL G (fun k => a + k) (zu (fun _ => 0) 14 (-1)) (fun _ => 0) (fun _ => 0) (fun _ => 0) (fun _ => 0) (fun _ => 0)) (cwV 0 hts gX8_init_X8_begins rfl rfl rfl vdX8_begins ⟨Nat.le_of_ble_eq_true rfl, Nat.le_of_ble_eq_true rfl⟩) (hX.1.recv hK rfl) hX hK hS (fun q h => Exists.elim h fun k hk => by show a ≤ q; rw [hk.2]; exact Nat.le_add_right _ _) rfl hl.1 rfl dX8_init_55 ⟨Nat.le_of_ble_eq_true rfl, Nat.le_of_ble_eq_true rfl⟩ (Nat.le_of_ble_eq_true rfl) (fun H locs hX hsz hoth hS => ?_)
  refine z_sz fun hle => ?_
  have hz : H.size = a + 6 := by omega
  refine lv_aload_n (pc := 58) E.1 E.2 dX8_init_58 rfl (lv_at hl 0 rfl) ?_
  refine lv_aload_n (pc := 59) E.1 E.2 dX8_init_59 rfl (lv_at hl 0 rfl) ?_
  refine g8_1 (pc := 60) E hts hin8 hown hK hX.1 (hts _ (List.mem_of_getElem? (i := 6) rfl)) dX8_init_60 ?_
  refine z_iconst (pc := 63) E dX8_init_63 ?_
  have hz0 := hz
  refine z_wVv (pc := 64) (As := [.ref (a + 2), .int (iI 0)]) (rest := []) E hml hown hts (mX8_becomesF lL G (fun k => a + k) (zu (fun _ => 0) 14 (-1)) (fun _ => 0) iniT (fun _ => 0) (fun _ => 0) (fun _ => 0) 0 (by decide)) (cwV 2 hts gX8_init_X8_becomes rfl rfl rfl vdX8_becomes ⟨Nat.le_of_ble_eq_true rfl, Nat.le_of_ble_eq_true rfl⟩) (hX.1.recv hK rfl) hX hK hS (fun q h => Exists.elim h fun k hk => by show a ≤ q; rw [hk.2]; exact Nat.le_add_right _ _) rfl hl.1 rfl dX8_init_64 ⟨Nat.le_of_ble_eq_true rfl, Nat.le_of_ble_eq_true rfl⟩ (Nat.le_of_ble_eq_true rfl) (fun H locs hX hsz hoth hS => ?_)
  refine z_sz fun hle => ?_
  have hz : H.size = a + 6 := by omega
  rw [beA_ini] at hX
  refine W.widen (k := 5) (n := 4870) (Nat.le_of_ble_eq_true rfl) (Nat.le_of_ble_eq_true rfl) ?_
  exact z_retC (P1 := fun H : Heap => W8 G (fun k => a + k) (mV (fun k => a + k) (zu (fun _ => 0) 14 (-1))) iniT iniT (fun _ => 0) (fun _ => 0) (fun _ => 0) H ∧ H.size = a + 6) E hr ⟨hX, hz⟩ hS hlocks dX8_init_67
