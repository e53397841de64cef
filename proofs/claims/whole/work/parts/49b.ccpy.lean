theorem vdX3_copyFrom : yX3_copyFrom.cls = RX3 ∧ yX3_copyFrom.cls ≠ "java/lang/invoke/MethodHandle" ∧ yX3_copyFrom.cls ≠ "java/lang/invoke/VarHandle" ∧ (parseMethodDescriptor yX3_copyFrom.desc).map (fun d => d.parameters.length) = some 1 := by decide +kernel
theorem vdX2_copyFrom : yX2_copyFrom.cls = RX2 ∧ yX2_copyFrom.cls ≠ "java/lang/invoke/MethodHandle" ∧ yX2_copyFrom.cls ≠ "java/lang/invoke/VarHandle" ∧ (parseMethodDescriptor yX2_copyFrom.desc).map (fun d => d.parameters.length) = some 1 := by decide +kernel
theorem vdX0_copyFrom : yX0_copyFrom.cls = RX0 ∧ yX0_copyFrom.cls ≠ "java/lang/invoke/MethodHandle" ∧ yX0_copyFrom.cls ≠ "java/lang/invoke/VarHandle" ∧ (parseMethodDescriptor yX0_copyFrom.desc).map (fun d => d.parameters.length) = some 1 := by decide +kernel
theorem vdX4_copyFrom : yX4_copyFrom.cls = RX4 ∧ yX4_copyFrom.cls ≠ "java/lang/invoke/MethodHandle" ∧ yX4_copyFrom.cls ≠ "java/lang/invoke/VarHandle" ∧ (parseMethodDescriptor yX4_copyFrom.desc).map (fun d => d.parameters.length) = some 1 := by decide +kernel
theorem vdX6_copyFrom : yX6_copyFrom.cls = RX6 ∧ yX6_copyFrom.cls ≠ "java/lang/invoke/MethodHandle" ∧ yX6_copyFrom.cls ≠ "java/lang/invoke/VarHandle" ∧ (parseMethodDescriptor yX6_copyFrom.desc).map (fun d => d.parameters.length) = some 1 := by decide +kernel
theorem vdX3_clear : yX3_clear.cls = RX3 ∧ yX3_clear.cls ≠ "java/lang/invoke/MethodHandle" ∧ yX3_clear.cls ≠ "java/lang/invoke/VarHandle" ∧ (parseMethodDescriptor yX3_clear.desc).map (fun d => d.parameters.length) = some 0 := by decide +kernel
theorem vdX0_clear : yX0_clear.cls = RX0 ∧ yX0_clear.cls ≠ "java/lang/invoke/MethodHandle" ∧ yX0_clear.cls ≠ "java/lang/invoke/VarHandle" ∧ (parseMethodDescriptor yX0_clear.desc).map (fun d => d.parameters.length) = some 0 := by decide +kernel
theorem vdX6_clear : yX6_clear.cls = RX6 ∧ yX6_clear.cls ≠ "java/lang/invoke/MethodHandle" ∧ yX6_clear.cls ≠ "java/lang/invoke/VarHandle" ∧ (parseMethodDescriptor yX6_clear.desc).map (fun d => d.parameters.length) = some 0 := by decide +kernel
theorem vdX4_removeEnded : yX4_removeEnded.cls = RX4 ∧ yX4_removeEnded.cls ≠ "java/lang/invoke/MethodHandle" ∧ yX4_removeEnded.cls ≠ "java/lang/invoke/VarHandle" ∧ (parseMethodDescriptor yX4_removeEnded.desc).map (fun d => d.parameters.length) = some 1 := by decide +kernel
theorem vdX6_setClocks : yX6_setClocks.cls = RX6 ∧ yX6_setClocks.cls ≠ "java/lang/invoke/MethodHandle" ∧ yX6_setClocks.cls ≠ "java/lang/invoke/VarHandle" ∧ (parseMethodDescriptor yX6_setClocks.desc).map (fun d => d.parameters.length) = some 0 := by decide +kernel
theorem vdX6_transferOpenPart : yX6_transferOpenPart.cls = RX6 ∧ yX6_transferOpenPart.cls ≠ "java/lang/invoke/MethodHandle" ∧ yX6_transferOpenPart.cls ≠ "java/lang/invoke/VarHandle" ∧ (parseMethodDescriptor yX6_transferOpenPart.desc).map (fun d => d.parameters.length) = some 2 := by decide +kernel
theorem vdX6_correctAccounts : yX6_correctAccounts.cls = RX6 ∧ yX6_correctAccounts.cls ≠ "java/lang/invoke/MethodHandle" ∧ yX6_correctAccounts.cls ≠ "java/lang/invoke/VarHandle" ∧ (parseMethodDescriptor yX6_correctAccounts.desc).map (fun d => d.parameters.length) = some 0 := by decide +kernel
set_option maxHeartbeats 1000000 in
set_option maxRecDepth 100000 in
theorem mX3_copyFrom (lL : Launch) (G : GG) (o o2 : Nat → Nat) (σ τ : Int → Int) (hdj : ∀ i j, i < 4 → j < 4 → ¬ o i = o2 j) : Met lL yX3_copyFrom wsX3_copyFrom ({ frames := 1, cells := 0, slots := 0, locals := 90 } : Room) (va_Pc [.ref (o 0), .ref (o2 0)] (fun U => (FO G o σ U.heap ∧ FO G o2 τ U.heap) ∧ KK G U)) (va_Qv (fun _ : Unit => True) (fun _ tZ => FO G o τ tZ.heap) (Ax o 4)) 0 0 (Ax o 4) := by
  refine z_met (P := (fun H : Heap => (FO G o σ H ∧ FO G o2 τ H))) (by decide) rfl (Nat.le_of_ble_eq_true rfl) (fun pp ee ss mm below meth cC E hr hml hown hts hlocks hFO hK ls hl => ?_)
  have hl : lv_has ls 2 [(0, .ref (o 0)), (1, .ref (o2 0))] := hl
  have hcs : 0 ≤ (({ frames := 1, cells := 0, slots := 0, locals := 90 } : Room)).cells ∧ 0 ≤ (({ frames := 1, cells := 0, slots := 0, locals := 90 } : Room)).slots := ⟨Nat.zero_le _, Nat.zero_le _⟩
  have hS : va_S (Ax o 4) ss.heap ss.heap [] := va_S.rf
  have hin3 : ∀ w ∈ wsX30, w ∈ wsX3_copyFrom := fun w h => List.mem_cons_of_mem _ (List.mem_append_right _ (h))
  obtain ⟨pa, na, ta, hM, hs⟩ := id hFO.1
  obtain ⟨pa2, na2, ta2, hN, ht⟩ := id hFO.2
  refine lv_aload_n (pc := 0) E.1 E.2 dX3_copyFrom_0 rfl (lv_at hl 1 rfl) ?_
  refine g3_0 (pc := 1) E hts hin3 hown hK hN.1 (hts _ (List.mem_of_getElem? (i := 1) rfl)) dX3_copyFrom_1 ?_
  refine z_iconst (pc := 4) E dX3_copyFrom_4 ?_
  refine lv_aload_n (pc := 5) E.1 E.2 dX3_copyFrom_5 rfl (lv_at hl 0 rfl) ?_
  refine g3_0 (pc := 6) E hts hin3 hown hK hM.1 (hts _ (List.mem_of_getElem? (i := 1) rfl)) dX3_copyFrom_6 ?_
  refine z_iconst (pc := 9) E dX3_copyFrom_9 ?_
  refine z_bipush (pc := 10) E (by decide) dX3_copyFrom_10 ?_
  refine z_copyi (pc := 12) (rest := []) E (hml.trans hl.1.symm) hown (hts _ (List.mem_of_getElem? (i := 2) rfl)) (hts _ (List.mem_of_getElem? (i := 3) rfl)) (hts _ (List.mem_of_getElem? (i := 4) rfl)) (hts _ (List.mem_of_getElem? (i := 5) rfl)) hK hN.2.1 hM.2.1 hS (Ax.at 1 (by decide)) rfl (by decide) (Nat.le_of_ble_eq_true rfl) (Nat.le_of_ble_eq_true rfl) dX3_copyFrom_12 (fun H locs hnew hoth hS => ?_)
  have hN := FOr.kp hN (fun k hk => hoth _ (fun q => hdj 1 k (by decide) hk q.symm))
  have hM := FOr.a1 hM hnew (fun a _ h => hoth a h)
  refine lv_aload_n (pc := 15) E.1 E.2 dX3_copyFrom_15 rfl (lv_at hl 1 rfl) ?_
  refine g3_1 (pc := 16) E hts hin3 hown hK hN.1 (hts _ (List.mem_of_getElem? (i := 6) rfl)) dX3_copyFrom_16 ?_
  refine z_iconst (pc := 19) E dX3_copyFrom_19 ?_
  refine lv_aload_n (pc := 20) E.1 E.2 dX3_copyFrom_20 rfl (lv_at hl 0 rfl) ?_
  refine g3_1 (pc := 21) E hts hin3 hown hK hM.1 (hts _ (List.mem_of_getElem? (i := 6) rfl)) dX3_copyFrom_21 ?_
  refine z_iconst (pc := 24) E dX3_copyFrom_24 ?_
  refine z_bipush (pc := 25) E (by decide) dX3_copyFrom_25 ?_
  refine z_copyl (pc := 27) (rest := []) E (hml.trans hl.1.symm) hown (hts _ (List.mem_of_getElem? (i := 2) rfl)) (hts _ (List.mem_of_getElem? (i := 3) rfl)) (hts _ (List.mem_of_getElem? (i := 4) rfl)) (hts _ (List.mem_of_getElem? (i := 5) rfl)) hK hN.2.2.1 hM.2.2.1 hS (Ax.at 2 (by decide)) rfl (by decide) (Nat.le_of_ble_eq_true rfl) (Nat.le_of_ble_eq_true rfl) dX3_copyFrom_27 (fun H locs hnew hoth hS => ?_)
  have hN := FOr.kp hN (fun k hk => hoth _ (fun q => hdj 2 k (by decide) hk q.symm))
  have hM := FOr.a2 hM hnew (fun a _ h => hoth a h)
  refine lv_aload_n (pc := 30) E.1 E.2 dX3_copyFrom_30 rfl (lv_at hl 1 rfl) ?_
  refine g3_2 (pc := 31) E hts hin3 hown hK hN.1 (hts _ (List.mem_of_getElem? (i := 7) rfl)) dX3_copyFrom_31 ?_
  refine z_iconst (pc := 34) E dX3_copyFrom_34 ?_
  refine lv_aload_n (pc := 35) E.1 E.2 dX3_copyFrom_35 rfl (lv_at hl 0 rfl) ?_
  refine g3_2 (pc := 36) E hts hin3 hown hK hM.1 (hts _ (List.mem_of_getElem? (i := 7) rfl)) dX3_copyFrom_36 ?_
  refine z_iconst (pc := 39) E dX3_copyFrom_39 ?_
  refine z_bipush (pc := 40) E (by decide) dX3_copyFrom_40 ?_
  refine z_copyi (pc := 42) (rest := []) E (hml.trans hl.1.symm) hown (hts _ (List.mem_of_getElem? (i := 2) rfl)) (hts _ (List.mem_of_getElem? (i := 3) rfl)) (hts _ (List.mem_of_getElem? (i := 4) rfl)) (hts _ (List.mem_of_getElem? (i := 5) rfl)) hK hN.2.2.2.1 hM.2.2.2.1 hS (Ax.at 3 (by decide)) rfl (by decide) (Nat.le_of_ble_eq_true rfl) (Nat.le_of_ble_eq_true rfl) dX3_copyFrom_42 (fun H locs hnew hoth hS => ?_)
  have hN := FOr.kp hN (fun k hk => hoth _ (fun q => hdj 3 k (by decide) hk q.symm))
  have hM := FOr.a3 hM hnew (fun a _ h => hoth a h)
  refine lv_aload_n (pc := 45) E.1 E.2 dX3_copyFrom_45 rfl (lv_at hl 0 rfl) ?_
  refine lv_aload_n (pc := 46) E.1 E.2 dX3_copyFrom_46 rfl (lv_at hl 1 rfl) ?_
  refine g3_3 (pc := 47) E hts hin3 hown hK hN.1 (hts _ (List.mem_of_getElem? (i := 8) rfl)) dX3_copyFrom_47 ?_
  refine p3_3 (pc := 50) E hts hin3 hown hK hM.1 hS (Ax.at 0 (by decide)) (hts _ (List.mem_of_getElem? (i := 8) rfl)) dX3_copyFrom_50 (fun H locs hnew hoth hS => ?_)
  have hN := FOr.kp hN (fun k hk => hoth _ (fun q => hdj 0 k (by decide) hk q.symm))
  have hM := FOr.p hM hnew (fun a _ h => hoth a h)
  exact z_retWv E hr ⟨pa2, na2, ta2, hM, ht⟩ hS hlocks dX3_copyFrom_53
set_option maxHeartbeats 1000000 in
set_option maxRecDepth 100000 in
theorem mX2_copyFrom (lL : Launch) (G : GG) (o o2 : Nat → Nat) (σ τ : Int → Int) (hdj : ∀ i j, i < 3 → j < 3 → ¬ o i = o2 j) : Met lL yX2_copyFrom wsX2_copyFrom ({ frames := 1, cells := 0, slots := 0, locals := 90 } : Room) (va_Pc [.ref (o 0), .ref (o2 0)] (fun U => (FI G o σ U.heap ∧ FI G o2 τ U.heap) ∧ KK G U)) (va_Qv (fun _ : Unit => True) (fun _ tZ => FI G o τ tZ.heap) (Ax o 3)) 0 0 (Ax o 3) := by
  refine z_met (P := (fun H : Heap => (FI G o σ H ∧ FI G o2 τ H))) (by decide) rfl (Nat.le_of_ble_eq_true rfl) (fun pp ee ss mm below meth cC E hr hml hown hts hlocks hFO hK ls hl => ?_)
  have hl : lv_has ls 2 [(0, .ref (o 0)), (1, .ref (o2 0))] := hl
  have hcs : 0 ≤ (({ frames := 1, cells := 0, slots := 0, locals := 90 } : Room)).cells ∧ 0 ≤ (({ frames := 1, cells := 0, slots := 0, locals := 90 } : Room)).slots := ⟨Nat.zero_le _, Nat.zero_le _⟩
  have hS : va_S (Ax o 3) ss.heap ss.heap [] := va_S.rf
  have hin2 : ∀ w ∈ wsX20, w ∈ wsX2_copyFrom := fun w h => List.mem_cons_of_mem _ (List.mem_append_right _ (h))
  obtain ⟨pl, sz, hM, hs⟩ := id hFO.1
  obtain ⟨pl2, sz2, hN, ht⟩ := id hFO.2
  refine lv_aload_n (pc := 0) E.1 E.2 dX2_copyFrom_0 rfl (lv_at hl 1 rfl) ?_
  refine g2_0 (pc := 1) E hts hin2 hown hK hN.1 (hts _ (List.mem_of_getElem? (i := 1) rfl)) dX2_copyFrom_1 ?_
  refine z_iconst (pc := 4) E dX2_copyFrom_4 ?_
  refine lv_aload_n (pc := 5) E.1 E.2 dX2_copyFrom_5 rfl (lv_at hl 0 rfl) ?_
  refine g2_0 (pc := 6) E hts hin2 hown hK hM.1 (hts _ (List.mem_of_getElem? (i := 1) rfl)) dX2_copyFrom_6 ?_
  refine z_iconst (pc := 9) E dX2_copyFrom_9 ?_
  refine z_bipush (pc := 10) E (by decide) dX2_copyFrom_10 ?_
  refine z_copyi (pc := 12) (rest := []) E (hml.trans hl.1.symm) hown (hts _ (List.mem_of_getElem? (i := 2) rfl)) (hts _ (List.mem_of_getElem? (i := 3) rfl)) (hts _ (List.mem_of_getElem? (i := 4) rfl)) (hts _ (List.mem_of_getElem? (i := 5) rfl)) hK hN.2.1 hM.2.1 hS (Ax.at 1 (by decide)) rfl (by decide) (Nat.le_of_ble_eq_true rfl) (Nat.le_of_ble_eq_true rfl) dX2_copyFrom_12 (fun H locs hnew hoth hS => ?_)
  have hN := FIr.kp hN (fun k hk => hoth _ (fun q => hdj 1 k (by decide) hk q.symm))
  have hM := FIr.a1 hM hnew (fun a _ h => hoth a h)
  refine lv_aload_n (pc := 15) E.1 E.2 dX2_copyFrom_15 rfl (lv_at hl 1 rfl) ?_
  refine g2_1 (pc := 16) E hts hin2 hown hK hN.1 (hts _ (List.mem_of_getElem? (i := 6) rfl)) dX2_copyFrom_16 ?_
  refine z_iconst (pc := 19) E dX2_copyFrom_19 ?_
  refine lv_aload_n (pc := 20) E.1 E.2 dX2_copyFrom_20 rfl (lv_at hl 0 rfl) ?_
  refine g2_1 (pc := 21) E hts hin2 hown hK hM.1 (hts _ (List.mem_of_getElem? (i := 6) rfl)) dX2_copyFrom_21 ?_
  refine z_iconst (pc := 24) E dX2_copyFrom_24 ?_
  refine z_bipush (pc := 25) E (by decide) dX2_copyFrom_25 ?_
  refine z_copyi (pc := 27) (rest := []) E (hml.trans hl.1.symm) hown (hts _ (List.mem_of_getElem? (i := 2) rfl)) (hts _ (List.mem_of_getElem? (i := 3) rfl)) (hts _ (List.mem_of_getElem? (i := 4) rfl)) (hts _ (List.mem_of_getElem? (i := 5) rfl)) hK hN.2.2.1 hM.2.2.1 hS (Ax.at 2 (by decide)) rfl (by decide) (Nat.le_of_ble_eq_true rfl) (Nat.le_of_ble_eq_true rfl) dX2_copyFrom_27 (fun H locs hnew hoth hS => ?_)
  have hN := FIr.kp hN (fun k hk => hoth _ (fun q => hdj 2 k (by decide) hk q.symm))
  have hM := FIr.a2 hM hnew (fun a _ h => hoth a h)
  refine lv_aload_n (pc := 30) E.1 E.2 dX2_copyFrom_30 rfl (lv_at hl 0 rfl) ?_
  refine lv_aload_n (pc := 31) E.1 E.2 dX2_copyFrom_31 rfl (lv_at hl 1 rfl) ?_
  refine g2_2 (pc := 32) E hts hin2 hown hK hN.1 (hts _ (List.mem_of_getElem? (i := 7) rfl)) dX2_copyFrom_32 ?_
  refine p2_2 (pc := 35) E hts hin2 hown hK hM.1 hS (Ax.at 0 (by decide)) (hts _ (List.mem_of_getElem? (i := 7) rfl)) dX2_copyFrom_35 (fun H locs hnew hoth hS => ?_)
  have hN := FIr.kp hN (fun k hk => hoth _ (fun q => hdj 0 k (by decide) hk q.symm))
  have hM := FIr.p hM hnew (fun a _ h => hoth a h)
  exact z_retWv E hr ⟨pl2, sz2, hM, ht⟩ hS hlocks dX2_copyFrom_38
set_option maxHeartbeats 1000000 in
set_option maxRecDepth 100000 in
theorem mX0_copyFrom (lL : Launch) (G : GG) (o o2 : Nat → Nat) (σ τ : Int → Int) (hdj : ∀ i j, i < 5 → j < 5 → ¬ o i = o2 j) : Met lL yX0_copyFrom wsX0_copyFrom ({ frames := 1, cells := 0, slots := 0, locals := 90 } : Room) (va_Pc [.ref (o 0), .ref (o2 0)] (fun U => (AC G o σ U.heap ∧ AC G o2 τ U.heap) ∧ KK G U)) (va_Qv (fun _ : Unit => True) (fun _ tZ => AC G o τ tZ.heap) (Ax o 5)) 0 0 (Ax o 5) := by
  refine z_met (P := (fun H : Heap => (AC G o σ H ∧ AC G o2 τ H))) (by decide) rfl (Nat.le_of_ble_eq_true rfl) (fun pp ee ss mm below meth cC E hr hml hown hts hlocks hFO hK ls hl => ?_)
  have hl : lv_has ls 2 [(0, .ref (o 0)), (1, .ref (o2 0))] := hl
  have hcs : 0 ≤ (({ frames := 1, cells := 0, slots := 0, locals := 90 } : Room)).cells ∧ 0 ≤ (({ frames := 1, cells := 0, slots := 0, locals := 90 } : Room)).slots := ⟨Nat.zero_le _, Nat.zero_le _⟩
  have hS : va_S (Ax o 5) ss.heap ss.heap [] := va_S.rf
  have hin0 : ∀ w ∈ wsX00, w ∈ wsX0_copyFrom := fun w h => List.mem_cons_of_mem _ (List.mem_append_right _ (h))
  obtain ⟨am, so, ha, cl, hM, hs⟩ := id hFO.1
  obtain ⟨am2, so2, ha2, cl2, hN, ht⟩ := id hFO.2
  refine lv_aload_n (pc := 0) E.1 E.2 dX0_copyFrom_0 rfl (lv_at hl 1 rfl) ?_
  refine g0_0 (pc := 1) E hts hin0 hown hK hN.1 (hts _ (List.mem_of_getElem? (i := 1) rfl)) dX0_copyFrom_1 ?_
  refine z_iconst (pc := 4) E dX0_copyFrom_4 ?_
  refine lv_aload_n (pc := 5) E.1 E.2 dX0_copyFrom_5 rfl (lv_at hl 0 rfl) ?_
  refine g0_0 (pc := 6) E hts hin0 hown hK hM.1 (hts _ (List.mem_of_getElem? (i := 1) rfl)) dX0_copyFrom_6 ?_
  refine z_iconst (pc := 9) E dX0_copyFrom_9 ?_
  refine z_bipush (pc := 10) E (by decide) dX0_copyFrom_10 ?_
  refine z_copyi (pc := 12) (rest := []) E (hml.trans hl.1.symm) hown (hts _ (List.mem_of_getElem? (i := 2) rfl)) (hts _ (List.mem_of_getElem? (i := 3) rfl)) (hts _ (List.mem_of_getElem? (i := 4) rfl)) (hts _ (List.mem_of_getElem? (i := 5) rfl)) hK hN.2.1 hM.2.1 hS (Ax.at 1 (by decide)) rfl (by decide) (Nat.le_of_ble_eq_true rfl) (Nat.le_of_ble_eq_true rfl) dX0_copyFrom_12 (fun H locs hnew hoth hS => ?_)
  have hN := ACr.kp hN (fun k hk => hoth _ (fun q => hdj 1 k (by decide) hk q.symm))
  have hM := ACr.a1 hM hnew (fun a _ h => hoth a h)
  refine lv_aload_n (pc := 15) E.1 E.2 dX0_copyFrom_15 rfl (lv_at hl 1 rfl) ?_
  refine g0_1 (pc := 16) E hts hin0 hown hK hN.1 (hts _ (List.mem_of_getElem? (i := 6) rfl)) dX0_copyFrom_16 ?_
  refine z_iconst (pc := 19) E dX0_copyFrom_19 ?_
  refine lv_aload_n (pc := 20) E.1 E.2 dX0_copyFrom_20 rfl (lv_at hl 0 rfl) ?_
  refine g0_1 (pc := 21) E hts hin0 hown hK hM.1 (hts _ (List.mem_of_getElem? (i := 6) rfl)) dX0_copyFrom_21 ?_
  refine z_iconst (pc := 24) E dX0_copyFrom_24 ?_
  refine z_bipush (pc := 25) E (by decide) dX0_copyFrom_25 ?_
  refine z_copyi (pc := 27) (rest := []) E (hml.trans hl.1.symm) hown (hts _ (List.mem_of_getElem? (i := 2) rfl)) (hts _ (List.mem_of_getElem? (i := 3) rfl)) (hts _ (List.mem_of_getElem? (i := 4) rfl)) (hts _ (List.mem_of_getElem? (i := 5) rfl)) hK hN.2.2.1 hM.2.2.1 hS (Ax.at 2 (by decide)) rfl (by decide) (Nat.le_of_ble_eq_true rfl) (Nat.le_of_ble_eq_true rfl) dX0_copyFrom_27 (fun H locs hnew hoth hS => ?_)
  have hN := ACr.kp hN (fun k hk => hoth _ (fun q => hdj 2 k (by decide) hk q.symm))
  have hM := ACr.a2 hM hnew (fun a _ h => hoth a h)
  refine lv_aload_n (pc := 30) E.1 E.2 dX0_copyFrom_30 rfl (lv_at hl 1 rfl) ?_
  refine g0_2 (pc := 31) E hts hin0 hown hK hN.1 (hts _ (List.mem_of_getElem? (i := 7) rfl)) dX0_copyFrom_31 ?_
  refine z_iconst (pc := 34) E dX0_copyFrom_34 ?_
  refine lv_aload_n (pc := 35) E.1 E.2 dX0_copyFrom_35 rfl (lv_at hl 0 rfl) ?_
  refine g0_2 (pc := 36) E hts hin0 hown hK hM.1 (hts _ (List.mem_of_getElem? (i := 7) rfl)) dX0_copyFrom_36 ?_
  refine z_iconst (pc := 39) E dX0_copyFrom_39 ?_
  refine z_bipush (pc := 40) E (by decide) dX0_copyFrom_40 ?_
  refine z_copyi (pc := 42) (rest := []) E (hml.trans hl.1.symm) hown (hts _ (List.mem_of_getElem? (i := 2) rfl)) (hts _ (List.mem_of_getElem? (i := 3) rfl)) (hts _ (List.mem_of_getElem? (i := 4) rfl)) (hts _ (List.mem_of_getElem? (i := 5) rfl)) hK hN.2.2.2.1 hM.2.2.2.1 hS (Ax.at 3 (by decide)) rfl (by decide) (Nat.le_of_ble_eq_true rfl) (Nat.le_of_ble_eq_true rfl) dX0_copyFrom_42 (fun H locs hnew hoth hS => ?_)
  have hN := ACr.kp hN (fun k hk => hoth _ (fun q => hdj 3 k (by decide) hk q.symm))
  have hM := ACr.a3 hM hnew (fun a _ h => hoth a h)
  refine lv_aload_n (pc := 45) E.1 E.2 dX0_copyFrom_45 rfl (lv_at hl 1 rfl) ?_
  refine g0_3 (pc := 46) E hts hin0 hown hK hN.1 (hts _ (List.mem_of_getElem? (i := 8) rfl)) dX0_copyFrom_46 ?_
  refine z_iconst (pc := 49) E dX0_copyFrom_49 ?_
  refine lv_aload_n (pc := 50) E.1 E.2 dX0_copyFrom_50 rfl (lv_at hl 0 rfl) ?_
  refine g0_3 (pc := 51) E hts hin0 hown hK hM.1 (hts _ (List.mem_of_getElem? (i := 8) rfl)) dX0_copyFrom_51 ?_
  refine z_iconst (pc := 54) E dX0_copyFrom_54 ?_
  refine z_bipush (pc := 55) E (by decide) dX0_copyFrom_55 ?_
  refine z_copyi (pc := 57) (rest := []) E (hml.trans hl.1.symm) hown (hts _ (List.mem_of_getElem? (i := 2) rfl)) (hts _ (List.mem_of_getElem? (i := 3) rfl)) (hts _ (List.mem_of_getElem? (i := 4) rfl)) (hts _ (List.mem_of_getElem? (i := 5) rfl)) hK hN.2.2.2.2.1 hM.2.2.2.2.1 hS (Ax.at 4 (by decide)) rfl (by decide) (Nat.le_of_ble_eq_true rfl) (Nat.le_of_ble_eq_true rfl) dX0_copyFrom_57 (fun H locs hnew hoth hS => ?_)
  have hN := ACr.kp hN (fun k hk => hoth _ (fun q => hdj 4 k (by decide) hk q.symm))
  have hM := ACr.a4 hM hnew (fun a _ h => hoth a h)
  exact z_retWv E hr ⟨am2, so2, ha2, cl2, hM, ht⟩ hS hlocks dX0_copyFrom_60
set_option maxHeartbeats 1000000 in
set_option maxRecDepth 100000 in
theorem mX4_copyFrom (lL : Launch) (G : GG) (o o2 : Nat → Nat) (σ τ : Int → Int) (hdj : ∀ i j, i < 5 → j < 5 → ¬ o i = o2 j) : Met lL yX4_copyFrom wsX4_copyFrom ({ frames := 1, cells := 0, slots := 0, locals := 90 } : Room) (va_Pc [.ref (o 0), .ref (o2 0)] (fun U => (GI G o σ U.heap ∧ GI G o2 τ U.heap) ∧ KK G U)) (va_Qv (fun _ : Unit => True) (fun _ tZ => GI G o τ tZ.heap) (Ax o 5)) 0 0 (Ax o 5) := by
  refine z_met (P := (fun H : Heap => (GI G o σ H ∧ GI G o2 τ H))) (by decide) rfl (Nat.le_of_ble_eq_true rfl) (fun pp ee ss mm below meth cC E hr hml hown hts hlocks hFO hK ls hl => ?_)
  have hl : lv_has ls 2 [(0, .ref (o 0)), (1, .ref (o2 0))] := hl
  have hcs : 0 ≤ (({ frames := 1, cells := 0, slots := 0, locals := 90 } : Room)).cells ∧ 0 ≤ (({ frames := 1, cells := 0, slots := 0, locals := 90 } : Room)).slots := ⟨Nat.zero_le _, Nat.zero_le _⟩
  have hS : va_S (Ax o 5) ss.heap ss.heap [] := va_S.rf
  have hin4 : ∀ w ∈ wsX40, w ∈ wsX4_copyFrom := fun w h => List.mem_cons_of_mem _ (List.mem_append_right _ (h))
  obtain ⟨gv, ge, gb, gd, hM, hs⟩ := id hFO.1
  obtain ⟨gv2, ge2, gb2, gd2, hN, ht⟩ := id hFO.2
  refine lv_aload_n (pc := 0) E.1 E.2 dX4_copyFrom_0 rfl (lv_at hl 1 rfl) ?_
  refine g4_0 (pc := 1) E hts hin4 hown hK hN.1 (hts _ (List.mem_of_getElem? (i := 1) rfl)) dX4_copyFrom_1 ?_
  refine z_iconst (pc := 4) E dX4_copyFrom_4 ?_
  refine lv_aload_n (pc := 5) E.1 E.2 dX4_copyFrom_5 rfl (lv_at hl 0 rfl) ?_
  refine g4_0 (pc := 6) E hts hin4 hown hK hM.1 (hts _ (List.mem_of_getElem? (i := 1) rfl)) dX4_copyFrom_6 ?_
  refine z_iconst (pc := 9) E dX4_copyFrom_9 ?_
  refine z_bipush (pc := 10) E (by decide) dX4_copyFrom_10 ?_
  refine z_copyi (pc := 12) (rest := []) E (hml.trans hl.1.symm) hown (hts _ (List.mem_of_getElem? (i := 2) rfl)) (hts _ (List.mem_of_getElem? (i := 3) rfl)) (hts _ (List.mem_of_getElem? (i := 4) rfl)) (hts _ (List.mem_of_getElem? (i := 5) rfl)) hK hN.2.1 hM.2.1 hS (Ax.at 1 (by decide)) rfl (by decide) (Nat.le_of_ble_eq_true rfl) (Nat.le_of_ble_eq_true rfl) dX4_copyFrom_12 (fun H locs hnew hoth hS => ?_)
  have hN := GIr.kp hN (fun k hk => hoth _ (fun q => hdj 1 k (by decide) hk q.symm))
  have hM := GIr.a1 hM hnew (fun a _ h => hoth a h)
  refine lv_aload_n (pc := 15) E.1 E.2 dX4_copyFrom_15 rfl (lv_at hl 1 rfl) ?_
  refine g4_1 (pc := 16) E hts hin4 hown hK hN.1 (hts _ (List.mem_of_getElem? (i := 6) rfl)) dX4_copyFrom_16 ?_
  refine z_iconst (pc := 19) E dX4_copyFrom_19 ?_
  refine lv_aload_n (pc := 20) E.1 E.2 dX4_copyFrom_20 rfl (lv_at hl 0 rfl) ?_
  refine g4_1 (pc := 21) E hts hin4 hown hK hM.1 (hts _ (List.mem_of_getElem? (i := 6) rfl)) dX4_copyFrom_21 ?_
  refine z_iconst (pc := 24) E dX4_copyFrom_24 ?_
  refine z_bipush (pc := 25) E (by decide) dX4_copyFrom_25 ?_
  refine z_copyi (pc := 27) (rest := []) E (hml.trans hl.1.symm) hown (hts _ (List.mem_of_getElem? (i := 2) rfl)) (hts _ (List.mem_of_getElem? (i := 3) rfl)) (hts _ (List.mem_of_getElem? (i := 4) rfl)) (hts _ (List.mem_of_getElem? (i := 5) rfl)) hK hN.2.2.1 hM.2.2.1 hS (Ax.at 2 (by decide)) rfl (by decide) (Nat.le_of_ble_eq_true rfl) (Nat.le_of_ble_eq_true rfl) dX4_copyFrom_27 (fun H locs hnew hoth hS => ?_)
  have hN := GIr.kp hN (fun k hk => hoth _ (fun q => hdj 2 k (by decide) hk q.symm))
  have hM := GIr.a2 hM hnew (fun a _ h => hoth a h)
  refine lv_aload_n (pc := 30) E.1 E.2 dX4_copyFrom_30 rfl (lv_at hl 1 rfl) ?_
  refine g4_2 (pc := 31) E hts hin4 hown hK hN.1 (hts _ (List.mem_of_getElem? (i := 7) rfl)) dX4_copyFrom_31 ?_
  refine z_iconst (pc := 34) E dX4_copyFrom_34 ?_
  refine lv_aload_n (pc := 35) E.1 E.2 dX4_copyFrom_35 rfl (lv_at hl 0 rfl) ?_
  refine g4_2 (pc := 36) E hts hin4 hown hK hM.1 (hts _ (List.mem_of_getElem? (i := 7) rfl)) dX4_copyFrom_36 ?_
  refine z_iconst (pc := 39) E dX4_copyFrom_39 ?_
  refine z_bipush (pc := 40) E (by decide) dX4_copyFrom_40 ?_
  refine z_copyi (pc := 42) (rest := []) E (hml.trans hl.1.symm) hown (hts _ (List.mem_of_getElem? (i := 2) rfl)) (hts _ (List.mem_of_getElem? (i := 3) rfl)) (hts _ (List.mem_of_getElem? (i := 4) rfl)) (hts _ (List.mem_of_getElem? (i := 5) rfl)) hK hN.2.2.2.1 hM.2.2.2.1 hS (Ax.at 3 (by decide)) rfl (by decide) (Nat.le_of_ble_eq_true rfl) (Nat.le_of_ble_eq_true rfl) dX4_copyFrom_42 (fun H locs hnew hoth hS => ?_)
  have hN := GIr.kp hN (fun k hk => hoth _ (fun q => hdj 3 k (by decide) hk q.symm))
  have hM := GIr.a3 hM hnew (fun a _ h => hoth a h)
  refine lv_aload_n (pc := 45) E.1 E.2 dX4_copyFrom_45 rfl (lv_at hl 1 rfl) ?_
  refine g4_3 (pc := 46) E hts hin4 hown hK hN.1 (hts _ (List.mem_of_getElem? (i := 8) rfl)) dX4_copyFrom_46 ?_
  refine z_iconst (pc := 49) E dX4_copyFrom_49 ?_
  refine lv_aload_n (pc := 50) E.1 E.2 dX4_copyFrom_50 rfl (lv_at hl 0 rfl) ?_
  refine g4_3 (pc := 51) E hts hin4 hown hK hM.1 (hts _ (List.mem_of_getElem? (i := 8) rfl)) dX4_copyFrom_51 ?_
  refine z_iconst (pc := 54) E dX4_copyFrom_54 ?_
  refine z_bipush (pc := 55) E (by decide) dX4_copyFrom_55 ?_
  refine z_copyi (pc := 57) (rest := []) E (hml.trans hl.1.symm) hown (hts _ (List.mem_of_getElem? (i := 2) rfl)) (hts _ (List.mem_of_getElem? (i := 3) rfl)) (hts _ (List.mem_of_getElem? (i := 4) rfl)) (hts _ (List.mem_of_getElem? (i := 5) rfl)) hK hN.2.2.2.2.1 hM.2.2.2.2.1 hS (Ax.at 4 (by decide)) rfl (by decide) (Nat.le_of_ble_eq_true rfl) (Nat.le_of_ble_eq_true rfl) dX4_copyFrom_57 (fun H locs hnew hoth hS => ?_)
  have hN := GIr.kp hN (fun k hk => hoth _ (fun q => hdj 4 k (by decide) hk q.symm))
  have hM := GIr.a4 hM hnew (fun a _ h => hoth a h)
  refine lv_aload_n (pc := 60) E.1 E.2 dX4_copyFrom_60 rfl (lv_at hl 0 rfl) ?_
  refine lv_aload_n (pc := 61) E.1 E.2 dX4_copyFrom_61 rfl (lv_at hl 1 rfl) ?_
  refine g4_4 (pc := 62) E hts hin4 hown hK hN.1 (hts _ (List.mem_of_getElem? (i := 9) rfl)) dX4_copyFrom_62 ?_
  refine p4_4 (pc := 65) E hts hin4 hown hK hM.1 hS (Ax.at 0 (by decide)) (hts _ (List.mem_of_getElem? (i := 9) rfl)) dX4_copyFrom_65 (fun H locs hnew hoth hS => ?_)
  have hN := GIr.kp hN (fun k hk => hoth _ (fun q => hdj 0 k (by decide) hk q.symm))
  have hM := GIr.p hM hnew (fun a _ h => hoth a h)
  exact z_retWv E hr ⟨gv2, ge2, gb2, gd2, hM, ht⟩ hS hlocks dX4_copyFrom_68
set_option maxHeartbeats 1000000 in
set_option maxRecDepth 100000 in
theorem mX6_copyFrom (lL : Launch) (G : GG) (o o2 : Nat → Nat) (σ τ : Int → Int) (hdj : ∀ i j, i < 18 → j < 18 → ¬ o i = o2 j) : Met lL yX6_copyFrom wsX6_copyFrom ({ frames := 2, cells := 0, slots := 0, locals := 111 } : Room) (va_Pc [.ref (o 0), .ref (o2 0)] (fun U => (ST G o σ U.heap ∧ ST G o2 τ U.heap) ∧ KK G U)) (va_Qv (fun _ : Unit => True) (fun _ tZ => ST G o τ tZ.heap) (Ax o 18)) 0 0 (Ax o 18) := by
  refine z_met (P := (fun H : Heap => (ST G o σ H ∧ ST G o2 τ H))) (by decide) rfl (Nat.le_of_ble_eq_true rfl) (fun pp ee ss mm below meth cC E hr hml hown hts hlocks hST hK ls hl => ?_)
  have hl : lv_has ls 2 [(0, .ref (o 0)), (1, .ref (o2 0))] := hl
  have hcs : 0 ≤ (({ frames := 2, cells := 0, slots := 0, locals := 111 } : Room)).cells ∧ 0 ≤ (({ frames := 2, cells := 0, slots := 0, locals := 111 } : Room)).slots := ⟨Nat.zero_le _, Nat.zero_le _⟩
  have hS : va_S (Ax o 18) ss.heap ss.heap [] := va_S.rf
  have hin6 : ∀ w ∈ wsX60, w ∈ wsX6_copyFrom := fun w h => List.mem_cons_of_mem _ (List.mem_append_left _ (List.mem_append_left _ (List.mem_append_left _ (List.mem_append_left _ (List.mem_append_right _ (h))))))
  obtain ⟨hO, hFO, hFI, hAC, hGI, hJ⟩ := id hST.1
  have hN := hST.2
  refine lv_aload_n (pc := 0) E.1 E.2 dX6_copyFrom_0 rfl (lv_at hl 0 rfl) ?_
  refine g6_0 (pc := 1) E hts hin6 hown hK hO (hts _ (List.mem_of_getElem? (i := 1) rfl)) dX6_copyFrom_1 ?_
  refine lv_aload_n (pc := 4) E.1 E.2 dX6_copyFrom_4 rfl (lv_at hl 1 rfl) ?_
  refine g6_0 (pc := 5) E hts hin6 hown hK hN.1 (hts _ (List.mem_of_getElem? (i := 1) rfl)) dX6_copyFrom_5 ?_
  refine z_wVv (pc := 8) (P := fun H9 : Heap => FO G (fun k => o (1 + k)) σ H9 ∧ FO G (fun k => o2 (1 + k)) τ H9) (As := [.ref (o2 1)]) (rest := []) E hml hown hts (mX3_copyFrom lL G (fun k => o (1 + k)) (fun k => o2 (1 + k)) σ τ (fun i j hi hj => hdj (1 + i) (1 + j) (by omega) (by omega))) (cwV 1 hts gX6_copyFrom_X3_copyFrom rfl rfl rfl vdX3_copyFrom ⟨Nat.le_of_ble_eq_true rfl, Nat.le_of_ble_eq_true rfl⟩) (oB.recv hK hFO.ob rfl) (And.intro hFO hN.fo) hK hS (Ap.up (by decide)) rfl hl.1 rfl dX6_copyFrom_8 hcs (Nat.le_of_ble_eq_true rfl) (fun H locs hnew hsz hoth hS => ?_)
  have hFI := FI.kp hFI (fun k hk => hoth _ (FI.lt hFI k hk) (Ap.no hJ (by omega) (by decide) (by omega)))
  have hAC := AC.kp hAC (fun k hk => hoth _ (AC.lt hAC k hk) (Ap.no hJ (by omega) (by decide) (by omega)))
  have hGI := GI.kp hGI (fun k hk => hoth _ (GI.lt hGI k hk) (Ap.no hJ (by omega) (by decide) (by omega)))
  have hO := oB.kp hO (hoth _ (oB.lt hO) (Ap.no hJ (by decide) (by decide) (by decide)))
  have hN := ST.kp hN (fun k hk => hoth _ (ST.lt hN k hk) (fun ⟨j, hj, e⟩ => hdj (1 + j) k (by omega) hk e.symm))
  have hFO := hnew
  refine lv_aload_n (pc := 11) E.1 E.2 dX6_copyFrom_11 rfl (lv_at hl 0 rfl) ?_
  refine g6_1 (pc := 12) E hts hin6 hown hK hO (hts _ (List.mem_of_getElem? (i := 2) rfl)) dX6_copyFrom_12 ?_
  refine lv_aload_n (pc := 15) E.1 E.2 dX6_copyFrom_15 rfl (lv_at hl 1 rfl) ?_
  refine g6_1 (pc := 16) E hts hin6 hown hK hN.1 (hts _ (List.mem_of_getElem? (i := 2) rfl)) dX6_copyFrom_16 ?_
  refine z_wVv (pc := 19) (P := fun H9 : Heap => FI G (fun k => o (5 + k)) σ H9 ∧ FI G (fun k => o2 (5 + k)) τ H9) (As := [.ref (o2 5)]) (rest := []) E hml hown hts (mX2_copyFrom lL G (fun k => o (5 + k)) (fun k => o2 (5 + k)) σ τ (fun i j hi hj => hdj (5 + i) (5 + j) (by omega) (by omega))) (cwV 1 hts gX6_copyFrom_X2_copyFrom rfl rfl rfl vdX2_copyFrom ⟨Nat.le_of_ble_eq_true rfl, Nat.le_of_ble_eq_true rfl⟩) (oB.recv hK hFI.ob rfl) (And.intro hFI hN.fi) hK hS (Ap.up (by decide)) rfl hl.1 rfl dX6_copyFrom_19 hcs (Nat.le_of_ble_eq_true rfl) (fun H locs hnew hsz hoth hS => ?_)
  have hFO := FO.kp hFO (fun k hk => hoth _ (FO.lt hFO k hk) (Ap.no hJ (by omega) (by decide) (by omega)))
  have hAC := AC.kp hAC (fun k hk => hoth _ (AC.lt hAC k hk) (Ap.no hJ (by omega) (by decide) (by omega)))
  have hGI := GI.kp hGI (fun k hk => hoth _ (GI.lt hGI k hk) (Ap.no hJ (by omega) (by decide) (by omega)))
  have hO := oB.kp hO (hoth _ (oB.lt hO) (Ap.no hJ (by decide) (by decide) (by decide)))
  have hN := ST.kp hN (fun k hk => hoth _ (ST.lt hN k hk) (fun ⟨j, hj, e⟩ => hdj (5 + j) k (by omega) hk e.symm))
  have hFI := hnew
  refine lv_aload_n (pc := 22) E.1 E.2 dX6_copyFrom_22 rfl (lv_at hl 0 rfl) ?_
  refine g6_2 (pc := 23) E hts hin6 hown hK hO (hts _ (List.mem_of_getElem? (i := 3) rfl)) dX6_copyFrom_23 ?_
  refine lv_aload_n (pc := 26) E.1 E.2 dX6_copyFrom_26 rfl (lv_at hl 1 rfl) ?_
  refine g6_2 (pc := 27) E hts hin6 hown hK hN.1 (hts _ (List.mem_of_getElem? (i := 3) rfl)) dX6_copyFrom_27 ?_
  refine z_wVv (pc := 30) (P := fun H9 : Heap => AC G (fun k => o (8 + k)) σ H9 ∧ AC G (fun k => o2 (8 + k)) τ H9) (As := [.ref (o2 8)]) (rest := []) E hml hown hts (mX0_copyFrom lL G (fun k => o (8 + k)) (fun k => o2 (8 + k)) σ τ (fun i j hi hj => hdj (8 + i) (8 + j) (by omega) (by omega))) (cwV 1 hts gX6_copyFrom_X0_copyFrom rfl rfl rfl vdX0_copyFrom ⟨Nat.le_of_ble_eq_true rfl, Nat.le_of_ble_eq_true rfl⟩) (oB.recv hK hAC.ob rfl) (And.intro hAC hN.ac) hK hS (Ap.up (by decide)) rfl hl.1 rfl dX6_copyFrom_30 hcs (Nat.le_of_ble_eq_true rfl) (fun H locs hnew hsz hoth hS => ?_)
  have hFO := FO.kp hFO (fun k hk => hoth _ (FO.lt hFO k hk) (Ap.no hJ (by omega) (by decide) (by omega)))
  have hFI := FI.kp hFI (fun k hk => hoth _ (FI.lt hFI k hk) (Ap.no hJ (by omega) (by decide) (by omega)))
  have hGI := GI.kp hGI (fun k hk => hoth _ (GI.lt hGI k hk) (Ap.no hJ (by omega) (by decide) (by omega)))
  have hO := oB.kp hO (hoth _ (oB.lt hO) (Ap.no hJ (by decide) (by decide) (by decide)))
  have hN := ST.kp hN (fun k hk => hoth _ (ST.lt hN k hk) (fun ⟨j, hj, e⟩ => hdj (8 + j) k (by omega) hk e.symm))
  have hAC := hnew
  refine lv_aload_n (pc := 33) E.1 E.2 dX6_copyFrom_33 rfl (lv_at hl 0 rfl) ?_
  refine g6_3 (pc := 34) E hts hin6 hown hK hO (hts _ (List.mem_of_getElem? (i := 4) rfl)) dX6_copyFrom_34 ?_
  refine lv_aload_n (pc := 37) E.1 E.2 dX6_copyFrom_37 rfl (lv_at hl 1 rfl) ?_
  refine g6_3 (pc := 38) E hts hin6 hown hK hN.1 (hts _ (List.mem_of_getElem? (i := 4) rfl)) dX6_copyFrom_38 ?_
  refine z_wVv (pc := 41) (P := fun H9 : Heap => GI G (fun k => o (13 + k)) σ H9 ∧ GI G (fun k => o2 (13 + k)) τ H9) (As := [.ref (o2 13)]) (rest := []) E hml hown hts (mX4_copyFrom lL G (fun k => o (13 + k)) (fun k => o2 (13 + k)) σ τ (fun i j hi hj => hdj (13 + i) (13 + j) (by omega) (by omega))) (cwV 1 hts gX6_copyFrom_X4_copyFrom rfl rfl rfl vdX4_copyFrom ⟨Nat.le_of_ble_eq_true rfl, Nat.le_of_ble_eq_true rfl⟩) (oB.recv hK hGI.ob rfl) (And.intro hGI hN.gi) hK hS (Ap.up (by decide)) rfl hl.1 rfl dX6_copyFrom_41 hcs (Nat.le_of_ble_eq_true rfl) (fun H locs hnew hsz hoth hS => ?_)
  have hFO := FO.kp hFO (fun k hk => hoth _ (FO.lt hFO k hk) (Ap.no hJ (by omega) (by decide) (by omega)))
  have hFI := FI.kp hFI (fun k hk => hoth _ (FI.lt hFI k hk) (Ap.no hJ (by omega) (by decide) (by omega)))
  have hAC := AC.kp hAC (fun k hk => hoth _ (AC.lt hAC k hk) (Ap.no hJ (by omega) (by decide) (by omega)))
  have hO := oB.kp hO (hoth _ (oB.lt hO) (Ap.no hJ (by decide) (by decide) (by decide)))
  have hN := ST.kp hN (fun k hk => hoth _ (ST.lt hN k hk) (fun ⟨j, hj, e⟩ => hdj (13 + j) k (by omega) hk e.symm))
  have hGI := hnew
  refine lv_aload_n (pc := 44) E.1 E.2 dX6_copyFrom_44 rfl (lv_at hl 0 rfl) ?_
  refine lv_aload_n (pc := 45) E.1 E.2 dX6_copyFrom_45 rfl (lv_at hl 1 rfl) ?_
  refine g6_4 (pc := 46) E hts hin6 hown hK hN.1 (hts _ (List.mem_of_getElem? (i := 5) rfl)) dX6_copyFrom_46 ?_
  refine p6_4 (pc := 49) E hts hin6 hown hK hO hS (Ax.at 0 (by decide)) (hts _ (List.mem_of_getElem? (i := 5) rfl)) dX6_copyFrom_49 (fun H locs hnew hoth hS => ?_)
  have hFO := FO.kp hFO (fun k hk => hoth _ (hJ.ne (1 + k) 0 (by omega) (by decide) (by omega)))
  have hFI := FI.kp hFI (fun k hk => hoth _ (hJ.ne (5 + k) 0 (by omega) (by decide) (by omega)))
  have hAC := AC.kp hAC (fun k hk => hoth _ (hJ.ne (8 + k) 0 (by omega) (by decide) (by omega)))
  have hGI := GI.kp hGI (fun k hk => hoth _ (hJ.ne (13 + k) 0 (by omega) (by decide) (by omega)))
  have hN := ST.kp hN (fun k hk => hoth _ (fun q => hdj 0 k (by decide) hk q.symm))
  have hO := hnew
  refine lv_aload_n (pc := 52) E.1 E.2 dX6_copyFrom_52 rfl (lv_at hl 0 rfl) ?_
  refine lv_aload_n (pc := 53) E.1 E.2 dX6_copyFrom_53 rfl (lv_at hl 1 rfl) ?_
  refine g6_5 (pc := 54) E hts hin6 hown hK hN.1 (hts _ (List.mem_of_getElem? (i := 6) rfl)) dX6_copyFrom_54 ?_
  refine p6_5 (pc := 57) E hts hin6 hown hK hO hS (Ax.at 0 (by decide)) (hts _ (List.mem_of_getElem? (i := 6) rfl)) dX6_copyFrom_57 (fun H locs hnew hoth hS => ?_)
  have hFO := FO.kp hFO (fun k hk => hoth _ (hJ.ne (1 + k) 0 (by omega) (by decide) (by omega)))
  have hFI := FI.kp hFI (fun k hk => hoth _ (hJ.ne (5 + k) 0 (by omega) (by decide) (by omega)))
  have hAC := AC.kp hAC (fun k hk => hoth _ (hJ.ne (8 + k) 0 (by omega) (by decide) (by omega)))
  have hGI := GI.kp hGI (fun k hk => hoth _ (hJ.ne (13 + k) 0 (by omega) (by decide) (by omega)))
  have hN := ST.kp hN (fun k hk => hoth _ (fun q => hdj 0 k (by decide) hk q.symm))
  have hO := hnew
  exact z_retWv E hr ⟨hO, hFO, hFI, hAC, hGI, hJ⟩ hS hlocks dX6_copyFrom_60
set_option maxHeartbeats 1000000 in
set_option maxRecDepth 100000 in
theorem mX3_clear (lL : Launch) (G : GG) (o : Nat → Nat) (σ : Int → Int) : Met lL yX3_clear wsX3_clear ({ frames := 0, cells := 0, slots := 0, locals := 0 } : Room) (va_Pc [.ref (o 0)] (fun U => FO G o σ U.heap ∧ KK G U)) (va_Qv (fun _ : Unit => True) (fun _ tZ => FO G o iniT tZ.heap) (Ax o 4)) 0 0 (Ax o 4) := by
  refine z_met (P := (fun H : Heap => FO G o σ H)) (by decide) rfl (Nat.le_of_ble_eq_true rfl) (fun pp ee ss mm below meth cC E hr hml hown hts hlocks hFO hK ls hl => ?_)
  have hl : lv_has ls 1 [(0, .ref (o 0))] := hl
  have hcs : 0 ≤ (({ frames := 0, cells := 0, slots := 0, locals := 0 } : Room)).cells ∧ 0 ≤ (({ frames := 0, cells := 0, slots := 0, locals := 0 } : Room)).slots := ⟨Nat.zero_le _, Nat.zero_le _⟩
  have hS : va_S (Ax o 4) ss.heap ss.heap [] := va_S.rf
  have hin3 : ∀ w ∈ wsX30, w ∈ wsX3_clear := fun w h => List.mem_cons_of_mem _ (List.mem_append_right _ (h))
  obtain ⟨pa, na, ta, hM, hs⟩ := id hFO
  refine lv_aload_n (pc := 0) E.1 E.2 dX3_clear_0 rfl (lv_at hl 0 rfl) ?_
  refine g3_0 (pc := 1) E hts hin3 hown hK hM.1 (hts _ (List.mem_of_getElem? (i := 1) rfl)) dX3_clear_1 ?_
  refine z_iconst (pc := 4) E dX3_clear_4 ?_
  refine z_iconst (pc := 5) E dX3_clear_5 ?_
  refine z_iastore (pc := 6) E hK hM.2.1 hS (Ax.at 1 (by decide)) ⟨by omega, by omega⟩ (by decide) dX3_clear_6 (fun H locs hnew hoth hS => ?_)
  have hM := FOr.a1 hM hnew (fun a _ h => hoth a h)
  refine lv_aload_n (pc := 7) E.1 E.2 dX3_clear_7 rfl (lv_at hl 0 rfl) ?_
  refine g3_1 (pc := 8) E hts hin3 hown hK hM.1 (hts _ (List.mem_of_getElem? (i := 2) rfl)) dX3_clear_8 ?_
  refine z_iconst (pc := 11) E dX3_clear_11 ?_
  refine lv_ldc2 (pc := 12) (v := iL (605684)) E.1 E.2 hown (show (Jvm.Cond.constantLong RX3 25 (iL (605684))).before _ ss = true from (hts _ (List.mem_of_getElem? (i := 3) rfl))) dX3_clear_12 ?_
  refine z_lastore (pc := 15) E hK hM.2.2.1 hS (Ax.at 2 (by decide)) ⟨by omega, by omega⟩ (by decide) dX3_clear_15 (fun H locs hnew hoth hS => ?_)
  have hM := FOr.a2 hM hnew (fun a _ h => hoth a h)
  refine lv_aload_n (pc := 16) E.1 E.2 dX3_clear_16 rfl (lv_at hl 0 rfl) ?_
  refine g3_2 (pc := 17) E hts hin3 hown hK hM.1 (hts _ (List.mem_of_getElem? (i := 4) rfl)) dX3_clear_17 ?_
  refine z_iconst (pc := 20) E dX3_clear_20 ?_
  refine z_iconst (pc := 21) E dX3_clear_21 ?_
  refine z_iastore (pc := 22) E hK hM.2.2.2.1 hS (Ax.at 3 (by decide)) ⟨by omega, by omega⟩ (by decide) dX3_clear_22 (fun H locs hnew hoth hS => ?_)
  have hM := FOr.a3 hM hnew (fun a _ h => hoth a h)
  refine lv_aload_n (pc := 23) E.1 E.2 dX3_clear_23 rfl (lv_at hl 0 rfl) ?_
  refine z_iconst (pc := 24) E dX3_clear_24 ?_
  refine p3_3 (pc := 25) E hts hin3 hown hK hM.1 hS (Ax.at 0 (by decide)) (hts _ (List.mem_of_getElem? (i := 5) rfl)) dX3_clear_25 (fun H locs hnew hoth hS => ?_)
  have hM := FOr.p hM hnew (fun a _ h => hoth a h)
  exact z_retWv E hr ⟨(zu pa 0 (-1)), (zu na 0 605684), (zu ta 0 (-1)), hM, fun j j0 j1 => by have j1 : j < 1 := j1; have e : j = 0 := (by omega); subst e; exact ⟨rfl, rfl, rfl⟩⟩ hS hlocks dX3_clear_28
set_option maxHeartbeats 1000000 in
set_option maxRecDepth 100000 in
theorem mX0_clear (lL : Launch) (G : GG) (o : Nat → Nat) (σ : Int → Int) : Met lL yX0_clear wsX0_clear ({ frames := 0, cells := 0, slots := 0, locals := 0 } : Room) (va_Pc [.ref (o 0)] (fun U => AC G o σ U.heap ∧ KK G U)) (va_Qv (fun _ : Unit => True) (fun _ tZ => AC G o iniT tZ.heap) (Ax o 5)) 0 0 (Ax o 5) := by
  refine z_met (P := (fun H : Heap => AC G o σ H)) (by decide) rfl (Nat.le_of_ble_eq_true rfl) (fun pp ee ss mm below meth cC E hr hml hown hts hlocks hFO hK ls hl => ?_)
  have hl : lv_has ls 2 [(0, .ref (o 0))] := hl
  have hcs : 0 ≤ (({ frames := 0, cells := 0, slots := 0, locals := 0 } : Room)).cells ∧ 0 ≤ (({ frames := 0, cells := 0, slots := 0, locals := 0 } : Room)).slots := ⟨Nat.zero_le _, Nat.zero_le _⟩
  have hS : va_S (Ax o 5) ss.heap ss.heap [] := va_S.rf
  have hin0 : ∀ w ∈ wsX00, w ∈ wsX0_clear := fun w h => List.mem_cons_of_mem _ (List.mem_append_right _ (h))
  obtain ⟨am, so, ha, cl, hM, hs⟩ := id hFO
  refine z_iconst (pc := 0) E dX0_clear_0 ?_
  refine lv_istore_n (pc := 1) (lv' := [(1, .int (iI 0)), (0, .ref (o 0))]) E.1 E.2 dX0_clear_1 rfl hl (by decide) rfl (fun ls hl => ?_)
  suffices L2 : ∀ (nf : Nat), ∀ (k : Int), (0 ≤ k ∧ k ≤ 16) → ((16 - k).toNat) < nf → ∀  (H : Heap) (locs : List Loc), ACr G o [.ref (o 1), .ref (o 2), .ref (o 3), .ref (o 4)] (zc am k 0) (zc so k 0) (zc ha k 0) (zc cl k (-1)) H → va_S (Ax o 5) ss.heap H locs → ∀ ls : Array Slot, lv_has ls 2 [(1, .int (iI k)), (0, .ref (o 0))] → W pp lL ee ({ frames := 0, cells := 0, slots := 0, locals := 0 } : Room) ss mm [.ref (o 0)].toArray below meth cC H locs 0 0 (MQ below (va_Qv (fun _ : Unit => True) (fun _ tZ => AC G o iniT tZ.heap) (Ax o 5)) [.ref (o 0)].toArray ss 0 0 (Ax o 5)) (F0 mm 2 ls []) from L2 _ 0 (by omega) (Nat.lt_succ_self _)  _ _ (by rw [zc_0, zc_0, zc_0, zc_0]; exact hM) hS ls (lv_sub hl [0, 1] rfl)
  intro nfL2
  induction nfL2 with
  | zero => intro k hk hmzL2; exact absurd hmzL2 (Nat.not_lt_zero _)
  | succ nfL2 ihL2 =>
    intro k hk hmzL2  H locs hM hS ls hl
    refine lv_iload_n (pc := 2) E.1 E.2 dX0_clear_2 rfl (lv_at hl 0 rfl) ?_
    refine z_bipush (pc := 3) E (by decide) dX0_clear_3 ?_
    refine z_icmp_ge (pc := 5) (tgt := 42) E ⟨by omega, by omega⟩ (by decide) dX0_clear_5 (by decide) (fun h5 => ?_) (fun h5 => ?_)
    · have ek : k = 16 := by omega
      subst ek
      exact z_retWv E hr ⟨zc am 16 0, zc so 16 0, zc ha 16 0, zc cl 16 (-1), hM, fun j j0 j1 => by have q := ini_a j0 j1; rw [zc_y _ j0 j1, zc_y _ j0 j1, zc_y _ j0 j1, zc_y _ j0 j1]; exact q⟩ hS hlocks dX0_clear_42
    · refine lv_aload_n (pc := 8) E.1 E.2 dX0_clear_8 rfl (lv_at hl 1 rfl) ?_
      refine g0_0 (pc := 9) E hts hin0 hown hK hM.1 (hts _ (List.mem_of_getElem? (i := 1) rfl)) dX0_clear_9 ?_
      refine lv_iload_n (pc := 12) E.1 E.2 dX0_clear_12 rfl (lv_at hl 0 rfl) ?_
      refine z_iconst (pc := 13) E dX0_clear_13 ?_
      refine z_iastore (pc := 14) E hK hM.2.1 hS (Ax.at 1 (by decide)) ⟨by omega, by omega⟩ (by decide) dX0_clear_14 (fun H locs hnew hoth hS => ?_)
      have hM := ACr.a1 hM hnew (fun a _ h => hoth a h)
      refine lv_aload_n (pc := 15) E.1 E.2 dX0_clear_15 rfl (lv_at hl 1 rfl) ?_
      refine g0_1 (pc := 16) E hts hin0 hown hK hM.1 (hts _ (List.mem_of_getElem? (i := 2) rfl)) dX0_clear_16 ?_
      refine lv_iload_n (pc := 19) E.1 E.2 dX0_clear_19 rfl (lv_at hl 0 rfl) ?_
      refine z_iconst (pc := 20) E dX0_clear_20 ?_
      refine z_iastore (pc := 21) E hK hM.2.2.1 hS (Ax.at 2 (by decide)) ⟨by omega, by omega⟩ (by decide) dX0_clear_21 (fun H locs hnew hoth hS => ?_)
      have hM := ACr.a2 hM hnew (fun a _ h => hoth a h)
      refine lv_aload_n (pc := 22) E.1 E.2 dX0_clear_22 rfl (lv_at hl 1 rfl) ?_
      refine g0_2 (pc := 23) E hts hin0 hown hK hM.1 (hts _ (List.mem_of_getElem? (i := 3) rfl)) dX0_clear_23 ?_
      refine lv_iload_n (pc := 26) E.1 E.2 dX0_clear_26 rfl (lv_at hl 0 rfl) ?_
      refine z_iconst (pc := 27) E dX0_clear_27 ?_
      refine z_iastore (pc := 28) E hK hM.2.2.2.1 hS (Ax.at 3 (by decide)) ⟨by omega, by omega⟩ (by decide) dX0_clear_28 (fun H locs hnew hoth hS => ?_)
      have hM := ACr.a3 hM hnew (fun a _ h => hoth a h)
      refine lv_aload_n (pc := 29) E.1 E.2 dX0_clear_29 rfl (lv_at hl 1 rfl) ?_
      refine g0_3 (pc := 30) E hts hin0 hown hK hM.1 (hts _ (List.mem_of_getElem? (i := 4) rfl)) dX0_clear_30 ?_
      refine lv_iload_n (pc := 33) E.1 E.2 dX0_clear_33 rfl (lv_at hl 0 rfl) ?_
      refine z_iconst (pc := 34) E dX0_clear_34 ?_
      refine z_iastore (pc := 35) E hK hM.2.2.2.2.1 hS (Ax.at 4 (by decide)) ⟨by omega, by omega⟩ (by decide) dX0_clear_35 (fun H locs hnew hoth hS => ?_)
      have hM := ACr.a4 hM hnew (fun a _ h => hoth a h)
      refine lv_iinc (pc := 36) (v := iI (k + 1)) (lv' := [(1, .int (iI (k + 1))), (0, .ref (o 0))]) E.1 E.2 dX0_clear_36 hl (k := 0) rfl (iI_add _ _) (by decide) rfl (fun ls hl => ?_)
      refine lv_goto (pc := 39) (tgt := 2) E.1 E.2 dX0_clear_39 (by decide) ?_
      exact ihL2 (k + 1) (by omega) (by omega)  _ _ (by rw [← zc_s am 0 hk.1, ← zc_s so 0 hk.1, ← zc_s ha 0 hk.1, ← zc_s cl (-1) hk.1]; exact hM) hS ls (lv_sub hl [0, 1] rfl)
set_option maxHeartbeats 1000000 in
set_option maxRecDepth 100000 in
theorem mX6_clear (lL : Launch) (G : GG) (o : Nat → Nat) (σ : Int → Int) : Met lL yX6_clear wsX6_clear ({ frames := 1, cells := 0, slots := 0, locals := 21 } : Room) (va_Pc [.ref (o 0)] (fun U => ST G o σ U.heap ∧ KK G U)) (va_Qv (fun _ : Unit => True) (fun _ tZ => ST G o iniT tZ.heap) (Ax o 18)) 0 0 (Ax o 18) := by
  refine z_met (P := (fun H : Heap => ST G o σ H)) (by decide) rfl (Nat.le_of_ble_eq_true rfl) (fun pp ee ss mm below meth cC E hr hml hown hts hlocks hST hK ls hl => ?_)
  have hl : lv_has ls 1 [(0, .ref (o 0))] := hl
  have hcs : 0 ≤ (({ frames := 1, cells := 0, slots := 0, locals := 21 } : Room)).cells ∧ 0 ≤ (({ frames := 1, cells := 0, slots := 0, locals := 21 } : Room)).slots := ⟨Nat.zero_le _, Nat.zero_le _⟩
  have hS : va_S (Ax o 18) ss.heap ss.heap [] := va_S.rf
  have hin2 : ∀ w ∈ wsX20, w ∈ wsX6_clear := fun w h => List.mem_cons_of_mem _ (List.mem_append_left _ (List.mem_append_left _ (List.mem_append_left _ (List.mem_append_right _ (h)))))
  have hin4 : ∀ w ∈ wsX40, w ∈ wsX6_clear := fun w h => List.mem_cons_of_mem _ (List.mem_append_left _ (List.mem_append_left _ (List.mem_append_right _ (h))))
  have hin6 : ∀ w ∈ wsX60, w ∈ wsX6_clear := fun w h => List.mem_cons_of_mem _ (List.mem_append_left _ (List.mem_append_left _ (List.mem_append_left _ (List.mem_append_left _ (List.mem_append_right _ (h))))))
  obtain ⟨hO, hFO, hFI, hAC, hGI, hJ⟩ := id hST
  refine lv_aload_n (pc := 0) E.1 E.2 dX6_clear_0 rfl (lv_at hl 0 rfl) ?_
  refine g6_0 (pc := 1) E hts hin6 hown hK hO (hts _ (List.mem_of_getElem? (i := 1) rfl)) dX6_clear_1 ?_
  refine z_wVv (pc := 4) (As := []) (rest := []) E hml hown hts (mX3_clear lL G (fun k => o (1 + k)) σ) (cwV 0 hts gX6_clear_X3_clear rfl rfl rfl vdX3_clear ⟨Nat.le_of_ble_eq_true rfl, Nat.le_of_ble_eq_true rfl⟩) (oB.recv hK hFO.ob rfl) hFO hK hS (Ap.up (by decide)) rfl hl.1 rfl dX6_clear_4 hcs (Nat.le_of_ble_eq_true rfl) (fun H locs hnew hsz hoth hS => ?_)
  have hFI := FI.kp hFI (fun k hk => hoth _ (FI.lt hFI k hk) (Ap.no hJ (by omega) (by decide) (by omega)))
  have hAC := AC.kp hAC (fun k hk => hoth _ (AC.lt hAC k hk) (Ap.no hJ (by omega) (by decide) (by omega)))
  have hGI := GI.kp hGI (fun k hk => hoth _ (GI.lt hGI k hk) (Ap.no hJ (by omega) (by decide) (by omega)))
  have hO := oB.kp hO (hoth _ (oB.lt hO) (Ap.no hJ (by decide) (by decide) (by decide)))
  have hFO := hnew
  refine lv_aload_n (pc := 7) E.1 E.2 dX6_clear_7 rfl (lv_at hl 0 rfl) ?_
  refine g6_1 (pc := 8) E hts hin6 hown hK hO (hts _ (List.mem_of_getElem? (i := 2) rfl)) dX6_clear_8 ?_
  refine z_iconst (pc := 11) E dX6_clear_11 ?_
  refine p2_2 (pc := 12) E hts hin2 hown hK hFI.ob hS (Ax.at 5 (by decide)) (hts _ (List.mem_of_getElem? (i := 3) rfl)) dX6_clear_12 (fun H locs hnew hoth hS => ?_)
  have hFO := FO.kp hFO (fun k hk => hoth _ (hJ.ne (1 + k) 5 (by omega) (by decide) (by omega)))
  have hAC := AC.kp hAC (fun k hk => hoth _ (hJ.ne (8 + k) 5 (by omega) (by decide) (by omega)))
  have hGI := GI.kp hGI (fun k hk => hoth _ (hJ.ne (13 + k) 5 (by omega) (by decide) (by omega)))
  have hO := oB.kp hO (hoth _ (hJ.ne 0 5 (by decide) (by decide) (by decide)))
  have hFI := FI.z0 (τ := iniT) hFI hnew (fun a h => hoth a h) rfl
  refine lv_aload_n (pc := 15) E.1 E.2 dX6_clear_15 rfl (lv_at hl 0 rfl) ?_
  refine g6_2 (pc := 16) E hts hin6 hown hK hO (hts _ (List.mem_of_getElem? (i := 4) rfl)) dX6_clear_16 ?_
  refine z_wVv (pc := 19) (As := []) (rest := []) E hml hown hts (mX0_clear lL G (fun k => o (8 + k)) σ) (cwV 0 hts gX6_clear_X0_clear rfl rfl rfl vdX0_clear ⟨Nat.le_of_ble_eq_true rfl, Nat.le_of_ble_eq_true rfl⟩) (oB.recv hK hAC.ob rfl) hAC hK hS (Ap.up (by decide)) rfl hl.1 rfl dX6_clear_19 hcs (Nat.le_of_ble_eq_true rfl) (fun H locs hnew hsz hoth hS => ?_)
  have hFO := FO.kp hFO (fun k hk => hoth _ (FO.lt hFO k hk) (Ap.no hJ (by omega) (by decide) (by omega)))
  have hFI := FI.kp hFI (fun k hk => hoth _ (FI.lt hFI k hk) (Ap.no hJ (by omega) (by decide) (by omega)))
  have hGI := GI.kp hGI (fun k hk => hoth _ (GI.lt hGI k hk) (Ap.no hJ (by omega) (by decide) (by omega)))
  have hO := oB.kp hO (hoth _ (oB.lt hO) (Ap.no hJ (by decide) (by decide) (by decide)))
  have hAC := hnew
  refine lv_aload_n (pc := 22) E.1 E.2 dX6_clear_22 rfl (lv_at hl 0 rfl) ?_
  refine g6_3 (pc := 23) E hts hin6 hown hK hO (hts _ (List.mem_of_getElem? (i := 5) rfl)) dX6_clear_23 ?_
  refine z_iconst (pc := 26) E dX6_clear_26 ?_
  refine p4_4 (pc := 27) E hts hin4 hown hK hGI.ob hS (Ax.at 13 (by decide)) (hts _ (List.mem_of_getElem? (i := 6) rfl)) dX6_clear_27 (fun H locs hnew hoth hS => ?_)
  have hFO := FO.kp hFO (fun k hk => hoth _ (hJ.ne (1 + k) 13 (by omega) (by decide) (by omega)))
  have hFI := FI.kp hFI (fun k hk => hoth _ (hJ.ne (5 + k) 13 (by omega) (by decide) (by omega)))
  have hAC := AC.kp hAC (fun k hk => hoth _ (hJ.ne (8 + k) 13 (by omega) (by decide) (by omega)))
  have hO := oB.kp hO (hoth _ (hJ.ne 0 13 (by decide) (by decide) (by decide)))
  have hGI := GI.z0 (τ := iniT) hGI hnew (fun a h => hoth a h) rfl
  refine lv_aload_n (pc := 30) E.1 E.2 dX6_clear_30 rfl (lv_at hl 0 rfl) ?_
  refine z_iconst (pc := 31) E dX6_clear_31 ?_
  refine p6_4 (pc := 32) E hts hin6 hown hK hO hS (Ax.at 0 (by decide)) (hts _ (List.mem_of_getElem? (i := 7) rfl)) dX6_clear_32 (fun H locs hnew hoth hS => ?_)
  have hFO := FO.kp hFO (fun k hk => hoth _ (hJ.ne (1 + k) 0 (by omega) (by decide) (by omega)))
  have hFI := FI.kp hFI (fun k hk => hoth _ (hJ.ne (5 + k) 0 (by omega) (by decide) (by omega)))
  have hAC := AC.kp hAC (fun k hk => hoth _ (hJ.ne (8 + k) 0 (by omega) (by decide) (by omega)))
  have hGI := GI.kp hGI (fun k hk => hoth _ (hJ.ne (13 + k) 0 (by omega) (by decide) (by omega)))
  have hO := hnew
  refine lv_aload_n (pc := 35) E.1 E.2 dX6_clear_35 rfl (lv_at hl 0 rfl) ?_
  refine z_bipush (pc := 36) E (by decide) dX6_clear_36 ?_
  refine p6_5 (pc := 38) E hts hin6 hown hK hO hS (Ax.at 0 (by decide)) (hts _ (List.mem_of_getElem? (i := 8) rfl)) dX6_clear_38 (fun H locs hnew hoth hS => ?_)
  have hFO := FO.kp hFO (fun k hk => hoth _ (hJ.ne (1 + k) 0 (by omega) (by decide) (by omega)))
  have hFI := FI.kp hFI (fun k hk => hoth _ (hJ.ne (5 + k) 0 (by omega) (by decide) (by omega)))
  have hAC := AC.kp hAC (fun k hk => hoth _ (hJ.ne (8 + k) 0 (by omega) (by decide) (by omega)))
  have hGI := GI.kp hGI (fun k hk => hoth _ (hJ.ne (13 + k) 0 (by omega) (by decide) (by omega)))
  have hO := hnew
  exact z_retWv E hr ⟨hO, hFO, hFI, hAC, hGI, hJ⟩ hS hlocks dX6_clear_41
set_option maxHeartbeats 1000000 in
set_option maxRecDepth 100000 in
theorem mX4_removeEnded (lL : Launch) (G : GG) (o : Nat → Nat) (σ : Int → Int) (t : Int) (hI : In σ) (ht : -2147483648 ≤ t ∧ t < 2147483648) : Met lL yX4_removeEnded wsX4_removeEnded ({ frames := 2, cells := 0, slots := 0, locals := 43 } : Room) (va_Pc [.ref (o 0), .int (iI t)] (fun U => GI G o σ U.heap ∧ KK G U)) (va_Qi (fun r (_ : Unit) => r = (iI (σ 4 - reG σ t (σ 4).toNat 4))) (fun _ tZ => GI G o (reG σ t (σ 4).toNat) tZ.heap) (Ax o 5)) 0 0 (Ax o 5) := by
  refine z_met (P := (fun H : Heap => GI G o σ H)) (by decide) rfl (Nat.le_of_ble_eq_true rfl) (fun pp ee ss mm below meth cC E hr hml hown hts hlocks hFO hK ls hl => ?_)
  have hl : lv_has ls 4 [(0, .ref (o 0)), (1, .int (iI t))] := hl
  have hcs : 0 ≤ (({ frames := 2, cells := 0, slots := 0, locals := 43 } : Room)).cells ∧ 0 ≤ (({ frames := 2, cells := 0, slots := 0, locals := 43 } : Room)).slots := ⟨Nat.zero_le _, Nat.zero_le _⟩
  have hS : va_S (Ax o 5) ss.heap ss.heap [] := va_S.rf
  have hin4 : ∀ w ∈ wsX40, w ∈ wsX4_removeEnded := fun w h => List.mem_cons_of_mem _ (List.mem_append_right _ (h))
  have hF := hI.F
  have hMm := hI.M
  have hGn := hI.Gn
  refine lv_aload_n (pc := 0) E.1 E.2 dX4_removeEnded_0 rfl (lv_at hl 0 rfl) ?_
  refine g4_4 (pc := 1) E hts hin4 hown hK hFO.ob (hts _ (List.mem_of_getElem? (i := 1) rfl)) dX4_removeEnded_1 ?_
  refine lv_istore_n (pc := 4) (lv' := [(2, .int (iI (σ 4))), (0, .ref (o 0)), (1, .int (iI t))]) E.1 E.2 dX4_removeEnded_4 rfl hl (by decide) rfl (fun ls hl => ?_)
  refine lv_iload_n (pc := 5) E.1 E.2 dX4_removeEnded_5 rfl (lv_at hl 0 rfl) ?_
  refine z_iconst (pc := 6) E dX4_removeEnded_6 ?_
  refine z_isub (pc := 7) E dX4_removeEnded_7 ?_
  refine lv_istore_n (pc := 8) (lv' := [(3, .int (iI ((σ 4) - 1))), (2, .int (iI (σ 4))), (0, .ref (o 0)), (1, .int (iI t))]) E.1 E.2 dX4_removeEnded_8 rfl hl (by decide) rfl (fun ls hl => ?_)
  suffices L9 : ∀ (nf : Nat), ∀ (g : Int) (ρ : Int → Int), (In ρ) → (-1 ≤ g ∧ g + 1 ≤ ρ 4) → (reG ρ t (g + 1).toNat = reG σ t (σ 4).toNat) → ((g + 1).toNat) < nf → ∀  (H : Heap) (locs : List Loc), GI G o ρ H → va_S (Ax o 5) ss.heap H locs → ∀ ls : Array Slot, lv_has ls 4 [(3, .int (iI g)), (2, .int (iI (σ 4))), (0, .ref (o 0)), (1, .int (iI t))] → W pp lL ee ({ frames := 2, cells := 0, slots := 0, locals := 43 } : Room) ss mm [.ref (o 0), .int (iI t)].toArray below meth cC H locs 0 0 (MQ below (va_Qi (fun r (_ : Unit) => r = (iI (σ 4 - reG σ t (σ 4).toNat 4))) (fun _ tZ => GI G o (reG σ t (σ 4).toNat) tZ.heap) (Ax o 5)) [.ref (o 0), .int (iI t)].toArray ss 0 0 (Ax o 5)) (F0 mm 9 ls []) from L9 _ ((σ 4) - 1) σ hI (by omega) (by congr 1; omega) (Nat.lt_succ_self _)  _ _ hFO hS ls (lv_sub hl [0, 1, 2, 3] rfl)
  intro nfL9
  induction nfL9 with
  | zero => intro g ρ hR hg he hmzL9; exact absurd hmzL9 (Nat.not_lt_zero _)
  | succ nfL9 ihL9 =>
    intro g ρ hR hg he hmzL9  H locs hFO hS ls hl
    have hRG := hR.Gn
    refine lv_iload_n (pc := 9) E.1 E.2 dX4_removeEnded_9 rfl (lv_at hl 0 rfl) ?_
    refine z_if_lt (pc := 10) (tgt := 33) E ⟨by omega, by omega⟩ dX4_removeEnded_10 (by decide) (fun h10 => ?_) (fun h10 => ?_)
    · refine lv_iload_n (pc := 33) E.1 E.2 dX4_removeEnded_33 rfl (lv_at hl 1 rfl) ?_
      refine lv_aload_n (pc := 34) E.1 E.2 dX4_removeEnded_34 rfl (lv_at hl 2 rfl) ?_
      refine g4_4 (pc := 35) E hts hin4 hown hK hFO.ob (hts _ (List.mem_of_getElem? (i := 1) rfl)) dX4_removeEnded_35 ?_
      refine z_isub (pc := 38) E dX4_removeEnded_38 ?_
      exact z_retWi E hr (congrArg iI (by (rw [← he, show (g + 1).toNat = 0 by omega]; rfl))) (by rw [← he, show (g + 1).toNat = 0 by omega]; exact hFO) hS hlocks dX4_removeEnded_39
    · have hgk := hR.gft (g := g) (by omega) (by omega)
      refine lv_aload_n (pc := 13) E.1 E.2 dX4_removeEnded_13 rfl (lv_at hl 2 rfl) ?_
      refine lv_iload_n (pc := 14) E.1 E.2 dX4_removeEnded_14 rfl (lv_at hl 0 rfl) ?_
      refine z_rVi (pc := 15) (As := [.int (iI g)]) (rest := []) E hml hown hts (mX4_endOf lL G o ρ g hR (by omega)) (cwV 1 hts gX4_removeEnded_X4_endOf rfl rfl rfl vdX4_endOf ⟨Nat.le_of_ble_eq_true rfl, Nat.le_of_ble_eq_true rfl⟩) (oB.recv hK hFO.ob rfl) hFO hK rfl hl.1 rfl dX4_removeEnded_15 hcs (Nat.le_of_ble_eq_true rfl) ?_
      rw [show (if 0 ≤ g ∧ g < ρ 4 then ρ (309 + 4 * g + 3) else -1) = (ρ (309 + 4 * g + 3)) from (if_pos (by omega))]
      refine lv_iload_n (pc := 18) E.1 E.2 dX4_removeEnded_18 rfl (lv_at hl 3 rfl) ?_
      refine z_icmp_gt (pc := 19) (tgt := 27) E ⟨by omega, by omega⟩ ⟨by omega, by omega⟩ dX4_removeEnded_19 (by decide) (fun h19 => ?_) (fun h19 => ?_)
      · refine lv_iinc (pc := 27) (v := iI (g + (-1))) (lv' := [(3, .int (iI (g + (-1)))), (2, .int (iI (σ 4))), (0, .ref (o 0)), (1, .int (iI t))]) E.1 E.2 dX4_removeEnded_27 hl (k := 0) rfl (iI_add _ _) (by decide) rfl (fun ls hl => ?_)
        refine lv_goto (pc := 30) (tgt := 9) E.1 E.2 dX4_removeEnded_30 (by decide) ?_
        exact ihL9 (g + (-1)) ρ (by first | exact hR | exact hR.dgFI (by omega)) (by first | omega | (rw [dg_4]; omega)) (by rw [← he, show (g + 1).toNat = (g + -1 + 1).toNat + 1 by omega, reG, show (((g + -1 + 1).toNat : Nat) : Int) = g by omega]; first | exact (if_neg (by omega)).symm | exact (if_pos (by omega)).symm) (by omega)  _ _ hFO hS ls (lv_sub hl [0, 1, 2, 3] rfl)
      · refine lv_aload_n (pc := 22) E.1 E.2 dX4_removeEnded_22 rfl (lv_at hl 2 rfl) ?_
        refine lv_iload_n (pc := 23) E.1 E.2 dX4_removeEnded_23 rfl (lv_at hl 0 rfl) ?_
        refine z_wVv (pc := 24) (As := [.int (iI g)]) (rest := []) E hml hown hts (mX4_removeAt lL G o ρ g hR (by omega)) (cwV 1 hts gX4_removeEnded_X4_removeAt rfl rfl rfl vdX4_removeAt ⟨Nat.le_of_ble_eq_true rfl, Nat.le_of_ble_eq_true rfl⟩) (oB.recv hK hFO.ob rfl) hFO hK hS (fun _ h => h) rfl hl.1 rfl dX4_removeEnded_24 hcs (Nat.le_of_ble_eq_true rfl) (fun H locs hnew hsz hoth hS => ?_)
        have hFO := hnew
        refine lv_iinc (pc := 27) (v := iI (g + (-1))) (lv' := [(3, .int (iI (g + (-1)))), (2, .int (iI (σ 4))), (0, .ref (o 0)), (1, .int (iI t))]) E.1 E.2 dX4_removeEnded_27 hl (k := 0) rfl (iI_add _ _) (by decide) rfl (fun ls hl => ?_)
        refine lv_goto (pc := 30) (tgt := 9) E.1 E.2 dX4_removeEnded_30 (by decide) ?_
        exact ihL9 (g + (-1)) (dgF ρ g) (by first | exact hR | exact hR.dgFI (by omega)) (by first | omega | (rw [dg_4]; omega)) (by rw [← he, show (g + 1).toNat = (g + -1 + 1).toNat + 1 by omega, reG, show (((g + -1 + 1).toNat : Nat) : Int) = g by omega]; first | exact (if_neg (by omega)).symm | exact (if_pos (by omega)).symm) (by omega)  _ _ hFO hS ls (lv_sub hl [0, 1, 2, 3] rfl)
set_option maxHeartbeats 1000000 in
set_option maxRecDepth 100000 in
theorem mX6_setClocks (lL : Launch) (G : GG) (o : Nat → Nat) (σ : Int → Int) (hI : In σ) : Met lL yX6_setClocks wsX6_setClocks ({ frames := 3, cells := 0, slots := 0, locals := 90 } : Room) (va_Pc [.ref (o 0)] (fun U => ST G o σ U.heap ∧ KK G U)) (va_Qv (fun _ : Unit => True) (fun _ tZ => ST G o (scA σ 16) tZ.heap) (Ax o 18)) 0 0 (Ax o 18) := by
  refine z_met (P := (fun H : Heap => ST G o σ H)) (by decide) rfl (Nat.le_of_ble_eq_true rfl) (fun pp ee ss mm below meth cC E hr hml hown hts hlocks hST hK ls hl => ?_)
  have hl : lv_has ls 4 [(0, .ref (o 0))] := hl
  have hcs : 0 ≤ (({ frames := 3, cells := 0, slots := 0, locals := 90 } : Room)).cells ∧ 0 ≤ (({ frames := 3, cells := 0, slots := 0, locals := 90 } : Room)).slots := ⟨Nat.zero_le _, Nat.zero_le _⟩
  have hS : va_S (Ax o 18) ss.heap ss.heap [] := va_S.rf
  have hin6 : ∀ w ∈ wsX60, w ∈ wsX6_setClocks := fun w h => List.mem_cons_of_mem _ (List.mem_append_left _ (List.mem_append_left _ (List.mem_append_right _ (h))))
  have hF := hI.F
  have hMm := hI.M
  have hGn := hI.Gn
  have hTi := hI.ti
  have hGr := hI.gr
  refine z_iconst (pc := 0) E dX6_setClocks_0 ?_
  refine lv_istore_n (pc := 1) (lv' := [(1, .int (iI 0)), (0, .ref (o 0))]) E.1 E.2 dX6_setClocks_1 rfl hl (by decide) rfl (fun ls hl => ?_)
  suffices L2 : ∀ (nf : Nat), ∀ (p : Int), (0 ≤ p ∧ p ≤ 8) → ((8 - p).toNat) < nf → ∀  (H : Heap) (locs : List Loc), ST G o (scA σ (2 * p)) H → va_S (Ax o 18) ss.heap H locs → ∀ ls : Array Slot, lv_has ls 4 [(1, .int (iI p)), (0, .ref (o 0))] → W pp lL ee ({ frames := 3, cells := 0, slots := 0, locals := 90 } : Room) ss mm [.ref (o 0)].toArray below meth cC H locs 0 0 (MQ below (va_Qv (fun _ : Unit => True) (fun _ tZ => ST G o (scA σ 16) tZ.heap) (Ax o 18)) [.ref (o 0)].toArray ss 0 0 (Ax o 18)) (F0 mm 2 ls []) from L2 _ 0 (by omega) (Nat.lt_succ_self _)  _ _ (by rw [show (2 * 0 : Int) = 0 by omega, scA_0]; exact hST) hS ls (lv_sub hl [0, 1] rfl)
  intro nfL2
  induction nfL2 with
  | zero => intro p hp hmzL2; exact absurd hmzL2 (Nat.not_lt_zero _)
  | succ nfL2 ihL2 =>
    intro p hp hmzL2  H locs hST hS ls hl
    refine lv_iload_n (pc := 2) E.1 E.2 dX6_setClocks_2 rfl (lv_at hl 0 rfl) ?_
    refine z_bipush (pc := 3) E (by decide) dX6_setClocks_3 ?_
    refine z_icmp_ge (pc := 5) (tgt := 80) E ⟨by omega, by omega⟩ (by decide) dX6_setClocks_5 (by decide) (fun h5 => ?_) (fun h5 => ?_)
    · exact z_retWv E hr (by rw [show (16 : Int) = 2 * p by omega]; exact hST) hS hlocks dX6_setClocks_80
    · refine z_iconst (pc := 8) E dX6_setClocks_8 ?_
      refine lv_istore_n (pc := 9) (lv' := [(2, .int (iI 0)), (1, .int (iI p)), (0, .ref (o 0))]) E.1 E.2 dX6_setClocks_9 rfl hl (by decide) rfl (fun ls hl => ?_)
      suffices L10 : ∀ (nf : Nat), ∀ (k : Int), (0 ≤ k ∧ k ≤ 2) → ((2 - k).toNat) < nf → ∀  (H : Heap) (locs : List Loc), ST G o (scA σ (2 * p + k)) H → va_S (Ax o 18) ss.heap H locs → ∀ ls : Array Slot, lv_has ls 4 [(2, .int (iI k)), (1, .int (iI p)), (0, .ref (o 0))] → W pp lL ee ({ frames := 3, cells := 0, slots := 0, locals := 90 } : Room) ss mm [.ref (o 0)].toArray below meth cC H locs 0 0 (MQ below (va_Qv (fun _ : Unit => True) (fun _ tZ => ST G o (scA σ 16) tZ.heap) (Ax o 18)) [.ref (o 0)].toArray ss 0 0 (Ax o 18)) (F0 mm 10 ls []) from L10 _ 0 (by omega) (Nat.lt_succ_self _)  _ _ (by rw [Int.add_zero]; exact hST) hS ls (lv_sub hl [0, 1, 2] rfl)
      intro nfL10
      induction nfL10 with
      | zero => intro k hk hmzL10; exact absurd hmzL10 (Nat.not_lt_zero _)
      | succ nfL10 ihL10 =>
        intro k hk hmzL10  H locs hST hS ls hl
        refine lv_iload_n (pc := 10) E.1 E.2 dX6_setClocks_10 rfl (lv_at hl 0 rfl) ?_
        refine z_iconst (pc := 11) E dX6_setClocks_11 ?_
        refine z_icmp_ge (pc := 12) (tgt := 74) E ⟨by omega, by omega⟩ (by decide) dX6_setClocks_12 (by decide) (fun h12 => ?_) (fun h12 => ?_)
        · refine lv_iinc (pc := 74) (v := iI (p + 1)) (lv' := [(1, .int (iI (p + 1))), (2, .int (iI k)), (0, .ref (o 0))]) E.1 E.2 dX6_setClocks_74 hl (k := 1) rfl (iI_add _ _) (by decide) rfl (fun ls hl => ?_)
          refine lv_goto (pc := 77) (tgt := 2) E.1 E.2 dX6_setClocks_77 (by decide) ?_
          exact ihL2 (p + 1) (by omega) (by omega)  _ _ (by rw [show 2 * (p + 1) = 2 * p + 2 by omega]; rw [show k = 2 by omega] at hST; exact hST) hS ls (lv_sub hl [0, 2] rfl)
        · have hp7 : 0 ≤ p ∧ p ≤ 7 := by omega
          have hk1 : k = 0 ∨ k = 1 := by omega
          have hac := hI.acc (k := 2 * p + k) (by omega) (by omega)
          refine lv_iload_n (pc := 15) E.1 E.2 dX6_setClocks_15 rfl (lv_at hl 1 rfl) ?_
          refine lv_iload_n (pc := 16) E.1 E.2 dX6_setClocks_16 rfl (lv_at hl 0 rfl) ?_
          refine z_rSNi (pc := 17) (P := fun _ => True) (As := [.int (iI p), .int (iI k)]) (rest := []) E hml hown hts (mX7_accountOf lL G p k) ⟨va_cnB 2 hts gX6_setClocks_X7_accountOf_n98 rfl rfl rfl hK.2.2.2.2.2.2.2.2.1 (hts _ (List.mem_of_getElem? (i := 4) rfl)) vdX7_accountOf.2 ⟨Nat.le_of_ble_eq_true rfl, Nat.le_of_ble_eq_true rfl⟩, (hts _ (List.mem_of_getElem? (i := 3) rfl)), trivial⟩ trivial hK rfl hl.1 rfl dX6_setClocks_17 hcs (Nat.le_of_ble_eq_true rfl) ?_
          refine lv_istore_n (pc := 20) (lv' := [(3, .int (iI (2 * p + k))), (2, .int (iI k)), (1, .int (iI p)), (0, .ref (o 0))]) E.1 E.2 dX6_setClocks_20 rfl hl (by decide) rfl (fun ls hl => ?_)
          refine lv_aload_n (pc := 21) E.1 E.2 dX6_setClocks_21 rfl (lv_at hl 3 rfl) ?_
          refine lv_iload_n (pc := 22) E.1 E.2 dX6_setClocks_22 rfl (lv_at hl 2 rfl) ?_
          refine lv_iload_n (pc := 23) E.1 E.2 dX6_setClocks_23 rfl (lv_at hl 1 rfl) ?_
          refine z_iconst (pc := 24) E dX6_setClocks_24 ?_
          refine z_iconst (pc := 25) E dX6_setClocks_25 ?_
          refine z_rVi (pc := 26) (As := [.int (iI p), .int (iI k), .int (iI 0), .int (iI 0)]) (rest := []) E hml hown hts (mX6_wouldExceed lL G o (scA σ (2 * p + k)) p k 0 0 (hI.sc (by omega)) (by omega) (by omega) (Or.inl rfl) (by omega)) (cwV 4 hts gX6_setClocks_X6_wouldExceed rfl rfl rfl vdX6_wouldExceed ⟨Nat.le_of_ble_eq_true rfl, Nat.le_of_ble_eq_true rfl⟩) (oB.recv hK hST.1 rfl) hST hK rfl hl.1 rfl dX6_setClocks_26 hcs (Nat.le_of_ble_eq_true rfl) ?_
          rw [show (((if exS (scA σ (2 * p + k)) (if (0 : Int) = 0 then 5 else 21) p k 0 then 1 else 0) : Int)) = (if exS (scA σ (2 * p + k)) 5 p k 0 then 1 else 0) from rfl]
          refine z_ifb_ne (pc := 29) (tgt := 44) E dX6_setClocks_29 (by decide) (fun h29 => ?_) (fun h29 => ?_)
          · have hex : exS (scA σ (2 * p + k)) 5 p k 0 := h29
            refine lv_aload_n (pc := 44) E.1 E.2 dX6_setClocks_44 rfl (lv_at hl 3 rfl) ?_
            refine g6_2 (pc := 45) E hts hin6 hown hK hST.1 (hts _ (List.mem_of_getElem? (i := 1) rfl)) dX6_setClocks_45 ?_
            refine lv_iload_n (pc := 48) E.1 E.2 dX6_setClocks_48 rfl (lv_at hl 0 rfl) ?_
            refine z_rVi (pc := 49) (As := [.int (iI (2 * p + k))]) (rest := []) E hml hown hts (mX0_clockOf lL G (fun k => o (8 + k)) (scA σ (2 * p + k)) (2 * p + k)  (by omega)) (cwV 1 hts gX6_setClocks_X0_clockOf rfl rfl rfl vdX0_clockOf ⟨Nat.le_of_ble_eq_true rfl, Nat.le_of_ble_eq_true rfl⟩) (oB.recv hK hST.aco rfl) hST.ac hK rfl hl.1 rfl dX6_setClocks_49 hcs (Nat.le_of_ble_eq_true rfl) ?_
            rw [show (if 0 ≤ (2 * p + k) ∧ (2 * p + k) < 16 then (scA σ (2 * p + k)) (53 + (2 * p + k)) else -1) = (σ (53 + (2 * p + k))) from (by rw [if_pos (show 0 ≤ 2 * p + k ∧ 2 * p + k < 16 by omega), scA_n σ _ (by omega)])]
            refine z_iconst (pc := 52) E dX6_setClocks_52 ?_
            refine z_icmp_ne (pc := 53) (tgt := 68) E ⟨by omega, by omega⟩ (by decide) dX6_setClocks_53 (by decide) (fun h53 => ?_) (fun h53 => ?_)
            · have h53 := h53
              refine lv_iinc (pc := 68) (v := iI (k + 1)) (lv' := [(2, .int (iI (k + 1))), (3, .int (iI (2 * p + k))), (1, .int (iI p)), (0, .ref (o 0))]) E.1 E.2 dX6_setClocks_68 hl (k := 1) rfl (iI_add _ _) (by decide) rfl (fun ls hl => ?_)
              refine lv_goto (pc := 71) (tgt := 10) E.1 E.2 dX6_setClocks_71 (by decide) ?_
              exact ihL10 (k + 1) (by omega) (by omega)  _ _ (by rw [show 2 * p + (k + 1) = 2 * p + k + 1 by omega, scA_e (by omega) (by rw [ckS_y hp7 hk1 hex, if_neg h53])]; exact hST) hS ls (lv_sub hl [0, 2, 3] rfl)
            · have h53 := h53
              refine lv_aload_n (pc := 56) E.1 E.2 dX6_setClocks_56 rfl (lv_at hl 3 rfl) ?_
              refine g6_2 (pc := 57) E hts hin6 hown hK hST.1 (hts _ (List.mem_of_getElem? (i := 1) rfl)) dX6_setClocks_57 ?_
              refine lv_iload_n (pc := 60) E.1 E.2 dX6_setClocks_60 rfl (lv_at hl 0 rfl) ?_
              refine lv_aload_n (pc := 61) E.1 E.2 dX6_setClocks_61 rfl (lv_at hl 3 rfl) ?_
              refine g6_4 (pc := 62) E hts hin6 hown hK hST.1 (hts _ (List.mem_of_getElem? (i := 2) rfl)) dX6_setClocks_62 ?_
              rw [show ((scA σ (2 * p + k)) 0) = (σ 0) from (scA_n σ _ (by omega))]
              refine z_wVv (pc := 65) (As := [.int (iI (2 * p + k)), .int (iI (σ 0))]) (rest := []) E hml hown hts (mX0_setClock lL G (fun k => o (8 + k)) (scA σ (2 * p + k)) (2 * p + k) (σ 0)  (by omega) (by omega)) (cwV 2 hts gX6_setClocks_X0_setClock rfl rfl rfl vdX0_setClock ⟨Nat.le_of_ble_eq_true rfl, Nat.le_of_ble_eq_true rfl⟩) (oB.recv hK hST.aco rfl) hST.ac hK hS (Ap.up (by decide)) rfl hl.1 rfl dX6_setClocks_65 hcs (Nat.le_of_ble_eq_true rfl) (fun H locs hnew hsz hoth hS => ?_)
              have hST := ST.upAC hST hnew (fun q h1 h2 => hoth q h1 h2) (fun j hj => by first | rw [zu_n _ _ (by omega)] | rw [zu_n _ _ (by omega), zu_n _ _ (by omega)])
              refine lv_iinc (pc := 68) (v := iI (k + 1)) (lv' := [(2, .int (iI (k + 1))), (3, .int (iI (2 * p + k))), (1, .int (iI p)), (0, .ref (o 0))]) E.1 E.2 dX6_setClocks_68 hl (k := 1) rfl (iI_add _ _) (by decide) rfl (fun ls hl => ?_)
              refine lv_goto (pc := 71) (tgt := 10) E.1 E.2 dX6_setClocks_71 (by decide) ?_
              exact ihL10 (k + 1) (by omega) (by omega)  _ _ (by rw [show 2 * p + (k + 1) = 2 * p + k + 1 by omega, ← scA_s σ (by omega), ckS_y hp7 hk1 hex, if_pos h53]; exact hST) hS ls (lv_sub hl [0, 2, 3] rfl)
          · have hex : ¬ exS (scA σ (2 * p + k)) 5 p k 0 := h29
            refine lv_aload_n (pc := 32) E.1 E.2 dX6_setClocks_32 rfl (lv_at hl 3 rfl) ?_
            refine g6_2 (pc := 33) E hts hin6 hown hK hST.1 (hts _ (List.mem_of_getElem? (i := 1) rfl)) dX6_setClocks_33 ?_
            refine lv_iload_n (pc := 36) E.1 E.2 dX6_setClocks_36 rfl (lv_at hl 0 rfl) ?_
            refine z_iconst (pc := 37) E dX6_setClocks_37 ?_
            refine z_wVv (pc := 38) (As := [.int (iI (2 * p + k)), .int (iI (-1))]) (rest := []) E hml hown hts (mX0_setClock lL G (fun k => o (8 + k)) (scA σ (2 * p + k)) (2 * p + k) (-1)  (by omega) (by omega)) (cwV 2 hts gX6_setClocks_X0_setClock rfl rfl rfl vdX0_setClock ⟨Nat.le_of_ble_eq_true rfl, Nat.le_of_ble_eq_true rfl⟩) (oB.recv hK hST.aco rfl) hST.ac hK hS (Ap.up (by decide)) rfl hl.1 rfl dX6_setClocks_38 hcs (Nat.le_of_ble_eq_true rfl) (fun H locs hnew hsz hoth hS => ?_)
            have hST := ST.upAC hST hnew (fun q h1 h2 => hoth q h1 h2) (fun j hj => by first | rw [zu_n _ _ (by omega)] | rw [zu_n _ _ (by omega), zu_n _ _ (by omega)])
            refine lv_goto (pc := 41) (tgt := 68) E.1 E.2 dX6_setClocks_41 (by decide) ?_
            refine lv_iinc (pc := 68) (v := iI (k + 1)) (lv' := [(2, .int (iI (k + 1))), (3, .int (iI (2 * p + k))), (1, .int (iI p)), (0, .ref (o 0))]) E.1 E.2 dX6_setClocks_68 hl (k := 1) rfl (iI_add _ _) (by decide) rfl (fun ls hl => ?_)
            refine lv_goto (pc := 71) (tgt := 10) E.1 E.2 dX6_setClocks_71 (by decide) ?_
            exact ihL10 (k + 1) (by omega) (by omega)  _ _ (by rw [show 2 * p + (k + 1) = 2 * p + k + 1 by omega, ← scA_s σ (by omega), ckS_n hp7 hk1 hex]; exact hST) hS ls (lv_sub hl [0, 2, 3] rfl)
set_option maxHeartbeats 1000000 in
set_option maxRecDepth 100000 in
theorem mX6_transferOpenPart (lL : Launch) (G : GG) (o : Nat → Nat) (σ : Int → Int) (f : Int) (t : Int) (hI : In σ) (hf : 0 ≤ f ∧ f < σ 2) (ht : -1 ≤ t ∧ t ≤ 7) : Met lL yX6_transferOpenPart wsX6_transferOpenPart ({ frames := 4, cells := 0, slots := 0, locals := 109 } : Room) (va_Pc [.ref (o 0), .int (iI f), .int (iI t)] (fun U => ST G o σ U.heap ∧ KK G U)) (va_Qi (fun r (_ : Unit) => r = (iI (if pjF σ f = t then 0 else opS σ f 0))) (fun _ tZ => ST G o (paA σ f (pjF σ f) t) tZ.heap) (Ax o 18)) 0 0 (Ax o 18) := by
  refine z_met (P := (fun H : Heap => ST G o σ H)) (by decide) rfl (Nat.le_of_ble_eq_true rfl) (fun pp ee ss mm below meth cC E hr hml hown hts hlocks hST hK ls hl => ?_)
  have hl : lv_has ls 5 [(0, .ref (o 0)), (1, .int (iI f)), (2, .int (iI t))] := hl
  have hcs : 0 ≤ (({ frames := 4, cells := 0, slots := 0, locals := 109 } : Room)).cells ∧ 0 ≤ (({ frames := 4, cells := 0, slots := 0, locals := 109 } : Room)).slots := ⟨Nat.zero_le _, Nat.zero_le _⟩
  have hS : va_S (Ax o 18) ss.heap ss.heap [] := va_S.rf
  have hin6 : ∀ w ∈ wsX60, w ∈ wsX6_transferOpenPart := fun w h => List.mem_cons_of_mem _ (List.mem_append_left _ (List.mem_append_left _ (List.mem_append_left _ (List.mem_append_right _ (h)))))
  have hF := hI.F
  have hMm := hI.M
  have hGn := hI.Gn
  have hTi := hI.ti
  have hGr := hI.gr
  have hpf := hI.pjr (f := f) (Or.inr hf)
  have ho1 := hI.opb f 1
  have ho0 := hI.opb f 0
  refine lv_aload_n (pc := 0) E.1 E.2 dX6_transferOpenPart_0 rfl (lv_at hl 0 rfl) ?_
  refine g6_0 (pc := 1) E hts hin6 hown hK hST.1 (hts _ (List.mem_of_getElem? (i := 1) rfl)) dX6_transferOpenPart_1 ?_
  refine lv_iload_n (pc := 4) E.1 E.2 dX6_transferOpenPart_4 rfl (lv_at hl 1 rfl) ?_
  refine z_rVi (pc := 5) (As := [.int (iI f)]) (rest := []) E hml hown hts (mX3_projectOf lL G (fun k => o (1 + k)) σ f hI (Or.inr hf)) (cwV 1 hts gX6_transferOpenPart_X3_projectOf rfl rfl rfl vdX3_projectOf ⟨Nat.le_of_ble_eq_true rfl, Nat.le_of_ble_eq_true rfl⟩) (oB.recv hK hST.foo rfl) hST.fo hK rfl hl.1 rfl dX6_transferOpenPart_5 hcs (Nat.le_of_ble_eq_true rfl) ?_
  refine lv_istore_n (pc := 8) (lv' := [(3, .int (iI (pjF σ f))), (0, .ref (o 0)), (1, .int (iI f)), (2, .int (iI t))]) E.1 E.2 dX6_transferOpenPart_8 rfl hl (by decide) rfl (fun ls hl => ?_)
  refine lv_iload_n (pc := 9) E.1 E.2 dX6_transferOpenPart_9 rfl (lv_at hl 0 rfl) ?_
  refine lv_iload_n (pc := 10) E.1 E.2 dX6_transferOpenPart_10 rfl (lv_at hl 3 rfl) ?_
  refine z_icmp_ne (pc := 11) (tgt := 16) E ⟨by omega, by omega⟩ ⟨by omega, by omega⟩ dX6_transferOpenPart_11 (by decide) (fun h11 => ?_) (fun h11 => ?_)
  · refine lv_aload_n (pc := 16) E.1 E.2 dX6_transferOpenPart_16 rfl (lv_at hl 1 rfl) ?_
    refine lv_iload_n (pc := 17) E.1 E.2 dX6_transferOpenPart_17 rfl (lv_at hl 2 rfl) ?_
    refine z_iconst (pc := 18) E dX6_transferOpenPart_18 ?_
    refine z_rVi (pc := 19) (As := [.int (iI f), .int (iI 1)]) (rest := []) E hml hown hts (mX6_openSum lL G o σ f 1 hI (by omega) (Or.inr rfl)) (cwV 2 hts gX6_transferOpenPart_X6_openSum rfl rfl rfl vdX6_openSum ⟨Nat.le_of_ble_eq_true rfl, Nat.le_of_ble_eq_true rfl⟩) (oB.recv hK hST.1 rfl) hST hK rfl hl.1 rfl dX6_transferOpenPart_19 hcs (Nat.le_of_ble_eq_true rfl) ?_
    rw [show (opS σ f (1 - 1)) = (opS σ f 0) from rfl]
    refine lv_istore (pc := 22) (lv' := [(4, .int (iI (opS σ f 0))), (3, .int (iI (pjF σ f))), (0, .ref (o 0)), (1, .int (iI f)), (2, .int (iI t))]) E.1 E.2 dX6_transferOpenPart_22 hl (by decide) rfl (fun ls hl => ?_)
    refine lv_aload_n (pc := 24) E.1 E.2 dX6_transferOpenPart_24 rfl (lv_at hl 2 rfl) ?_
    refine g6_2 (pc := 25) E hts hin6 hown hK hST.1 (hts _ (List.mem_of_getElem? (i := 2) rfl)) dX6_transferOpenPart_25 ?_
    refine lv_iload_n (pc := 28) E.1 E.2 dX6_transferOpenPart_28 rfl (lv_at hl 1 rfl) ?_
    refine lv_iload_n (pc := 29) E.1 E.2 dX6_transferOpenPart_29 rfl (lv_at hl 4 rfl) ?_
    refine lv_aload_n (pc := 30) E.1 E.2 dX6_transferOpenPart_30 rfl (lv_at hl 2 rfl) ?_
    refine lv_iload_n (pc := 31) E.1 E.2 dX6_transferOpenPart_31 rfl (lv_at hl 3 rfl) ?_
    refine z_iconst (pc := 32) E dX6_transferOpenPart_32 ?_
    refine z_rVi (pc := 33) (As := [.int (iI f), .int (iI 0)]) (rest := [.int (iI t), .int (iI (pjF σ f)), .ref (o 8)]) E hml hown hts (mX6_openSum lL G o σ f 0 hI (by omega) (Or.inl rfl)) (cwV 2 hts gX6_transferOpenPart_X6_openSum rfl rfl rfl vdX6_openSum ⟨Nat.le_of_ble_eq_true rfl, Nat.le_of_ble_eq_true rfl⟩) (oB.recv hK hST.1 rfl) hST hK rfl hl.1 rfl dX6_transferOpenPart_33 hcs (Nat.le_of_ble_eq_true rfl) ?_
    rw [show (opS σ f (1 - 0)) = (opS σ f 1) from rfl]
    refine lv_iload (pc := 36) E.1 E.2 dX6_transferOpenPart_36 (lv_at hl 0 rfl) ?_
    refine z_wVv (pc := 38) (As := [.int (iI (pjF σ f)), .int (iI t), .int (iI (opS σ f 1)), .int (iI (opS σ f 0))]) (rest := []) E hml hown hts (mX0_transfer lL G (fun k => o (8 + k)) σ (pjF σ f) t (opS σ f 1) (opS σ f 0)  (by omega) (by omega) (by omega) (by omega) (fun k h0 h1 => (hI.acc h0 h1).2.2.1)) (cwV 4 hts gX6_transferOpenPart_X0_transfer rfl rfl rfl vdX0_transfer ⟨Nat.le_of_ble_eq_true rfl, Nat.le_of_ble_eq_true rfl⟩) (oB.recv hK hST.aco rfl) hST.ac hK hS (Ap.up (by decide)) rfl hl.1 rfl dX6_transferOpenPart_38 hcs (Nat.le_of_ble_eq_true rfl) (fun H locs hnew hsz hoth hS => ?_)
    have hST := ST.upAC hST hnew (fun q h1 h2 => hoth q h1 h2) (fun j hj => by split; rfl; rw [coA_n (by omega) (by omega), coA_n (by omega) (by omega)])
    refine lv_iload (pc := 41) E.1 E.2 dX6_transferOpenPart_41 (lv_at hl 0 rfl) ?_
    exact z_retWi E hr (congrArg iI (by first | rw [if_pos h11] | rw [if_neg h11])) hST hS hlocks dX6_transferOpenPart_43
  · refine z_iconst (pc := 14) E dX6_transferOpenPart_14 ?_
    exact z_retWi E hr (congrArg iI (by first | rw [if_pos h11] | rw [if_neg h11])) (by rw [show paA σ f (pjF σ f) t = σ by unfold paA; rw [if_pos h11]]; exact hST) hS hlocks dX6_transferOpenPart_15
set_option maxHeartbeats 1000000 in
set_option maxRecDepth 100000 in
theorem mX6_correctAccounts (lL : Launch) (G : GG) (o : Nat → Nat) (σ : Int → Int) (hI : In σ) : Met lL yX6_correctAccounts wsX6_correctAccounts ({ frames := 5, cells := 0, slots := 0, locals := 110 } : Room) (va_Pc [.ref (o 0)] (fun U => ST G o σ U.heap ∧ KK G U)) (va_Qi (fun r (_ : Unit) => r = (iI (wrS σ))) (fun _ tZ => ST G o (reA σ 16) tZ.heap) (Ax o 18)) 0 0 (Ax o 18) := by
  refine z_met (P := (fun H : Heap => ST G o σ H)) (by decide) rfl (Nat.le_of_ble_eq_true rfl) (fun pp ee ss mm below meth cC E hr hml hown hts hlocks hST hK ls hl => ?_)
  have hl : lv_has ls 6 [(0, .ref (o 0))] := hl
  have hcs : 0 ≤ (({ frames := 5, cells := 0, slots := 0, locals := 110 } : Room)).cells ∧ 0 ≤ (({ frames := 5, cells := 0, slots := 0, locals := 110 } : Room)).slots := ⟨Nat.zero_le _, Nat.zero_le _⟩
  have hS : va_S (Ax o 18) ss.heap ss.heap [] := va_S.rf
  have hin6 : ∀ w ∈ wsX60, w ∈ wsX6_correctAccounts := fun w h => List.mem_cons_of_mem _ (List.mem_append_left _ (List.mem_append_left _ (List.mem_append_left _ (List.mem_append_right _ (h)))))
  have hF := hI.F
  have hMm := hI.M
  have hGn := hI.Gn
  have hTi := hI.ti
  have hGr := hI.gr
  refine z_iconst (pc := 0) E dX6_correctAccounts_0 ?_
  refine lv_istore_n (pc := 1) (lv' := [(1, .int (iI 0)), (0, .ref (o 0))]) E.1 E.2 dX6_correctAccounts_1 rfl hl (by decide) rfl (fun ls hl => ?_)
  refine z_iconst (pc := 2) E dX6_correctAccounts_2 ?_
  refine lv_istore_n (pc := 3) (lv' := [(2, .int (iI 0)), (1, .int (iI 0)), (0, .ref (o 0))]) E.1 E.2 dX6_correctAccounts_3 rfl hl (by decide) rfl (fun ls hl => ?_)
  suffices L4 : ∀ (nf : Nat), ∀ (n p : Int), (0 ≤ p ∧ p ≤ 8) → (n = cn (wrP σ) (2 * p).toNat) → ((8 - p).toNat) < nf → ∀  (H : Heap) (locs : List Loc), ST G o (reA σ (2 * p)) H → va_S (Ax o 18) ss.heap H locs → ∀ ls : Array Slot, lv_has ls 6 [(2, .int (iI p)), (1, .int (iI n)), (0, .ref (o 0))] → W pp lL ee ({ frames := 5, cells := 0, slots := 0, locals := 110 } : Room) ss mm [.ref (o 0)].toArray below meth cC H locs 0 0 (MQ below (va_Qi (fun r (_ : Unit) => r = (iI (wrS σ))) (fun _ tZ => ST G o (reA σ 16) tZ.heap) (Ax o 18)) [.ref (o 0)].toArray ss 0 0 (Ax o 18)) (F0 mm 4 ls []) from L4 _ 0 0 (by omega) rfl (Nat.lt_succ_self _)  _ _ (by rw [show (2 * 0 : Int) = 0 by omega, reA_0]; exact hST) hS ls (lv_sub hl [0, 1, 2] rfl)
  intro nfL4
  induction nfL4 with
  | zero => intro n p hp hn hmzL4; exact absurd hmzL4 (Nat.not_lt_zero _)
  | succ nfL4 ihL4 =>
    intro n p hp hn hmzL4  H locs hST hS ls hl
    refine lv_iload_n (pc := 4) E.1 E.2 dX6_correctAccounts_4 rfl (lv_at hl 0 rfl) ?_
    refine z_bipush (pc := 5) E (by decide) dX6_correctAccounts_5 ?_
    refine z_icmp_ge (pc := 7) (tgt := 72) E ⟨by omega, by omega⟩ (by decide) dX6_correctAccounts_7 (by decide) (fun h7 => ?_) (fun h7 => ?_)
    · refine lv_iload_n (pc := 72) E.1 E.2 dX6_correctAccounts_72 rfl (lv_at hl 1 rfl) ?_
      exact z_retWi E hr (congrArg iI (by (rw [hn]; unfold wrS; congr 1; omega))) (by rw [show (16 : Int) = 2 * p by omega]; exact hST) hS hlocks dX6_correctAccounts_73
    · refine z_iconst (pc := 10) E dX6_correctAccounts_10 ?_
      refine lv_istore_n (pc := 11) (lv' := [(3, .int (iI 0)), (2, .int (iI p)), (1, .int (iI n)), (0, .ref (o 0))]) E.1 E.2 dX6_correctAccounts_11 rfl hl (by decide) rfl (fun ls hl => ?_)
      suffices L12 : ∀ (nf : Nat), ∀ (m k : Int), (0 ≤ k ∧ k ≤ 2) → (m = cn (wrP σ) (2 * p + k).toNat) → ((2 - k).toNat) < nf → ∀  (H : Heap) (locs : List Loc), ST G o (reA σ (2 * p + k)) H → va_S (Ax o 18) ss.heap H locs → ∀ ls : Array Slot, lv_has ls 6 [(3, .int (iI k)), (2, .int (iI p)), (1, .int (iI m)), (0, .ref (o 0))] → W pp lL ee ({ frames := 5, cells := 0, slots := 0, locals := 110 } : Room) ss mm [.ref (o 0)].toArray below meth cC H locs 0 0 (MQ below (va_Qi (fun r (_ : Unit) => r = (iI (wrS σ))) (fun _ tZ => ST G o (reA σ 16) tZ.heap) (Ax o 18)) [.ref (o 0)].toArray ss 0 0 (Ax o 18)) (F0 mm 12 ls []) from L12 _ n 0 (by omega) (by rw [hn]; congr 1; omega) (Nat.lt_succ_self _)  _ _ (by rw [Int.add_zero]; exact hST) hS ls (lv_sub hl [0, 1, 2, 3] rfl)
      intro nfL12
      induction nfL12 with
      | zero => intro m k hk hm hmzL12; exact absurd hmzL12 (Nat.not_lt_zero _)
      | succ nfL12 ihL12 =>
        intro m k hk hm hmzL12  H locs hST hS ls hl
        refine lv_iload_n (pc := 12) E.1 E.2 dX6_correctAccounts_12 rfl (lv_at hl 0 rfl) ?_
        refine z_iconst (pc := 13) E dX6_correctAccounts_13 ?_
        refine z_icmp_ge (pc := 14) (tgt := 66) E ⟨by omega, by omega⟩ (by decide) dX6_correctAccounts_14 (by decide) (fun h14 => ?_) (fun h14 => ?_)
        · refine lv_iinc (pc := 66) (v := iI (p + 1)) (lv' := [(2, .int (iI (p + 1))), (3, .int (iI k)), (1, .int (iI m)), (0, .ref (o 0))]) E.1 E.2 dX6_correctAccounts_66 hl (k := 1) rfl (iI_add _ _) (by decide) rfl (fun ls hl => ?_)
          refine lv_goto (pc := 69) (tgt := 4) E.1 E.2 dX6_correctAccounts_69 (by decide) ?_
          exact ihL4 m (p + 1) (by omega) (by rw [hm]; congr 1; omega) (by omega)  _ _ (by rw [show 2 * (p + 1) = 2 * p + 2 by omega]; rw [show k = 2 by omega] at hST; exact hST) hS ls (lv_sub hl [0, 2, 3] rfl)
        · have hp7 : 0 ≤ p ∧ p ≤ 7 := by omega
          have hk1 : k = 0 ∨ k = 1 := by omega
          have hac := hI.acc (k := 2 * p + k) (by omega) (by omega)
          have hIr := hI.re (i := 2 * p + k) (by omega)
          have e1 : (2 * p + k) / 2 = p := by omega
          have e2 : (2 * p + k) % 2 = k := by omega
          have hcb := coS_b hI p k
          have hwb := wr_b σ (2 * p + k).toNat
          refine lv_iload_n (pc := 17) E.1 E.2 dX6_correctAccounts_17 rfl (lv_at hl 1 rfl) ?_
          refine lv_iload_n (pc := 18) E.1 E.2 dX6_correctAccounts_18 rfl (lv_at hl 0 rfl) ?_
          refine z_rSNi (pc := 19) (P := fun _ => True) (As := [.int (iI p), .int (iI k)]) (rest := []) E hml hown hts (mX7_accountOf lL G p k) ⟨va_cnB 2 hts gX6_correctAccounts_X7_accountOf_n98 rfl rfl rfl hK.2.2.2.2.2.2.2.2.1 (hts _ (List.mem_of_getElem? (i := 3) rfl)) vdX7_accountOf.2 ⟨Nat.le_of_ble_eq_true rfl, Nat.le_of_ble_eq_true rfl⟩, (hts _ (List.mem_of_getElem? (i := 2) rfl)), trivial⟩ trivial hK rfl hl.1 rfl dX6_correctAccounts_19 hcs (Nat.le_of_ble_eq_true rfl) ?_
          refine lv_istore (pc := 22) (lv' := [(4, .int (iI (2 * p + k))), (3, .int (iI k)), (2, .int (iI p)), (1, .int (iI m)), (0, .ref (o 0))]) E.1 E.2 dX6_correctAccounts_22 hl (by decide) rfl (fun ls hl => ?_)
          refine lv_aload_n (pc := 24) E.1 E.2 dX6_correctAccounts_24 rfl (lv_at hl 4 rfl) ?_
          refine lv_iload_n (pc := 25) E.1 E.2 dX6_correctAccounts_25 rfl (lv_at hl 2 rfl) ?_
          refine lv_iload_n (pc := 26) E.1 E.2 dX6_correctAccounts_26 rfl (lv_at hl 1 rfl) ?_
          refine z_rVi (pc := 27) (As := [.int (iI p), .int (iI k)]) (rest := []) E hml hown hts (mX6_countAnew lL G o (reA σ (2 * p + k)) p k hIr (by omega) (by omega)) (cwV 2 hts gX6_correctAccounts_X6_countAnew rfl rfl rfl vdX6_countAnew ⟨Nat.le_of_ble_eq_true rfl, Nat.le_of_ble_eq_true rfl⟩) (oB.recv hK hST.1 rfl) hST hK rfl hl.1 rfl dX6_correctAccounts_27 hcs (Nat.le_of_ble_eq_true rfl) ?_
          rw [show (coS (reA σ (2 * p + k)) p k) = (coS σ p k) from (coS_re hI _ p k (by omega))]
          refine lv_istore (pc := 30) (lv' := [(5, .int (iI (coS σ p k))), (4, .int (iI (2 * p + k))), (3, .int (iI k)), (2, .int (iI p)), (1, .int (iI m)), (0, .ref (o 0))]) E.1 E.2 dX6_correctAccounts_30 hl (by decide) rfl (fun ls hl => ?_)
          refine lv_aload_n (pc := 32) E.1 E.2 dX6_correctAccounts_32 rfl (lv_at hl 5 rfl) ?_
          refine g6_2 (pc := 33) E hts hin6 hown hK hST.1 (hts _ (List.mem_of_getElem? (i := 1) rfl)) dX6_correctAccounts_33 ?_
          refine lv_iload (pc := 36) E.1 E.2 dX6_correctAccounts_36 (lv_at hl 1 rfl) ?_
          refine z_rVi (pc := 38) (As := [.int (iI (2 * p + k))]) (rest := []) E hml hown hts (mX0_amountOf lL G (fun k => o (8 + k)) (reA σ (2 * p + k)) (2 * p + k)  (by omega)) (cwV 1 hts gX6_correctAccounts_X0_amountOf rfl rfl rfl vdX0_amountOf ⟨Nat.le_of_ble_eq_true rfl, Nat.le_of_ble_eq_true rfl⟩) (oB.recv hK hST.aco rfl) hST.ac hK rfl hl.1 rfl dX6_correctAccounts_38 hcs (Nat.le_of_ble_eq_true rfl) ?_
          rw [show (if 0 ≤ (2 * p + k) ∧ (2 * p + k) < 16 then (reA σ (2 * p + k)) (37 + (2 * p + k)) else 0) = (σ (37 + (2 * p + k))) from (by rw [if_pos (show 0 ≤ 2 * p + k ∧ 2 * p + k < 16 by omega), reA_n σ _ (by omega)])]
          refine lv_iload (pc := 41) E.1 E.2 dX6_correctAccounts_41 (lv_at hl 0 rfl) ?_
          refine z_icmp_eq (pc := 43) (tgt := 60) E ⟨by omega, by omega⟩ ⟨by omega, by omega⟩ dX6_correctAccounts_43 (by decide) (fun h43 => ?_) (fun h43 => ?_)
          · refine lv_iinc (pc := 60) (v := iI (k + 1)) (lv' := [(3, .int (iI (k + 1))), (5, .int (iI (coS σ p k))), (4, .int (iI (2 * p + k))), (2, .int (iI p)), (1, .int (iI m)), (0, .ref (o 0))]) E.1 E.2 dX6_correctAccounts_60 hl (k := 2) rfl (iI_add _ _) (by decide) rfl (fun ls hl => ?_)
            refine lv_goto (pc := 63) (tgt := 12) E.1 E.2 dX6_correctAccounts_63 (by decide) ?_
            exact ihL12 m (k + 1) (by omega) (by rw [hm, show (2 * p + (k + 1)).toNat = (2 * p + k + 1).toNat by congr 1; omega, cn_s _ (by omega)]; unfold wrP; rw [e1, e2]; first | (rw [if_pos (by omega)]; omega) | (rw [if_neg (by omega)])) (by omega)  _ _ (by rw [show 2 * p + (k + 1) = 2 * p + k + 1 by omega, reA_e (by omega) (by rw [e1, e2]; omega)]; exact hST) hS ls (lv_sub hl [0, 3, 4, 5] rfl)
          · refine lv_aload_n (pc := 46) E.1 E.2 dX6_correctAccounts_46 rfl (lv_at hl 5 rfl) ?_
            refine g6_2 (pc := 47) E hts hin6 hown hK hST.1 (hts _ (List.mem_of_getElem? (i := 1) rfl)) dX6_correctAccounts_47 ?_
            refine lv_iload (pc := 50) E.1 E.2 dX6_correctAccounts_50 (lv_at hl 1 rfl) ?_
            refine lv_iload (pc := 52) E.1 E.2 dX6_correctAccounts_52 (lv_at hl 0 rfl) ?_
            refine z_wVv (pc := 54) (As := [.int (iI (2 * p + k)), .int (iI (coS σ p k))]) (rest := []) E hml hown hts (mX0_setAmount lL G (fun k => o (8 + k)) (reA σ (2 * p + k)) (2 * p + k) (coS σ p k)  (by omega) (by omega)) (cwV 2 hts gX6_correctAccounts_X0_setAmount rfl rfl rfl vdX0_setAmount ⟨Nat.le_of_ble_eq_true rfl, Nat.le_of_ble_eq_true rfl⟩) (oB.recv hK hST.aco rfl) hST.ac hK hS (Ap.up (by decide)) rfl hl.1 rfl dX6_correctAccounts_54 hcs (Nat.le_of_ble_eq_true rfl) (fun H locs hnew hsz hoth hS => ?_)
            have hST := ST.upAC hST hnew (fun q h1 h2 => hoth q h1 h2) (fun j hj => by first | rw [zu_n _ _ (by omega)] | rw [zu_n _ _ (by omega), zu_n _ _ (by omega)])
            refine lv_iinc (pc := 57) (v := iI (m + 1)) (lv' := [(1, .int (iI (m + 1))), (5, .int (iI (coS σ p k))), (4, .int (iI (2 * p + k))), (3, .int (iI k)), (2, .int (iI p)), (0, .ref (o 0))]) E.1 E.2 dX6_correctAccounts_57 hl (k := 4) rfl (iI_add _ _) (by decide) rfl (fun ls hl => ?_)
            refine lv_iinc (pc := 60) (v := iI (k + 1)) (lv' := [(3, .int (iI (k + 1))), (1, .int (iI (m + 1))), (5, .int (iI (coS σ p k))), (4, .int (iI (2 * p + k))), (2, .int (iI p)), (0, .ref (o 0))]) E.1 E.2 dX6_correctAccounts_60 hl (k := 3) rfl (iI_add _ _) (by decide) rfl (fun ls hl => ?_)
            refine lv_goto (pc := 63) (tgt := 12) E.1 E.2 dX6_correctAccounts_63 (by decide) ?_
            exact ihL12 (m + 1) (k + 1) (by omega) (by rw [hm, show (2 * p + (k + 1)).toNat = (2 * p + k + 1).toNat by congr 1; omega, cn_s _ (by omega)]; unfold wrP; rw [e1, e2]; first | (rw [if_pos (by omega)]; omega) | (rw [if_neg (by omega)])) (by omega)  _ _ (by rw [show 2 * p + (k + 1) = 2 * p + k + 1 by omega, ← reA_s σ (by omega), e1, e2]; exact hST) hS ls (lv_sub hl [0, 4, 1, 5] rfl)
