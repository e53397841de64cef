theorem vdX3_setParent : yX3_setParent.cls = RX3 ∧ yX3_setParent.cls ≠ "java/lang/invoke/MethodHandle" ∧ yX3_setParent.cls ≠ "java/lang/invoke/VarHandle" ∧ (parseMethodDescriptor yX3_setParent.desc).map (fun d => d.parameters.length) = some 2 := by decide +kernel
theorem vdX3_setTag : yX3_setTag.cls = RX3 ∧ yX3_setTag.cls ≠ "java/lang/invoke/MethodHandle" ∧ yX3_setTag.cls ≠ "java/lang/invoke/VarHandle" ∧ (parseMethodDescriptor yX3_setTag.desc).map (fun d => d.parameters.length) = some 2 := by decide +kernel
theorem vdX2_setPlace : yX2_setPlace.cls = RX2 ∧ yX2_setPlace.cls ≠ "java/lang/invoke/MethodHandle" ∧ yX2_setPlace.cls ≠ "java/lang/invoke/VarHandle" ∧ (parseMethodDescriptor yX2_setPlace.desc).map (fun d => d.parameters.length) = some 2 := by decide +kernel
theorem vdX2_setSize : yX2_setSize.cls = RX2 ∧ yX2_setSize.cls ≠ "java/lang/invoke/MethodHandle" ∧ yX2_setSize.cls ≠ "java/lang/invoke/VarHandle" ∧ (parseMethodDescriptor yX2_setSize.desc).map (fun d => d.parameters.length) = some 2 := by decide +kernel
theorem vdX0_setAmount : yX0_setAmount.cls = RX0 ∧ yX0_setAmount.cls ≠ "java/lang/invoke/MethodHandle" ∧ yX0_setAmount.cls ≠ "java/lang/invoke/VarHandle" ∧ (parseMethodDescriptor yX0_setAmount.desc).map (fun d => d.parameters.length) = some 2 := by decide +kernel
theorem vdX0_setClock : yX0_setClock.cls = RX0 ∧ yX0_setClock.cls ≠ "java/lang/invoke/MethodHandle" ∧ yX0_setClock.cls ≠ "java/lang/invoke/VarHandle" ∧ (parseMethodDescriptor yX0_setClock.desc).map (fun d => d.parameters.length) = some 2 := by decide +kernel
theorem vdX0_setLimits : yX0_setLimits.cls = RX0 ∧ yX0_setLimits.cls ≠ "java/lang/invoke/MethodHandle" ∧ yX0_setLimits.cls ≠ "java/lang/invoke/VarHandle" ∧ (parseMethodDescriptor yX0_setLimits.desc).map (fun d => d.parameters.length) = some 3 := by decide +kernel
theorem vdX0_add : yX0_add.cls = RX0 ∧ yX0_add.cls ≠ "java/lang/invoke/MethodHandle" ∧ yX0_add.cls ≠ "java/lang/invoke/VarHandle" ∧ (parseMethodDescriptor yX0_add.desc).map (fun d => d.parameters.length) = some 2 := by decide +kernel
theorem vdX0_change : yX0_change.cls = RX0 ∧ yX0_change.cls ≠ "java/lang/invoke/MethodHandle" ∧ yX0_change.cls ≠ "java/lang/invoke/VarHandle" ∧ (parseMethodDescriptor yX0_change.desc).map (fun d => d.parameters.length) = some 3 := by decide +kernel
theorem vdX0_transfer : yX0_transfer.cls = RX0 ∧ yX0_transfer.cls ≠ "java/lang/invoke/MethodHandle" ∧ yX0_transfer.cls ≠ "java/lang/invoke/VarHandle" ∧ (parseMethodDescriptor yX0_transfer.desc).map (fun d => d.parameters.length) = some 4 := by decide +kernel
theorem vdX3_add : yX3_add.cls = RX3 ∧ yX3_add.cls ≠ "java/lang/invoke/MethodHandle" ∧ yX3_add.cls ≠ "java/lang/invoke/VarHandle" ∧ (parseMethodDescriptor yX3_add.desc).map (fun d => d.parameters.length) = some 2 := by decide +kernel
theorem vdX2_add : yX2_add.cls = RX2 ∧ yX2_add.cls ≠ "java/lang/invoke/MethodHandle" ∧ yX2_add.cls ≠ "java/lang/invoke/VarHandle" ∧ (parseMethodDescriptor yX2_add.desc).map (fun d => d.parameters.length) = some 2 := by decide +kernel
theorem vdX4_add : yX4_add.cls = RX4 ∧ yX4_add.cls ≠ "java/lang/invoke/MethodHandle" ∧ yX4_add.cls ≠ "java/lang/invoke/VarHandle" ∧ (parseMethodDescriptor yX4_add.desc).map (fun d => d.parameters.length) = some 4 := by decide +kernel
theorem vdX2_removeAt : yX2_removeAt.cls = RX2 ∧ yX2_removeAt.cls ≠ "java/lang/invoke/MethodHandle" ∧ yX2_removeAt.cls ≠ "java/lang/invoke/VarHandle" ∧ (parseMethodDescriptor yX2_removeAt.desc).map (fun d => d.parameters.length) = some 1 := by decide +kernel
theorem vdX4_removeAt : yX4_removeAt.cls = RX4 ∧ yX4_removeAt.cls ≠ "java/lang/invoke/MethodHandle" ∧ yX4_removeAt.cls ≠ "java/lang/invoke/VarHandle" ∧ (parseMethodDescriptor yX4_removeAt.desc).map (fun d => d.parameters.length) = some 1 := by decide +kernel
theorem vdX3_removeAt : yX3_removeAt.cls = RX3 ∧ yX3_removeAt.cls ≠ "java/lang/invoke/MethodHandle" ∧ yX3_removeAt.cls ≠ "java/lang/invoke/VarHandle" ∧ (parseMethodDescriptor yX3_removeAt.desc).map (fun d => d.parameters.length) = some 1 := by decide +kernel
theorem vdX2_closeGap : yX2_closeGap.cls = RX2 ∧ yX2_closeGap.cls ≠ "java/lang/invoke/MethodHandle" ∧ yX2_closeGap.cls ≠ "java/lang/invoke/VarHandle" ∧ (parseMethodDescriptor yX2_closeGap.desc).map (fun d => d.parameters.length) = some 1 := by decide +kernel
set_option maxHeartbeats 1000000 in
set_option maxRecDepth 100000 in
theorem mX3_setParent (lL : Launch) (G : GG) (o : Nat → Nat) (σ : Int → Int) (f : Int) (x : Int) (hI : In σ) (hf : 0 ≤ f ∧ f < σ 2) (hx : -2147483648 ≤ x ∧ x < 2147483648) : Met lL yX3_setParent wsX3_setParent ({ frames := 1, cells := 0, slots := 0, locals := 21 } : Room) (va_Pc [.ref (o 0), .int (iI f), .int (iI x)] (fun U => FO G o σ U.heap ∧ KK G U)) (va_Qv (fun _ : Unit => True) (fun _ tZ => FO G o (zu σ (69 + f) x) tZ.heap) (Ax o 4)) 0 0 (Ax o 4) := by
  refine z_met (P := (fun H : Heap => FO G o σ H)) (by decide) rfl (Nat.le_of_ble_eq_true rfl) (fun pp ee ss mm below meth cC E hr hml hown hts hlocks hFO hK ls hl => ?_)
  have hl : lv_has ls 3 [(0, .ref (o 0)), (1, .int (iI f)), (2, .int (iI x))] := hl
  have hcs : 0 ≤ (({ frames := 1, cells := 0, slots := 0, locals := 21 } : Room)).cells ∧ 0 ≤ (({ frames := 1, cells := 0, slots := 0, locals := 21 } : Room)).slots := ⟨Nat.zero_le _, Nat.zero_le _⟩
  have hS : va_S (Ax o 4) ss.heap ss.heap [] := va_S.rf
  have hin3 : ∀ w ∈ wsX30, w ∈ wsX3_setParent := fun w h => List.mem_cons_of_mem _ (List.mem_append_right _ (h))
  obtain ⟨pa, na, ta, hM, hs⟩ := id hFO
  have hF := hI.F
  have hMm := hI.M
  have hGn := hI.Gn
  refine lv_aload_n (pc := 0) E.1 E.2 dX3_setParent_0 rfl (lv_at hl 0 rfl) ?_
  refine lv_iload_n (pc := 1) E.1 E.2 dX3_setParent_1 rfl (lv_at hl 1 rfl) ?_
  refine z_rVi (pc := 2) (As := [.int (iI f)]) (rest := []) E hml hown hts (mX3_has lL G o σ f hI (by omega)) (cwV 1 hts gX3_setParent_X3_has rfl rfl rfl vdX3_has ⟨Nat.le_of_ble_eq_true rfl, Nat.le_of_ble_eq_true rfl⟩) (oB.recv hK hM.1 rfl) hFO hK rfl hl.1 rfl dX3_setParent_2 hcs (Nat.le_of_ble_eq_true rfl) ?_
  refine z_ifb_eq (pc := 5) (tgt := 15) E dX3_setParent_5 (by decide) (fun h5 => ?_) (fun h5 => ?_)
  · exact absurd hf h5
  · refine lv_aload_n (pc := 8) E.1 E.2 dX3_setParent_8 rfl (lv_at hl 0 rfl) ?_
    refine g3_0 (pc := 9) E hts hin3 hown hK hM.1 (hts _ (List.mem_of_getElem? (i := 1) rfl)) dX3_setParent_9 ?_
    refine lv_iload_n (pc := 12) E.1 E.2 dX3_setParent_12 rfl (lv_at hl 1 rfl) ?_
    refine lv_iload_n (pc := 13) E.1 E.2 dX3_setParent_13 rfl (lv_at hl 2 rfl) ?_
    refine z_iastore (pc := 14) E hK hM.2.1 hS (Ax.at 1 (by decide)) ⟨by omega, by omega⟩ (by decide) dX3_setParent_14 (fun H locs hnew hoth hS => ?_)
    have hM := FOr.a1 hM hnew (fun a _ h => hoth a h)
    exact z_retWv E hr ⟨(zu pa f x), na, ta, (by rw [zu_n _ _ (by omega)]; exact hM), fun j j0 j1 => by have j1 := j1; rw [zu_n _ _ (by omega)] at j1; have q := hs j j0 j1; unfold zu; refine ⟨?_, ?_, ?_⟩ <;> (repeat' split) <;> first | rfl | omega | exact q.1 | exact q.2.1 | exact q.2.2⟩ hS hlocks dX3_setParent_15
set_option maxHeartbeats 1000000 in
set_option maxRecDepth 100000 in
theorem mX3_setTag (lL : Launch) (G : GG) (o : Nat → Nat) (σ : Int → Int) (f : Int) (x : Int) (hI : In σ) (hf : 0 ≤ f ∧ f < σ 2) (hx : -2147483648 ≤ x ∧ x < 2147483648) : Met lL yX3_setTag wsX3_setTag ({ frames := 1, cells := 0, slots := 0, locals := 21 } : Room) (va_Pc [.ref (o 0), .int (iI f), .int (iI x)] (fun U => FO G o σ U.heap ∧ KK G U)) (va_Qv (fun _ : Unit => True) (fun _ tZ => FO G o (zu σ (109 + f) x) tZ.heap) (Ax o 4)) 0 0 (Ax o 4) := by
  refine z_met (P := (fun H : Heap => FO G o σ H)) (by decide) rfl (Nat.le_of_ble_eq_true rfl) (fun pp ee ss mm below meth cC E hr hml hown hts hlocks hFO hK ls hl => ?_)
  have hl : lv_has ls 3 [(0, .ref (o 0)), (1, .int (iI f)), (2, .int (iI x))] := hl
  have hcs : 0 ≤ (({ frames := 1, cells := 0, slots := 0, locals := 21 } : Room)).cells ∧ 0 ≤ (({ frames := 1, cells := 0, slots := 0, locals := 21 } : Room)).slots := ⟨Nat.zero_le _, Nat.zero_le _⟩
  have hS : va_S (Ax o 4) ss.heap ss.heap [] := va_S.rf
  have hin3 : ∀ w ∈ wsX30, w ∈ wsX3_setTag := fun w h => List.mem_cons_of_mem _ (List.mem_append_right _ (h))
  obtain ⟨pa, na, ta, hM, hs⟩ := id hFO
  have hF := hI.F
  have hMm := hI.M
  have hGn := hI.Gn
  refine lv_aload_n (pc := 0) E.1 E.2 dX3_setTag_0 rfl (lv_at hl 0 rfl) ?_
  refine lv_iload_n (pc := 1) E.1 E.2 dX3_setTag_1 rfl (lv_at hl 1 rfl) ?_
  refine z_rVi (pc := 2) (As := [.int (iI f)]) (rest := []) E hml hown hts (mX3_has lL G o σ f hI (by omega)) (cwV 1 hts gX3_setTag_X3_has rfl rfl rfl vdX3_has ⟨Nat.le_of_ble_eq_true rfl, Nat.le_of_ble_eq_true rfl⟩) (oB.recv hK hM.1 rfl) hFO hK rfl hl.1 rfl dX3_setTag_2 hcs (Nat.le_of_ble_eq_true rfl) ?_
  refine z_ifb_eq (pc := 5) (tgt := 15) E dX3_setTag_5 (by decide) (fun h5 => ?_) (fun h5 => ?_)
  · exact absurd hf h5
  · refine lv_aload_n (pc := 8) E.1 E.2 dX3_setTag_8 rfl (lv_at hl 0 rfl) ?_
    refine g3_2 (pc := 9) E hts hin3 hown hK hM.1 (hts _ (List.mem_of_getElem? (i := 1) rfl)) dX3_setTag_9 ?_
    refine lv_iload_n (pc := 12) E.1 E.2 dX3_setTag_12 rfl (lv_at hl 1 rfl) ?_
    refine lv_iload_n (pc := 13) E.1 E.2 dX3_setTag_13 rfl (lv_at hl 2 rfl) ?_
    refine z_iastore (pc := 14) E hK hM.2.2.2.1 hS (Ax.at 3 (by decide)) ⟨by omega, by omega⟩ (by decide) dX3_setTag_14 (fun H locs hnew hoth hS => ?_)
    have hM := FOr.a3 hM hnew (fun a _ h => hoth a h)
    exact z_retWv E hr ⟨pa, na, (zu ta f x), (by rw [zu_n _ _ (by omega)]; exact hM), fun j j0 j1 => by have j1 := j1; rw [zu_n _ _ (by omega)] at j1; have q := hs j j0 j1; unfold zu; refine ⟨?_, ?_, ?_⟩ <;> (repeat' split) <;> first | rfl | omega | exact q.1 | exact q.2.1 | exact q.2.2⟩ hS hlocks dX3_setTag_15
set_option maxHeartbeats 1000000 in
set_option maxRecDepth 100000 in
theorem mX2_setPlace (lL : Launch) (G : GG) (o : Nat → Nat) (σ : Int → Int) (f : Int) (x : Int) (hI : In σ) (hf : 0 ≤ f ∧ f < σ 3) (hx : -2147483648 ≤ x ∧ x < 2147483648) : Met lL yX2_setPlace wsX2_setPlace ({ frames := 1, cells := 0, slots := 0, locals := 21 } : Room) (va_Pc [.ref (o 0), .int (iI f), .int (iI x)] (fun U => FI G o σ U.heap ∧ KK G U)) (va_Qv (fun _ : Unit => True) (fun _ tZ => FI G o (zu σ (189 + f) x) tZ.heap) (Ax o 3)) 0 0 (Ax o 3) := by
  refine z_met (P := (fun H : Heap => FI G o σ H)) (by decide) rfl (Nat.le_of_ble_eq_true rfl) (fun pp ee ss mm below meth cC E hr hml hown hts hlocks hFO hK ls hl => ?_)
  have hl : lv_has ls 3 [(0, .ref (o 0)), (1, .int (iI f)), (2, .int (iI x))] := hl
  have hcs : 0 ≤ (({ frames := 1, cells := 0, slots := 0, locals := 21 } : Room)).cells ∧ 0 ≤ (({ frames := 1, cells := 0, slots := 0, locals := 21 } : Room)).slots := ⟨Nat.zero_le _, Nat.zero_le _⟩
  have hS : va_S (Ax o 3) ss.heap ss.heap [] := va_S.rf
  have hin2 : ∀ w ∈ wsX20, w ∈ wsX2_setPlace := fun w h => List.mem_cons_of_mem _ (List.mem_append_right _ (h))
  obtain ⟨pl, sz, hM, hs⟩ := id hFO
  have hF := hI.F
  have hMm := hI.M
  have hGn := hI.Gn
  refine lv_aload_n (pc := 0) E.1 E.2 dX2_setPlace_0 rfl (lv_at hl 0 rfl) ?_
  refine lv_iload_n (pc := 1) E.1 E.2 dX2_setPlace_1 rfl (lv_at hl 1 rfl) ?_
  refine z_rVi (pc := 2) (As := [.int (iI f)]) (rest := []) E hml hown hts (mX2_has lL G o σ f hI (by omega)) (cwV 1 hts gX2_setPlace_X2_has rfl rfl rfl vdX2_has ⟨Nat.le_of_ble_eq_true rfl, Nat.le_of_ble_eq_true rfl⟩) (oB.recv hK hM.1 rfl) hFO hK rfl hl.1 rfl dX2_setPlace_2 hcs (Nat.le_of_ble_eq_true rfl) ?_
  refine z_ifb_eq (pc := 5) (tgt := 15) E dX2_setPlace_5 (by decide) (fun h5 => ?_) (fun h5 => ?_)
  · exact absurd hf h5
  · refine lv_aload_n (pc := 8) E.1 E.2 dX2_setPlace_8 rfl (lv_at hl 0 rfl) ?_
    refine g2_0 (pc := 9) E hts hin2 hown hK hM.1 (hts _ (List.mem_of_getElem? (i := 1) rfl)) dX2_setPlace_9 ?_
    refine lv_iload_n (pc := 12) E.1 E.2 dX2_setPlace_12 rfl (lv_at hl 1 rfl) ?_
    refine lv_iload_n (pc := 13) E.1 E.2 dX2_setPlace_13 rfl (lv_at hl 2 rfl) ?_
    refine z_iastore (pc := 14) E hK hM.2.1 hS (Ax.at 1 (by decide)) ⟨by omega, by omega⟩ (by decide) dX2_setPlace_14 (fun H locs hnew hoth hS => ?_)
    have hM := FIr.a1 hM hnew (fun a _ h => hoth a h)
    exact z_retWv E hr ⟨(zu pl f x), sz, (by rw [zu_n _ _ (by omega)]; exact hM), fun j j0 j1 => by have j1 := j1; rw [zu_n _ _ (by omega)] at j1; have q := hs j j0 j1; unfold zu; refine ⟨?_, ?_⟩ <;> (repeat' split) <;> first | rfl | omega | exact q.1 | exact q.2⟩ hS hlocks dX2_setPlace_15
set_option maxHeartbeats 1000000 in
set_option maxRecDepth 100000 in
theorem mX2_setSize (lL : Launch) (G : GG) (o : Nat → Nat) (σ : Int → Int) (f : Int) (x : Int) (hI : In σ) (hf : 0 ≤ f ∧ f < σ 3) (hx : -2147483648 ≤ x ∧ x < 2147483648) : Met lL yX2_setSize wsX2_setSize ({ frames := 1, cells := 0, slots := 0, locals := 21 } : Room) (va_Pc [.ref (o 0), .int (iI f), .int (iI x)] (fun U => FI G o σ U.heap ∧ KK G U)) (va_Qv (fun _ : Unit => True) (fun _ tZ => FI G o (zu σ (249 + f) x) tZ.heap) (Ax o 3)) 0 0 (Ax o 3) := by
  refine z_met (P := (fun H : Heap => FI G o σ H)) (by decide) rfl (Nat.le_of_ble_eq_true rfl) (fun pp ee ss mm below meth cC E hr hml hown hts hlocks hFO hK ls hl => ?_)
  have hl : lv_has ls 3 [(0, .ref (o 0)), (1, .int (iI f)), (2, .int (iI x))] := hl
  have hcs : 0 ≤ (({ frames := 1, cells := 0, slots := 0, locals := 21 } : Room)).cells ∧ 0 ≤ (({ frames := 1, cells := 0, slots := 0, locals := 21 } : Room)).slots := ⟨Nat.zero_le _, Nat.zero_le _⟩
  have hS : va_S (Ax o 3) ss.heap ss.heap [] := va_S.rf
  have hin2 : ∀ w ∈ wsX20, w ∈ wsX2_setSize := fun w h => List.mem_cons_of_mem _ (List.mem_append_right _ (h))
  obtain ⟨pl, sz, hM, hs⟩ := id hFO
  have hF := hI.F
  have hMm := hI.M
  have hGn := hI.Gn
  refine lv_aload_n (pc := 0) E.1 E.2 dX2_setSize_0 rfl (lv_at hl 0 rfl) ?_
  refine lv_iload_n (pc := 1) E.1 E.2 dX2_setSize_1 rfl (lv_at hl 1 rfl) ?_
  refine z_rVi (pc := 2) (As := [.int (iI f)]) (rest := []) E hml hown hts (mX2_has lL G o σ f hI (by omega)) (cwV 1 hts gX2_setSize_X2_has rfl rfl rfl vdX2_has ⟨Nat.le_of_ble_eq_true rfl, Nat.le_of_ble_eq_true rfl⟩) (oB.recv hK hM.1 rfl) hFO hK rfl hl.1 rfl dX2_setSize_2 hcs (Nat.le_of_ble_eq_true rfl) ?_
  refine z_ifb_eq (pc := 5) (tgt := 15) E dX2_setSize_5 (by decide) (fun h5 => ?_) (fun h5 => ?_)
  · exact absurd hf h5
  · refine lv_aload_n (pc := 8) E.1 E.2 dX2_setSize_8 rfl (lv_at hl 0 rfl) ?_
    refine g2_1 (pc := 9) E hts hin2 hown hK hM.1 (hts _ (List.mem_of_getElem? (i := 1) rfl)) dX2_setSize_9 ?_
    refine lv_iload_n (pc := 12) E.1 E.2 dX2_setSize_12 rfl (lv_at hl 1 rfl) ?_
    refine lv_iload_n (pc := 13) E.1 E.2 dX2_setSize_13 rfl (lv_at hl 2 rfl) ?_
    refine z_iastore (pc := 14) E hK hM.2.2.1 hS (Ax.at 2 (by decide)) ⟨by omega, by omega⟩ (by decide) dX2_setSize_14 (fun H locs hnew hoth hS => ?_)
    have hM := FIr.a2 hM hnew (fun a _ h => hoth a h)
    exact z_retWv E hr ⟨pl, (zu sz f x), (by rw [zu_n _ _ (by omega)]; exact hM), fun j j0 j1 => by have j1 := j1; rw [zu_n _ _ (by omega)] at j1; have q := hs j j0 j1; unfold zu; refine ⟨?_, ?_⟩ <;> (repeat' split) <;> first | rfl | omega | exact q.1 | exact q.2⟩ hS hlocks dX2_setSize_15
set_option maxHeartbeats 1000000 in
set_option maxRecDepth 100000 in
theorem mX0_setAmount (lL : Launch) (G : GG) (o : Nat → Nat) (σ : Int → Int) (a : Int) (x : Int) (ha : 0 ≤ a ∧ a < 16) (hx : -2147483648 ≤ x ∧ x < 2147483648) : Met lL yX0_setAmount wsX0_setAmount ({ frames := 0, cells := 0, slots := 0, locals := 0 } : Room) (va_Pc [.ref (o 0), .int (iI a), .int (iI x)] (fun U => AC G o σ U.heap ∧ KK G U)) (va_Qv (fun _ : Unit => True) (fun _ tZ => AC G o (zu σ (37 + a) x) tZ.heap) (Ax o 5)) 0 0 (Ax o 5) := by
  refine z_met (P := (fun H : Heap => AC G o σ H)) (by decide) rfl (Nat.le_of_ble_eq_true rfl) (fun pp ee ss mm below meth cC E hr hml hown hts hlocks hFO hK ls hl => ?_)
  have hl : lv_has ls 3 [(0, .ref (o 0)), (1, .int (iI a)), (2, .int (iI x))] := hl
  have hcs : 0 ≤ (({ frames := 0, cells := 0, slots := 0, locals := 0 } : Room)).cells ∧ 0 ≤ (({ frames := 0, cells := 0, slots := 0, locals := 0 } : Room)).slots := ⟨Nat.zero_le _, Nat.zero_le _⟩
  have hS : va_S (Ax o 5) ss.heap ss.heap [] := va_S.rf
  have hin0 : ∀ w ∈ wsX00, w ∈ wsX0_setAmount := fun w h => List.mem_cons_of_mem _ (List.mem_append_right _ (h))
  obtain ⟨am, so, ha, cl, hM, hs⟩ := id hFO
  refine lv_iload_n (pc := 0) E.1 E.2 dX0_setAmount_0 rfl (lv_at hl 1 rfl) ?_
  refine z_if_lt (pc := 1) (tgt := 17) E ⟨by omega, by omega⟩ dX0_setAmount_1 (by decide) (fun h1 => ?_) (fun h1 => ?_)
  · exact absurd h1 (by omega)
  · refine lv_iload_n (pc := 4) E.1 E.2 dX0_setAmount_4 rfl (lv_at hl 1 rfl) ?_
    refine z_bipush (pc := 5) E (by decide) dX0_setAmount_5 ?_
    refine z_icmp_ge (pc := 7) (tgt := 17) E ⟨by omega, by omega⟩ (by decide) dX0_setAmount_7 (by decide) (fun h7 => ?_) (fun h7 => ?_)
    · exact absurd h7 (by omega)
    · refine lv_aload_n (pc := 10) E.1 E.2 dX0_setAmount_10 rfl (lv_at hl 0 rfl) ?_
      refine g0_0 (pc := 11) E hts hin0 hown hK hM.1 (hts _ (List.mem_of_getElem? (i := 1) rfl)) dX0_setAmount_11 ?_
      refine lv_iload_n (pc := 14) E.1 E.2 dX0_setAmount_14 rfl (lv_at hl 1 rfl) ?_
      refine lv_iload_n (pc := 15) E.1 E.2 dX0_setAmount_15 rfl (lv_at hl 2 rfl) ?_
      refine z_iastore (pc := 16) E hK hM.2.1 hS (Ax.at 1 (by decide)) ⟨by omega, by omega⟩ (by decide) dX0_setAmount_16 (fun H locs hnew hoth hS => ?_)
      have hM := ACr.a1 hM hnew (fun a _ h => hoth a h)
      exact z_retWv E hr ⟨(zu am a x), so, ha, cl, hM, fun j j0 j1 => by have j1 := j1; skip; have q := hs j j0 j1; unfold zu; refine ⟨?_, ?_, ?_, ?_⟩ <;> (repeat' split) <;> first | rfl | omega | exact q.1 | exact q.2.1 | exact q.2.2.1 | exact q.2.2.2⟩ hS hlocks dX0_setAmount_17
set_option maxHeartbeats 1000000 in
set_option maxRecDepth 100000 in
theorem mX0_setClock (lL : Launch) (G : GG) (o : Nat → Nat) (σ : Int → Int) (a : Int) (x : Int) (ha : 0 ≤ a ∧ a < 16) (hx : -2147483648 ≤ x ∧ x < 2147483648) : Met lL yX0_setClock wsX0_setClock ({ frames := 0, cells := 0, slots := 0, locals := 0 } : Room) (va_Pc [.ref (o 0), .int (iI a), .int (iI x)] (fun U => AC G o σ U.heap ∧ KK G U)) (va_Qv (fun _ : Unit => True) (fun _ tZ => AC G o (zu σ (53 + a) x) tZ.heap) (Ax o 5)) 0 0 (Ax o 5) := by
  refine z_met (P := (fun H : Heap => AC G o σ H)) (by decide) rfl (Nat.le_of_ble_eq_true rfl) (fun pp ee ss mm below meth cC E hr hml hown hts hlocks hFO hK ls hl => ?_)
  have hl : lv_has ls 3 [(0, .ref (o 0)), (1, .int (iI a)), (2, .int (iI x))] := hl
  have hcs : 0 ≤ (({ frames := 0, cells := 0, slots := 0, locals := 0 } : Room)).cells ∧ 0 ≤ (({ frames := 0, cells := 0, slots := 0, locals := 0 } : Room)).slots := ⟨Nat.zero_le _, Nat.zero_le _⟩
  have hS : va_S (Ax o 5) ss.heap ss.heap [] := va_S.rf
  have hin0 : ∀ w ∈ wsX00, w ∈ wsX0_setClock := fun w h => List.mem_cons_of_mem _ (List.mem_append_right _ (h))
  obtain ⟨am, so, ha, cl, hM, hs⟩ := id hFO
  refine lv_iload_n (pc := 0) E.1 E.2 dX0_setClock_0 rfl (lv_at hl 1 rfl) ?_
  refine z_if_lt (pc := 1) (tgt := 17) E ⟨by omega, by omega⟩ dX0_setClock_1 (by decide) (fun h1 => ?_) (fun h1 => ?_)
  · exact absurd h1 (by omega)
  · refine lv_iload_n (pc := 4) E.1 E.2 dX0_setClock_4 rfl (lv_at hl 1 rfl) ?_
    refine z_bipush (pc := 5) E (by decide) dX0_setClock_5 ?_
    refine z_icmp_ge (pc := 7) (tgt := 17) E ⟨by omega, by omega⟩ (by decide) dX0_setClock_7 (by decide) (fun h7 => ?_) (fun h7 => ?_)
    · exact absurd h7 (by omega)
    · refine lv_aload_n (pc := 10) E.1 E.2 dX0_setClock_10 rfl (lv_at hl 0 rfl) ?_
      refine g0_3 (pc := 11) E hts hin0 hown hK hM.1 (hts _ (List.mem_of_getElem? (i := 1) rfl)) dX0_setClock_11 ?_
      refine lv_iload_n (pc := 14) E.1 E.2 dX0_setClock_14 rfl (lv_at hl 1 rfl) ?_
      refine lv_iload_n (pc := 15) E.1 E.2 dX0_setClock_15 rfl (lv_at hl 2 rfl) ?_
      refine z_iastore (pc := 16) E hK hM.2.2.2.2.1 hS (Ax.at 4 (by decide)) ⟨by omega, by omega⟩ (by decide) dX0_setClock_16 (fun H locs hnew hoth hS => ?_)
      have hM := ACr.a4 hM hnew (fun a _ h => hoth a h)
      exact z_retWv E hr ⟨am, so, ha, (zu cl a x), hM, fun j j0 j1 => by have j1 := j1; skip; have q := hs j j0 j1; unfold zu; refine ⟨?_, ?_, ?_, ?_⟩ <;> (repeat' split) <;> first | rfl | omega | exact q.1 | exact q.2.1 | exact q.2.2.1 | exact q.2.2.2⟩ hS hlocks dX0_setClock_17
set_option maxHeartbeats 1000000 in
set_option maxRecDepth 100000 in
theorem mX0_setLimits (lL : Launch) (G : GG) (o : Nat → Nat) (σ : Int → Int) (a : Int) (x : Int) (y : Int) (ha : 0 ≤ a ∧ a < 16) (hx : -2147483648 ≤ x ∧ x < 2147483648) (hy : -2147483648 ≤ y ∧ y < 2147483648) : Met lL yX0_setLimits wsX0_setLimits ({ frames := 0, cells := 0, slots := 0, locals := 0 } : Room) (va_Pc [.ref (o 0), .int (iI a), .int (iI x), .int (iI y)] (fun U => AC G o σ U.heap ∧ KK G U)) (va_Qv (fun _ : Unit => True) (fun _ tZ => AC G o (zu (zu σ (5 + a) x) (21 + a) y) tZ.heap) (Ax o 5)) 0 0 (Ax o 5) := by
  refine z_met (P := (fun H : Heap => AC G o σ H)) (by decide) rfl (Nat.le_of_ble_eq_true rfl) (fun pp ee ss mm below meth cC E hr hml hown hts hlocks hFO hK ls hl => ?_)
  have hl : lv_has ls 4 [(0, .ref (o 0)), (1, .int (iI a)), (2, .int (iI x)), (3, .int (iI y))] := hl
  have hcs : 0 ≤ (({ frames := 0, cells := 0, slots := 0, locals := 0 } : Room)).cells ∧ 0 ≤ (({ frames := 0, cells := 0, slots := 0, locals := 0 } : Room)).slots := ⟨Nat.zero_le _, Nat.zero_le _⟩
  have hS : va_S (Ax o 5) ss.heap ss.heap [] := va_S.rf
  have hin0 : ∀ w ∈ wsX00, w ∈ wsX0_setLimits := fun w h => List.mem_cons_of_mem _ (List.mem_append_right _ (h))
  obtain ⟨am, so, ha, cl, hM, hs⟩ := id hFO
  refine lv_iload_n (pc := 0) E.1 E.2 dX0_setLimits_0 rfl (lv_at hl 1 rfl) ?_
  refine z_if_lt (pc := 1) (tgt := 24) E ⟨by omega, by omega⟩ dX0_setLimits_1 (by decide) (fun h1 => ?_) (fun h1 => ?_)
  · exact absurd h1 (by omega)
  · refine lv_iload_n (pc := 4) E.1 E.2 dX0_setLimits_4 rfl (lv_at hl 1 rfl) ?_
    refine z_bipush (pc := 5) E (by decide) dX0_setLimits_5 ?_
    refine z_icmp_ge (pc := 7) (tgt := 24) E ⟨by omega, by omega⟩ (by decide) dX0_setLimits_7 (by decide) (fun h7 => ?_) (fun h7 => ?_)
    · exact absurd h7 (by omega)
    · refine lv_aload_n (pc := 10) E.1 E.2 dX0_setLimits_10 rfl (lv_at hl 0 rfl) ?_
      refine g0_1 (pc := 11) E hts hin0 hown hK hM.1 (hts _ (List.mem_of_getElem? (i := 1) rfl)) dX0_setLimits_11 ?_
      refine lv_iload_n (pc := 14) E.1 E.2 dX0_setLimits_14 rfl (lv_at hl 1 rfl) ?_
      refine lv_iload_n (pc := 15) E.1 E.2 dX0_setLimits_15 rfl (lv_at hl 2 rfl) ?_
      refine z_iastore (pc := 16) E hK hM.2.2.1 hS (Ax.at 2 (by decide)) ⟨by omega, by omega⟩ (by decide) dX0_setLimits_16 (fun H locs hnew hoth hS => ?_)
      have hM := ACr.a2 hM hnew (fun a _ h => hoth a h)
      refine lv_aload_n (pc := 17) E.1 E.2 dX0_setLimits_17 rfl (lv_at hl 0 rfl) ?_
      refine g0_2 (pc := 18) E hts hin0 hown hK hM.1 (hts _ (List.mem_of_getElem? (i := 2) rfl)) dX0_setLimits_18 ?_
      refine lv_iload_n (pc := 21) E.1 E.2 dX0_setLimits_21 rfl (lv_at hl 1 rfl) ?_
      refine lv_iload_n (pc := 22) E.1 E.2 dX0_setLimits_22 rfl (lv_at hl 3 rfl) ?_
      refine z_iastore (pc := 23) E hK hM.2.2.2.1 hS (Ax.at 3 (by decide)) ⟨by omega, by omega⟩ (by decide) dX0_setLimits_23 (fun H locs hnew hoth hS => ?_)
      have hM := ACr.a3 hM hnew (fun a _ h => hoth a h)
      exact z_retWv E hr ⟨am, (zu so a x), (zu ha a y), cl, hM, fun j j0 j1 => by have j1 := j1; skip; have q := hs j j0 j1; unfold zu; refine ⟨?_, ?_, ?_, ?_⟩ <;> (repeat' split) <;> first | rfl | omega | exact q.1 | exact q.2.1 | exact q.2.2.1 | exact q.2.2.2⟩ hS hlocks dX0_setLimits_24
set_option maxHeartbeats 1000000 in
set_option maxRecDepth 100000 in
theorem mX0_add (lL : Launch) (G : GG) (o : Nat → Nat) (σ : Int → Int) (a : Int) (x : Int) (ha : 0 ≤ a ∧ a < 16) (hx : -1000000 ≤ x ∧ x ≤ 1000000) (hu : 0 ≤ σ (37 + a) ∧ σ (37 + a) ≤ 1100000000) : Met lL yX0_add wsX0_add ({ frames := 1, cells := 0, slots := 0, locals := 40 } : Room) (va_Pc [.ref (o 0), .int (iI a), .int (iI x)] (fun U => AC G o σ U.heap ∧ KK G U)) (va_Qv (fun _ : Unit => True) (fun _ tZ => AC G o (zu σ (37 + a) (max 0 (σ (37 + a) + x))) tZ.heap) (Ax o 5)) 0 0 (Ax o 5) := by
  refine z_met (P := (fun H : Heap => AC G o σ H)) (by decide) rfl (Nat.le_of_ble_eq_true rfl) (fun pp ee ss mm below meth cC E hr hml hown hts hlocks hFO hK ls hl => ?_)
  have hl : lv_has ls 3 [(0, .ref (o 0)), (1, .int (iI a)), (2, .int (iI x))] := hl
  have hcs : 0 ≤ (({ frames := 1, cells := 0, slots := 0, locals := 40 } : Room)).cells ∧ 0 ≤ (({ frames := 1, cells := 0, slots := 0, locals := 40 } : Room)).slots := ⟨Nat.zero_le _, Nat.zero_le _⟩
  have hS : va_S (Ax o 5) ss.heap ss.heap [] := va_S.rf
  refine lv_aload_n (pc := 0) E.1 E.2 dX0_add_0 rfl (lv_at hl 0 rfl) ?_
  refine lv_iload_n (pc := 1) E.1 E.2 dX0_add_1 rfl (lv_at hl 1 rfl) ?_
  refine lv_aload_n (pc := 2) E.1 E.2 dX0_add_2 rfl (lv_at hl 0 rfl) ?_
  refine lv_iload_n (pc := 3) E.1 E.2 dX0_add_3 rfl (lv_at hl 1 rfl) ?_
  refine z_rVi (pc := 4) (As := [.int (iI a)]) (rest := [.int (iI a), .ref (o 0)]) E hml hown hts (mX0_amountOf lL G o σ a  (by omega)) (cwV 1 hts gX0_add_X0_amountOf rfl rfl rfl vdX0_amountOf ⟨Nat.le_of_ble_eq_true rfl, Nat.le_of_ble_eq_true rfl⟩) (oB.recv hK hFO.ob rfl) hFO hK rfl hl.1 rfl dX0_add_4 hcs (Nat.le_of_ble_eq_true rfl) ?_
  rw [show (if 0 ≤ a ∧ a < 16 then σ (37 + a) else 0) = (σ (37 + a)) from (if_pos ha)]
  refine lv_iload_n (pc := 7) E.1 E.2 dX0_add_7 rfl (lv_at hl 2 rfl) ?_
  refine z_iadd (pc := 8) E dX0_add_8 ?_
  refine z_iconst (pc := 9) E dX0_add_9 ?_
  refine z_mmax (pc := 10) (rest := [.int (iI a), .ref (o 0)]) E (hml.trans hl.1.symm) hown (hts _ (List.mem_of_getElem? (i := 1) rfl)) (hts _ (List.mem_of_getElem? (i := 2) rfl)) (hts _ (List.mem_of_getElem? (i := 3) rfl)) (hts _ (List.mem_of_getElem? (i := 4) rfl)) (Nat.le_of_ble_eq_true rfl) (Nat.le_of_ble_eq_true rfl) hcs ⟨by omega, by omega⟩ (by decide) dX0_add_10 ?_
  rw [show (max ((σ (37 + a)) + x) 0) = (max 0 (σ (37 + a) + x)) from (Int.max_comm _ _)]
  refine z_wVv (pc := 13) (As := [.int (iI a), .int (iI (max 0 (σ (37 + a) + x)))]) (rest := []) E hml hown hts (mX0_setAmount lL G o σ a (max 0 (σ (37 + a) + x))  (by omega) (by omega)) (cwV 2 hts gX0_add_X0_setAmount rfl rfl rfl vdX0_setAmount ⟨Nat.le_of_ble_eq_true rfl, Nat.le_of_ble_eq_true rfl⟩) (oB.recv hK hFO.ob rfl) hFO hK hS (fun _ h => h) rfl hl.1 rfl dX0_add_13 hcs (Nat.le_of_ble_eq_true rfl) (fun H locs hnew hsz hoth hS => ?_)
  have hFO := hnew
  exact z_retWv E hr hFO hS hlocks dX0_add_16
set_option maxHeartbeats 1000000 in
set_option maxRecDepth 100000 in
theorem mX0_change (lL : Launch) (G : GG) (o : Nat → Nat) (σ : Int → Int) (p : Int) (b : Int) (n : Int) (hp : -1 ≤ p ∧ p ≤ 7) (hb : -1000000 ≤ b ∧ b ≤ 1000000) (hn : -1000000 ≤ n ∧ n ≤ 1000000) (hu : ∀ k, 0 ≤ k → k < 16 → 0 ≤ σ (37 + k) ∧ σ (37 + k) ≤ 1050000000) : Met lL yX0_change wsX0_change ({ frames := 2, cells := 0, slots := 0, locals := 62 } : Room) (va_Pc [.ref (o 0), .int (iI p), .int (iI b), .int (iI n)] (fun U => AC G o σ U.heap ∧ KK G U)) (va_Qv (fun _ : Unit => True) (fun _ tZ => AC G o (coA σ p b n) tZ.heap) (Ax o 5)) 0 0 (Ax o 5) := by
  refine z_met (P := (fun H : Heap => AC G o σ H)) (by decide) rfl (Nat.le_of_ble_eq_true rfl) (fun pp ee ss mm below meth cC E hr hml hown hts hlocks hFO hK ls hl => ?_)
  have hl : lv_has ls 4 [(0, .ref (o 0)), (1, .int (iI p)), (2, .int (iI b)), (3, .int (iI n))] := hl
  have hcs : 0 ≤ (({ frames := 2, cells := 0, slots := 0, locals := 62 } : Room)).cells ∧ 0 ≤ (({ frames := 2, cells := 0, slots := 0, locals := 62 } : Room)).slots := ⟨Nat.zero_le _, Nat.zero_le _⟩
  have hS : va_S (Ax o 5) ss.heap ss.heap [] := va_S.rf
  refine lv_iload_n (pc := 0) E.1 E.2 dX0_change_0 rfl (lv_at hl 1 rfl) ?_
  refine z_iconst (pc := 1) E dX0_change_1 ?_
  refine z_icmp_eq (pc := 2) (tgt := 25) E ⟨by omega, by omega⟩ (by decide) dX0_change_2 (by decide) (fun h2 => ?_) (fun h2 => ?_)
  · exact z_retWv E hr (by rw [show coA σ p b n = σ by unfold coA; rw [if_pos h2]]; exact hFO) hS hlocks dX0_change_25
  · refine lv_aload_n (pc := 5) E.1 E.2 dX0_change_5 rfl (lv_at hl 0 rfl) ?_
    refine lv_iload_n (pc := 6) E.1 E.2 dX0_change_6 rfl (lv_at hl 1 rfl) ?_
    refine z_iconst (pc := 7) E dX0_change_7 ?_
    refine z_rSNi (pc := 8) (P := fun _ => True) (As := [.int (iI p), .int (iI 0)]) (rest := [.ref (o 0)]) E hml hown hts (mX7_accountOf lL G p 0) ⟨va_cnB 2 hts gX0_change_X7_accountOf_n51 rfl rfl rfl hK.2.2.2.1 (hts _ (List.mem_of_getElem? (i := 2) rfl)) vdX7_accountOf.2 ⟨Nat.le_of_ble_eq_true rfl, Nat.le_of_ble_eq_true rfl⟩, (hts _ (List.mem_of_getElem? (i := 1) rfl)), trivial⟩ trivial hK rfl hl.1 rfl dX0_change_8 hcs (Nat.le_of_ble_eq_true rfl) ?_
    refine lv_iload_n (pc := 11) E.1 E.2 dX0_change_11 rfl (lv_at hl 2 rfl) ?_
    refine z_wVv (pc := 12) (As := [.int (iI (2 * p + 0)), .int (iI b)]) (rest := []) E hml hown hts (mX0_add lL G o σ (2 * p + 0) b  (by omega) (by omega) (by have q := hu (2 * p + 0) (by omega) (by omega); omega)) (cwV 2 hts gX0_change_X0_add rfl rfl rfl vdX0_add ⟨Nat.le_of_ble_eq_true rfl, Nat.le_of_ble_eq_true rfl⟩) (oB.recv hK hFO.ob rfl) hFO hK hS (fun _ h => h) rfl hl.1 rfl dX0_change_12 hcs (Nat.le_of_ble_eq_true rfl) (fun H locs hnew hsz hoth hS => ?_)
    have hFO := hnew
    refine lv_aload_n (pc := 15) E.1 E.2 dX0_change_15 rfl (lv_at hl 0 rfl) ?_
    refine lv_iload_n (pc := 16) E.1 E.2 dX0_change_16 rfl (lv_at hl 1 rfl) ?_
    refine z_iconst (pc := 17) E dX0_change_17 ?_
    refine z_rSNi (pc := 18) (P := fun _ => True) (As := [.int (iI p), .int (iI 1)]) (rest := [.ref (o 0)]) E hml hown hts (mX7_accountOf lL G p 1) ⟨va_cnB 2 hts gX0_change_X7_accountOf_n51 rfl rfl rfl hK.2.2.2.1 (hts _ (List.mem_of_getElem? (i := 2) rfl)) vdX7_accountOf.2 ⟨Nat.le_of_ble_eq_true rfl, Nat.le_of_ble_eq_true rfl⟩, (hts _ (List.mem_of_getElem? (i := 1) rfl)), trivial⟩ trivial hK rfl hl.1 rfl dX0_change_18 hcs (Nat.le_of_ble_eq_true rfl) ?_
    refine lv_iload_n (pc := 21) E.1 E.2 dX0_change_21 rfl (lv_at hl 3 rfl) ?_
    refine z_wVv (pc := 22) (As := [.int (iI (2 * p + 1)), .int (iI n)]) (rest := []) E hml hown hts (mX0_add lL G o (zu σ (37 + (2 * p + 0)) (max 0 (σ (37 + (2 * p + 0)) + b))) (2 * p + 1) n  (by omega) (by omega) (by have q := hu (2 * p + 1) (by omega) (by omega); rw [zu_n _ _ (by omega)]; omega)) (cwV 2 hts gX0_change_X0_add rfl rfl rfl vdX0_add ⟨Nat.le_of_ble_eq_true rfl, Nat.le_of_ble_eq_true rfl⟩) (oB.recv hK hFO.ob rfl) hFO hK hS (fun _ h => h) rfl hl.1 rfl dX0_change_22 hcs (Nat.le_of_ble_eq_true rfl) (fun H locs hnew hsz hoth hS => ?_)
    have hFO := hnew
    exact z_retWv E hr (by rw [show coA σ p b n = _ by unfold coA; rw [if_neg h2]]; rw [zu_n σ _ (show ¬ (37 + (2 * p + 1) : Int) = 37 + (2 * p + 0) by omega)] at hFO; exact hFO) hS hlocks dX0_change_25
set_option maxHeartbeats 1000000 in
set_option maxRecDepth 100000 in
theorem mX0_transfer (lL : Launch) (G : GG) (o : Nat → Nat) (σ : Int → Int) (a : Int) (t : Int) (b : Int) (n : Int) (ha : -1 ≤ a ∧ a ≤ 7) (ht : -1 ≤ t ∧ t ≤ 7) (hb : 0 ≤ b ∧ b ≤ 599940) (hn : 0 ≤ n ∧ n ≤ 599940) (hu : ∀ k, 0 ≤ k → k < 16 → 0 ≤ σ (37 + k) ∧ σ (37 + k) ≤ 1000000000) : Met lL yX0_transfer wsX0_transfer ({ frames := 3, cells := 0, slots := 0, locals := 85 } : Room) (va_Pc [.ref (o 0), .int (iI a), .int (iI t), .int (iI b), .int (iI n)] (fun U => AC G o σ U.heap ∧ KK G U)) (va_Qv (fun _ : Unit => True) (fun _ tZ => AC G o (if a = t then σ else coA (coA σ t b n) a (-b) (-n)) tZ.heap) (Ax o 5)) 0 0 (Ax o 5) := by
  refine z_met (P := (fun H : Heap => AC G o σ H)) (by decide) rfl (Nat.le_of_ble_eq_true rfl) (fun pp ee ss mm below meth cC E hr hml hown hts hlocks hFO hK ls hl => ?_)
  have hl : lv_has ls 5 [(0, .ref (o 0)), (1, .int (iI a)), (2, .int (iI t)), (3, .int (iI b)), (4, .int (iI n))] := hl
  have hcs : 0 ≤ (({ frames := 3, cells := 0, slots := 0, locals := 85 } : Room)).cells ∧ 0 ≤ (({ frames := 3, cells := 0, slots := 0, locals := 85 } : Room)).slots := ⟨Nat.zero_le _, Nat.zero_le _⟩
  have hS : va_S (Ax o 5) ss.heap ss.heap [] := va_S.rf
  refine lv_iload_n (pc := 0) E.1 E.2 dX0_transfer_0 rfl (lv_at hl 1 rfl) ?_
  refine lv_iload_n (pc := 1) E.1 E.2 dX0_transfer_1 rfl (lv_at hl 2 rfl) ?_
  refine z_icmp_eq (pc := 2) (tgt := 23) E ⟨by omega, by omega⟩ ⟨by omega, by omega⟩ dX0_transfer_2 (by decide) (fun h2 => ?_) (fun h2 => ?_)
  · exact z_retWv E hr (by rw [if_pos h2]; exact hFO) hS hlocks dX0_transfer_23
  · refine lv_aload_n (pc := 5) E.1 E.2 dX0_transfer_5 rfl (lv_at hl 0 rfl) ?_
    refine lv_iload_n (pc := 6) E.1 E.2 dX0_transfer_6 rfl (lv_at hl 2 rfl) ?_
    refine lv_iload_n (pc := 7) E.1 E.2 dX0_transfer_7 rfl (lv_at hl 3 rfl) ?_
    refine lv_iload (pc := 8) E.1 E.2 dX0_transfer_8 (lv_at hl 4 rfl) ?_
    refine z_wVv (pc := 10) (As := [.int (iI t), .int (iI b), .int (iI n)]) (rest := []) E hml hown hts (mX0_change lL G o σ t b n  (by omega) (by omega) (by omega) (fun k h0 h1 => by have q := hu k h0 h1; omega)) (cwV 3 hts gX0_transfer_X0_change rfl rfl rfl vdX0_change ⟨Nat.le_of_ble_eq_true rfl, Nat.le_of_ble_eq_true rfl⟩) (oB.recv hK hFO.ob rfl) hFO hK hS (fun _ h => h) rfl hl.1 rfl dX0_transfer_10 hcs (Nat.le_of_ble_eq_true rfl) (fun H locs hnew hsz hoth hS => ?_)
    have hFO := hnew
    refine lv_aload_n (pc := 13) E.1 E.2 dX0_transfer_13 rfl (lv_at hl 0 rfl) ?_
    refine lv_iload_n (pc := 14) E.1 E.2 dX0_transfer_14 rfl (lv_at hl 1 rfl) ?_
    refine lv_iload_n (pc := 15) E.1 E.2 dX0_transfer_15 rfl (lv_at hl 3 rfl) ?_
    refine z_ineg (pc := 16) E dX0_transfer_16 ?_
    refine lv_iload (pc := 17) E.1 E.2 dX0_transfer_17 (lv_at hl 4 rfl) ?_
    refine z_ineg (pc := 19) E dX0_transfer_19 ?_
    refine z_wVv (pc := 20) (As := [.int (iI a), .int (iI (-b)), .int (iI (-n))]) (rest := []) E hml hown hts (mX0_change lL G o (coA σ t b n) a (-b) (-n)  (by omega) (by omega) (by omega) (fun k h0 h1 => by have q := coA_u (by omega) hb hn hu k h0 h1; omega)) (cwV 3 hts gX0_transfer_X0_change rfl rfl rfl vdX0_change ⟨Nat.le_of_ble_eq_true rfl, Nat.le_of_ble_eq_true rfl⟩) (oB.recv hK hFO.ob rfl) hFO hK hS (fun _ h => h) rfl hl.1 rfl dX0_transfer_20 hcs (Nat.le_of_ble_eq_true rfl) (fun H locs hnew hsz hoth hS => ?_)
    have hFO := hnew
    exact z_retWv E hr (by rw [if_neg h2]; exact hFO) hS hlocks dX0_transfer_23
set_option maxHeartbeats 1000000 in
set_option maxRecDepth 100000 in
theorem mX3_add (lL : Launch) (G : GG) (o : Nat → Nat) (σ : Int → Int) (p : Int) (nm : Int) (hI : In σ) (hf : σ 2 < 40) (hp : -2147483648 ≤ p ∧ p < 2147483648) : Met lL yX3_add wsX3_add ({ frames := 1, cells := 0, slots := 0, locals := 20 } : Room) (va_Pc [.ref (o 0), .int (iI p), .long (iL nm)] (fun U => FO G o σ U.heap ∧ KK G U)) (va_Qv (fun _ : Unit => True) (fun _ tZ => FO G o (adF σ p nm) tZ.heap) (Ax o 4)) 0 0 (Ax o 4) := by
  refine z_met (P := (fun H : Heap => FO G o σ H)) (by decide) rfl (Nat.le_of_ble_eq_true rfl) (fun pp ee ss mm below meth cC E hr hml hown hts hlocks hFO hK ls hl => ?_)
  have hl : lv_has ls 4 [(0, .ref (o 0)), (1, .int (iI p)), (2, .long (iL nm))] := hl
  have hcs : 0 ≤ (({ frames := 1, cells := 0, slots := 0, locals := 20 } : Room)).cells ∧ 0 ≤ (({ frames := 1, cells := 0, slots := 0, locals := 20 } : Room)).slots := ⟨Nat.zero_le _, Nat.zero_le _⟩
  have hS : va_S (Ax o 4) ss.heap ss.heap [] := va_S.rf
  have hin3 : ∀ w ∈ wsX30, w ∈ wsX3_add := fun w h => List.mem_cons_of_mem _ (List.mem_append_right _ (h))
  obtain ⟨pa, na, ta, hM, hs⟩ := id hFO
  have hF := hI.F
  have hMm := hI.M
  have hGn := hI.Gn
  refine lv_aload_n (pc := 0) E.1 E.2 dX3_add_0 rfl (lv_at hl 0 rfl) ?_
  refine z_rVi (pc := 1) (As := []) (rest := []) E hml hown hts (mX3_isFull lL G o σ  hI) (cwV 0 hts gX3_add_X3_isFull rfl rfl rfl vdX3_isFull ⟨Nat.le_of_ble_eq_true rfl, Nat.le_of_ble_eq_true rfl⟩) (oB.recv hK hM.1 rfl) hFO hK rfl hl.1 rfl dX3_add_1 hcs (Nat.le_of_ble_eq_true rfl) ?_
  refine z_ifb_ne (pc := 4) (tgt := 47) E dX3_add_4 (by decide) (fun h4 => ?_) (fun h4 => ?_)
  · exact absurd h4 (by omega)
  · refine lv_aload_n (pc := 7) E.1 E.2 dX3_add_7 rfl (lv_at hl 0 rfl) ?_
    refine g3_0 (pc := 8) E hts hin3 hown hK hM.1 (hts _ (List.mem_of_getElem? (i := 1) rfl)) dX3_add_8 ?_
    refine lv_aload_n (pc := 11) E.1 E.2 dX3_add_11 rfl (lv_at hl 0 rfl) ?_
    refine g3_3 (pc := 12) E hts hin3 hown hK hM.1 (hts _ (List.mem_of_getElem? (i := 2) rfl)) dX3_add_12 ?_
    refine lv_iload_n (pc := 15) E.1 E.2 dX3_add_15 rfl (lv_at hl 1 rfl) ?_
    refine z_iastore (pc := 16) E hK hM.2.1 hS (Ax.at 1 (by decide)) ⟨by omega, by omega⟩ (by decide) dX3_add_16 (fun H locs hnew hoth hS => ?_)
    have hM := FOr.a1 hM hnew (fun a _ h => hoth a h)
    refine lv_aload_n (pc := 17) E.1 E.2 dX3_add_17 rfl (lv_at hl 0 rfl) ?_
    refine g3_1 (pc := 18) E hts hin3 hown hK hM.1 (hts _ (List.mem_of_getElem? (i := 3) rfl)) dX3_add_18 ?_
    refine lv_aload_n (pc := 21) E.1 E.2 dX3_add_21 rfl (lv_at hl 0 rfl) ?_
    refine g3_3 (pc := 22) E hts hin3 hown hK hM.1 (hts _ (List.mem_of_getElem? (i := 2) rfl)) dX3_add_22 ?_
    refine lv_lload_n (pc := 25) E.1 E.2 dX3_add_25 rfl (lv_at hl 2 rfl) ?_
    refine z_lastore (pc := 26) E hK hM.2.2.1 hS (Ax.at 2 (by decide)) ⟨by omega, by omega⟩ (by decide) dX3_add_26 (fun H locs hnew hoth hS => ?_)
    have hM := FOr.a2 hM hnew (fun a _ h => hoth a h)
    refine lv_aload_n (pc := 27) E.1 E.2 dX3_add_27 rfl (lv_at hl 0 rfl) ?_
    refine g3_2 (pc := 28) E hts hin3 hown hK hM.1 (hts _ (List.mem_of_getElem? (i := 4) rfl)) dX3_add_28 ?_
    refine lv_aload_n (pc := 31) E.1 E.2 dX3_add_31 rfl (lv_at hl 0 rfl) ?_
    refine g3_3 (pc := 32) E hts hin3 hown hK hM.1 (hts _ (List.mem_of_getElem? (i := 2) rfl)) dX3_add_32 ?_
    refine z_iconst (pc := 35) E dX3_add_35 ?_
    refine z_iastore (pc := 36) E hK hM.2.2.2.1 hS (Ax.at 3 (by decide)) ⟨by omega, by omega⟩ (by decide) dX3_add_36 (fun H locs hnew hoth hS => ?_)
    have hM := FOr.a3 hM hnew (fun a _ h => hoth a h)
    refine lv_aload_n (pc := 37) E.1 E.2 dX3_add_37 rfl (lv_at hl 0 rfl) ?_
    refine lv_dup (pc := 38) E.1 E.2 dX3_add_38 rfl ?_
    refine g3_3 (pc := 39) E hts hin3 hown hK hM.1 (hts _ (List.mem_of_getElem? (i := 2) rfl)) dX3_add_39 ?_
    refine z_iconst (pc := 42) E dX3_add_42 ?_
    refine z_iadd (pc := 43) E dX3_add_43 ?_
    refine p3_3 (pc := 44) E hts hin3 hown hK hM.1 hS (Ax.at 0 (by decide)) (hts _ (List.mem_of_getElem? (i := 2) rfl)) dX3_add_44 (fun H locs hnew hoth hS => ?_)
    have hM := FOr.p hM hnew (fun a _ h => hoth a h)
    exact z_retWv E hr (by have e2 : adF σ p nm 2 = σ 2 + 1 := (by unfold adF; rw [zu_s]); exact ⟨(zu pa (σ 2) p), (zu na (σ 2) nm), (zu ta (σ 2) (-1)), (by rw [e2]; exact hM), fun j j0 j1 => by rw [e2] at j1; unfold adF zu; by_cases hj : j = σ 2; (subst hj; refine ⟨?_, ?_, ?_⟩ <;> (repeat' split) <;> first | rfl | omega); (have q := hs j j0 (by omega); refine ⟨?_ , ?_ , ?_⟩ <;> (repeat' split) <;> first | rfl | omega | exact q.1 | exact q.2.1 | exact q.2.2)⟩) hS hlocks dX3_add_47
set_option maxHeartbeats 1000000 in
set_option maxRecDepth 100000 in
theorem mX2_add (lL : Launch) (G : GG) (o : Nat → Nat) (σ : Int → Int) (p : Int) (b : Int) (hI : In σ) (hf : σ 3 < 60) (hp : -2147483648 ≤ p ∧ p < 2147483648) (hb : -2147483648 ≤ b ∧ b < 2147483648) : Met lL yX2_add wsX2_add ({ frames := 1, cells := 0, slots := 0, locals := 20 } : Room) (va_Pc [.ref (o 0), .int (iI p), .int (iI b)] (fun U => FI G o σ U.heap ∧ KK G U)) (va_Qv (fun _ : Unit => True) (fun _ tZ => FI G o (afF σ p b) tZ.heap) (Ax o 3)) 0 0 (Ax o 3) := by
  refine z_met (P := (fun H : Heap => FI G o σ H)) (by decide) rfl (Nat.le_of_ble_eq_true rfl) (fun pp ee ss mm below meth cC E hr hml hown hts hlocks hFO hK ls hl => ?_)
  have hl : lv_has ls 3 [(0, .ref (o 0)), (1, .int (iI p)), (2, .int (iI b))] := hl
  have hcs : 0 ≤ (({ frames := 1, cells := 0, slots := 0, locals := 20 } : Room)).cells ∧ 0 ≤ (({ frames := 1, cells := 0, slots := 0, locals := 20 } : Room)).slots := ⟨Nat.zero_le _, Nat.zero_le _⟩
  have hS : va_S (Ax o 3) ss.heap ss.heap [] := va_S.rf
  have hin2 : ∀ w ∈ wsX20, w ∈ wsX2_add := fun w h => List.mem_cons_of_mem _ (List.mem_append_right _ (h))
  obtain ⟨pl, sz, hM, hs⟩ := id hFO
  have hF := hI.F
  have hMm := hI.M
  have hGn := hI.Gn
  refine lv_aload_n (pc := 0) E.1 E.2 dX2_add_0 rfl (lv_at hl 0 rfl) ?_
  refine z_rVi (pc := 1) (As := []) (rest := []) E hml hown hts (mX2_isFull lL G o σ  hI) (cwV 0 hts gX2_add_X2_isFull rfl rfl rfl vdX2_isFull ⟨Nat.le_of_ble_eq_true rfl, Nat.le_of_ble_eq_true rfl⟩) (oB.recv hK hM.1 rfl) hFO hK rfl hl.1 rfl dX2_add_1 hcs (Nat.le_of_ble_eq_true rfl) ?_
  refine z_ifb_ne (pc := 4) (tgt := 37) E dX2_add_4 (by decide) (fun h4 => ?_) (fun h4 => ?_)
  · exact absurd h4 (by omega)
  · refine lv_aload_n (pc := 7) E.1 E.2 dX2_add_7 rfl (lv_at hl 0 rfl) ?_
    refine g2_0 (pc := 8) E hts hin2 hown hK hM.1 (hts _ (List.mem_of_getElem? (i := 1) rfl)) dX2_add_8 ?_
    refine lv_aload_n (pc := 11) E.1 E.2 dX2_add_11 rfl (lv_at hl 0 rfl) ?_
    refine g2_2 (pc := 12) E hts hin2 hown hK hM.1 (hts _ (List.mem_of_getElem? (i := 2) rfl)) dX2_add_12 ?_
    refine lv_iload_n (pc := 15) E.1 E.2 dX2_add_15 rfl (lv_at hl 1 rfl) ?_
    refine z_iastore (pc := 16) E hK hM.2.1 hS (Ax.at 1 (by decide)) ⟨by omega, by omega⟩ (by decide) dX2_add_16 (fun H locs hnew hoth hS => ?_)
    have hM := FIr.a1 hM hnew (fun a _ h => hoth a h)
    refine lv_aload_n (pc := 17) E.1 E.2 dX2_add_17 rfl (lv_at hl 0 rfl) ?_
    refine g2_1 (pc := 18) E hts hin2 hown hK hM.1 (hts _ (List.mem_of_getElem? (i := 3) rfl)) dX2_add_18 ?_
    refine lv_aload_n (pc := 21) E.1 E.2 dX2_add_21 rfl (lv_at hl 0 rfl) ?_
    refine g2_2 (pc := 22) E hts hin2 hown hK hM.1 (hts _ (List.mem_of_getElem? (i := 2) rfl)) dX2_add_22 ?_
    refine lv_iload_n (pc := 25) E.1 E.2 dX2_add_25 rfl (lv_at hl 2 rfl) ?_
    refine z_iastore (pc := 26) E hK hM.2.2.1 hS (Ax.at 2 (by decide)) ⟨by omega, by omega⟩ (by decide) dX2_add_26 (fun H locs hnew hoth hS => ?_)
    have hM := FIr.a2 hM hnew (fun a _ h => hoth a h)
    refine lv_aload_n (pc := 27) E.1 E.2 dX2_add_27 rfl (lv_at hl 0 rfl) ?_
    refine lv_dup (pc := 28) E.1 E.2 dX2_add_28 rfl ?_
    refine g2_2 (pc := 29) E hts hin2 hown hK hM.1 (hts _ (List.mem_of_getElem? (i := 2) rfl)) dX2_add_29 ?_
    refine z_iconst (pc := 32) E dX2_add_32 ?_
    refine z_iadd (pc := 33) E dX2_add_33 ?_
    refine p2_2 (pc := 34) E hts hin2 hown hK hM.1 hS (Ax.at 0 (by decide)) (hts _ (List.mem_of_getElem? (i := 2) rfl)) dX2_add_34 (fun H locs hnew hoth hS => ?_)
    have hM := FIr.p hM hnew (fun a _ h => hoth a h)
    exact z_retWv E hr (by have e2 : afF σ p b 3 = σ 3 + 1 := (by unfold afF; rw [zu_s]); exact ⟨(zu pl (σ 3) p), (zu sz (σ 3) b), (by rw [e2]; exact hM), fun j j0 j1 => by rw [e2] at j1; unfold afF zu; by_cases hj : j = σ 3; (subst hj; refine ⟨?_, ?_⟩ <;> (repeat' split) <;> first | rfl | omega); (have q := hs j j0 (by omega); refine ⟨?_ , ?_⟩ <;> (repeat' split) <;> first | rfl | omega | exact q.1 | exact q.2)⟩) hS hlocks dX2_add_37
set_option maxHeartbeats 1000000 in
set_option maxRecDepth 100000 in
theorem mX4_add (lL : Launch) (G : GG) (o : Nat → Nat) (σ : Int → Int) (a : Int) (t : Int) (b : Int) (d : Int) (hI : In σ) (hf : σ 4 < 12) : Met lL yX4_add wsX4_add ({ frames := 1, cells := 0, slots := 0, locals := 20 } : Room) (va_Pc [.ref (o 0), .int (iI a), .int (iI t), .int (iI b), .int (iI d)] (fun U => GI G o σ U.heap ∧ KK G U)) (va_Qv (fun _ : Unit => True) (fun _ tZ => GI G o (gaA σ a t b d) tZ.heap) (Ax o 5)) 0 0 (Ax o 5) := by
  refine z_met (P := (fun H : Heap => GI G o σ H)) (by decide) rfl (Nat.le_of_ble_eq_true rfl) (fun pp ee ss mm below meth cC E hr hml hown hts hlocks hFO hK ls hl => ?_)
  have hl : lv_has ls 5 [(0, .ref (o 0)), (1, .int (iI a)), (2, .int (iI t)), (3, .int (iI b)), (4, .int (iI d))] := hl
  have hcs : 0 ≤ (({ frames := 1, cells := 0, slots := 0, locals := 20 } : Room)).cells ∧ 0 ≤ (({ frames := 1, cells := 0, slots := 0, locals := 20 } : Room)).slots := ⟨Nat.zero_le _, Nat.zero_le _⟩
  have hS : va_S (Ax o 5) ss.heap ss.heap [] := va_S.rf
  have hin4 : ∀ w ∈ wsX40, w ∈ wsX4_add := fun w h => List.mem_cons_of_mem _ (List.mem_append_right _ (h))
  obtain ⟨gv, ge, gb, gd, hM, hs⟩ := id hFO
  have hF := hI.F
  have hMm := hI.M
  have hGn := hI.Gn
  refine lv_aload_n (pc := 0) E.1 E.2 dX4_add_0 rfl (lv_at hl 0 rfl) ?_
  refine z_rVi (pc := 1) (As := []) (rest := []) E hml hown hts (mX4_isFull lL G o σ  hI) (cwV 0 hts gX4_add_X4_isFull rfl rfl rfl vdX4_isFull ⟨Nat.le_of_ble_eq_true rfl, Nat.le_of_ble_eq_true rfl⟩) (oB.recv hK hM.1 rfl) hFO hK rfl hl.1 rfl dX4_add_1 hcs (Nat.le_of_ble_eq_true rfl) ?_
  refine z_ifb_ne (pc := 4) (tgt := 58) E dX4_add_4 (by decide) (fun h4 => ?_) (fun h4 => ?_)
  · exact absurd h4 (by omega)
  · refine lv_aload_n (pc := 7) E.1 E.2 dX4_add_7 rfl (lv_at hl 0 rfl) ?_
    refine g4_0 (pc := 8) E hts hin4 hown hK hM.1 (hts _ (List.mem_of_getElem? (i := 1) rfl)) dX4_add_8 ?_
    refine lv_aload_n (pc := 11) E.1 E.2 dX4_add_11 rfl (lv_at hl 0 rfl) ?_
    refine g4_4 (pc := 12) E hts hin4 hown hK hM.1 (hts _ (List.mem_of_getElem? (i := 2) rfl)) dX4_add_12 ?_
    refine lv_iload_n (pc := 15) E.1 E.2 dX4_add_15 rfl (lv_at hl 1 rfl) ?_
    refine z_iastore (pc := 16) E hK hM.2.1 hS (Ax.at 1 (by decide)) ⟨by omega, by omega⟩ (by decide) dX4_add_16 (fun H locs hnew hoth hS => ?_)
    have hM := GIr.a1 hM hnew (fun a _ h => hoth a h)
    refine lv_aload_n (pc := 17) E.1 E.2 dX4_add_17 rfl (lv_at hl 0 rfl) ?_
    refine g4_1 (pc := 18) E hts hin4 hown hK hM.1 (hts _ (List.mem_of_getElem? (i := 3) rfl)) dX4_add_18 ?_
    refine lv_aload_n (pc := 21) E.1 E.2 dX4_add_21 rfl (lv_at hl 0 rfl) ?_
    refine g4_4 (pc := 22) E hts hin4 hown hK hM.1 (hts _ (List.mem_of_getElem? (i := 2) rfl)) dX4_add_22 ?_
    refine lv_iload_n (pc := 25) E.1 E.2 dX4_add_25 rfl (lv_at hl 2 rfl) ?_
    refine z_iastore (pc := 26) E hK hM.2.2.1 hS (Ax.at 2 (by decide)) ⟨by omega, by omega⟩ (by decide) dX4_add_26 (fun H locs hnew hoth hS => ?_)
    have hM := GIr.a2 hM hnew (fun a _ h => hoth a h)
    refine lv_aload_n (pc := 27) E.1 E.2 dX4_add_27 rfl (lv_at hl 0 rfl) ?_
    refine g4_2 (pc := 28) E hts hin4 hown hK hM.1 (hts _ (List.mem_of_getElem? (i := 4) rfl)) dX4_add_28 ?_
    refine lv_aload_n (pc := 31) E.1 E.2 dX4_add_31 rfl (lv_at hl 0 rfl) ?_
    refine g4_4 (pc := 32) E hts hin4 hown hK hM.1 (hts _ (List.mem_of_getElem? (i := 2) rfl)) dX4_add_32 ?_
    refine lv_iload_n (pc := 35) E.1 E.2 dX4_add_35 rfl (lv_at hl 3 rfl) ?_
    refine z_iastore (pc := 36) E hK hM.2.2.2.1 hS (Ax.at 3 (by decide)) ⟨by omega, by omega⟩ (by decide) dX4_add_36 (fun H locs hnew hoth hS => ?_)
    have hM := GIr.a3 hM hnew (fun a _ h => hoth a h)
    refine lv_aload_n (pc := 37) E.1 E.2 dX4_add_37 rfl (lv_at hl 0 rfl) ?_
    refine g4_3 (pc := 38) E hts hin4 hown hK hM.1 (hts _ (List.mem_of_getElem? (i := 5) rfl)) dX4_add_38 ?_
    refine lv_aload_n (pc := 41) E.1 E.2 dX4_add_41 rfl (lv_at hl 0 rfl) ?_
    refine g4_4 (pc := 42) E hts hin4 hown hK hM.1 (hts _ (List.mem_of_getElem? (i := 2) rfl)) dX4_add_42 ?_
    refine lv_iload (pc := 45) E.1 E.2 dX4_add_45 (lv_at hl 4 rfl) ?_
    refine z_iastore (pc := 47) E hK hM.2.2.2.2.1 hS (Ax.at 4 (by decide)) ⟨by omega, by omega⟩ (by decide) dX4_add_47 (fun H locs hnew hoth hS => ?_)
    have hM := GIr.a4 hM hnew (fun a _ h => hoth a h)
    refine lv_aload_n (pc := 48) E.1 E.2 dX4_add_48 rfl (lv_at hl 0 rfl) ?_
    refine lv_dup (pc := 49) E.1 E.2 dX4_add_49 rfl ?_
    refine g4_4 (pc := 50) E hts hin4 hown hK hM.1 (hts _ (List.mem_of_getElem? (i := 2) rfl)) dX4_add_50 ?_
    refine z_iconst (pc := 53) E dX4_add_53 ?_
    refine z_iadd (pc := 54) E dX4_add_54 ?_
    refine p4_4 (pc := 55) E hts hin4 hown hK hM.1 hS (Ax.at 0 (by decide)) (hts _ (List.mem_of_getElem? (i := 2) rfl)) dX4_add_55 (fun H locs hnew hoth hS => ?_)
    have hM := GIr.p hM hnew (fun a _ h => hoth a h)
    exact z_retWv E hr (by have e2 : gaA σ a t b d 4 = σ 4 + 1 := (by unfold gaA; rw [zu_s]); exact ⟨(zu gv (σ 4) a), (zu ge (σ 4) t), (zu gb (σ 4) b), (zu gd (σ 4) d), (by rw [e2]; exact hM), fun j j0 j1 => by rw [e2] at j1; unfold gaA zu; by_cases hj : j = σ 4; (subst hj; refine ⟨?_, ?_, ?_, ?_⟩ <;> (repeat' split) <;> first | rfl | omega); (have q := hs j j0 (by omega); refine ⟨?_ , ?_ , ?_ , ?_⟩ <;> (repeat' split) <;> first | rfl | omega | exact q.1 | exact q.2.1 | exact q.2.2.1 | exact q.2.2.2)⟩) hS hlocks dX4_add_58
set_option maxHeartbeats 1000000 in
set_option maxRecDepth 100000 in
theorem mX2_removeAt (lL : Launch) (G : GG) (o : Nat → Nat) (σ : Int → Int) (f : Int) (hI : In σ) (hf : 0 ≤ f ∧ f < σ 3) : Met lL yX2_removeAt wsX2_removeAt ({ frames := 1, cells := 0, slots := 0, locals := 21 } : Room) (va_Pc [.ref (o 0), .int (iI f)] (fun U => FI G o σ U.heap ∧ KK G U)) (va_Qv (fun _ : Unit => True) (fun _ tZ => FI G o (dfA σ f) tZ.heap) (Ax o 3)) 0 0 (Ax o 3) := by
  refine z_met (P := (fun H : Heap => FI G o σ H)) (by decide) rfl (Nat.le_of_ble_eq_true rfl) (fun pp ee ss mm below meth cC E hr hml hown hts hlocks hFO hK ls hl => ?_)
  have hl : lv_has ls 3 [(0, .ref (o 0)), (1, .int (iI f))] := hl
  have hcs : 0 ≤ (({ frames := 1, cells := 0, slots := 0, locals := 21 } : Room)).cells ∧ 0 ≤ (({ frames := 1, cells := 0, slots := 0, locals := 21 } : Room)).slots := ⟨Nat.zero_le _, Nat.zero_le _⟩
  have hS : va_S (Ax o 3) ss.heap ss.heap [] := va_S.rf
  have hin2 : ∀ w ∈ wsX20, w ∈ wsX2_removeAt := fun w h => List.mem_cons_of_mem _ (List.mem_append_right _ (h))
  obtain ⟨pl, sz, hM, hs⟩ := id hFO
  have hF := hI.F
  have hMm := hI.M
  have hGn := hI.Gn
  refine lv_aload_n (pc := 0) E.1 E.2 dX2_removeAt_0 rfl (lv_at hl 0 rfl) ?_
  refine lv_iload_n (pc := 1) E.1 E.2 dX2_removeAt_1 rfl (lv_at hl 1 rfl) ?_
  refine z_rVi (pc := 2) (As := [.int (iI f)]) (rest := []) E hml hown hts (mX2_has lL G o σ f hI (by omega)) (cwV 1 hts gX2_removeAt_X2_has rfl rfl rfl vdX2_has ⟨Nat.le_of_ble_eq_true rfl, Nat.le_of_ble_eq_true rfl⟩) (oB.recv hK hM.1 rfl) hFO hK rfl hl.1 rfl dX2_removeAt_2 hcs (Nat.le_of_ble_eq_true rfl) ?_
  refine z_ifb_ne (pc := 5) (tgt := 9) E dX2_removeAt_5 (by decide) (fun h5 => ?_) (fun h5 => ?_)
  · refine lv_aload_n (pc := 9) E.1 E.2 dX2_removeAt_9 rfl (lv_at hl 0 rfl) ?_
    refine lv_dup (pc := 10) E.1 E.2 dX2_removeAt_10 rfl ?_
    refine g2_2 (pc := 11) E hts hin2 hown hK hM.1 (hts _ (List.mem_of_getElem? (i := 1) rfl)) dX2_removeAt_11 ?_
    refine z_iconst (pc := 14) E dX2_removeAt_14 ?_
    refine z_isub (pc := 15) E dX2_removeAt_15 ?_
    refine p2_2 (pc := 16) E hts hin2 hown hK hM.1 hS (Ax.at 0 (by decide)) (hts _ (List.mem_of_getElem? (i := 1) rfl)) dX2_removeAt_16 (fun H locs hnew hoth hS => ?_)
    have hM := FIr.p hM hnew (fun a _ h => hoth a h)
    refine lv_iload_n (pc := 19) E.1 E.2 dX2_removeAt_19 rfl (lv_at hl 1 rfl) ?_
    refine lv_istore_n (pc := 20) (lv' := [(2, .int (iI f)), (0, .ref (o 0)), (1, .int (iI f))]) E.1 E.2 dX2_removeAt_20 rfl hl (by decide) rfl (fun ls hl => ?_)
    suffices L21 : ∀ (nf : Nat), ∀ (i : Int), (f ≤ i ∧ i ≤ σ 3 - 1) → ((σ 3 - 1 - i).toNat) < nf → ∀  (H : Heap) (locs : List Loc), FIr G o [.ref (o 1), .ref (o 2), .int (iI (σ 3 - 1))] (cl0 pl f i) (cl0 sz f i) H → va_S (Ax o 3) ss.heap H locs → ∀ ls : Array Slot, lv_has ls 3 [(2, .int (iI i)), (0, .ref (o 0)), (1, .int (iI f))] → W pp lL ee ({ frames := 1, cells := 0, slots := 0, locals := 21 } : Room) ss mm [.ref (o 0), .int (iI f)].toArray below meth cC H locs 0 0 (MQ below (va_Qv (fun _ : Unit => True) (fun _ tZ => FI G o (dfA σ f) tZ.heap) (Ax o 3)) [.ref (o 0), .int (iI f)].toArray ss 0 0 (Ax o 3)) (F0 mm 21 ls []) from L21 _ f (by omega) (Nat.lt_succ_self _)  _ _ (by rw [cl0_0 pl, cl0_0 sz]; exact hM) hS ls (lv_sub hl [0, 1, 2] rfl)
    intro nfL21
    induction nfL21 with
    | zero => intro i hi hmzL21; exact absurd hmzL21 (Nat.not_lt_zero _)
    | succ nfL21 ihL21 =>
      intro i hi hmzL21  H locs hM hS ls hl
      refine lv_iload_n (pc := 21) E.1 E.2 dX2_removeAt_21 rfl (lv_at hl 0 rfl) ?_
      refine lv_aload_n (pc := 22) E.1 E.2 dX2_removeAt_22 rfl (lv_at hl 1 rfl) ?_
      refine g2_2 (pc := 23) E hts hin2 hown hK hM.1 (hts _ (List.mem_of_getElem? (i := 1) rfl)) dX2_removeAt_23 ?_
      refine z_icmp_ge (pc := 26) (tgt := 63) E ⟨by omega, by omega⟩ ⟨by omega, by omega⟩ dX2_removeAt_26 (by decide) (fun h26 => ?_) (fun h26 => ?_)
      · exact z_retWv E hr (by have ei : i = σ 3 - 1 := (by omega); subst ei; have e2 := df_3 hMm hf; exact ⟨(cl0 pl f (σ 3 - 1)), (cl0 sz f (σ 3 - 1)), (by rw [e2]; exact hM), fun j j0 j1 => by rw [e2] at j1; have b := sj_b (f := f) (n := σ 3) j0 j1; have q := hs (sj f j) b.1 b.2; rw [cl0_j _ j1, cl0_j _ j1, df_j hMm hf (Or.inl rfl) j0 j1, df_j hMm hf (Or.inr rfl) j0 j1]; exact q⟩) hS hlocks dX2_removeAt_63
      · refine lv_aload_n (pc := 29) E.1 E.2 dX2_removeAt_29 rfl (lv_at hl 1 rfl) ?_
        refine g2_0 (pc := 30) E hts hin2 hown hK hM.1 (hts _ (List.mem_of_getElem? (i := 2) rfl)) dX2_removeAt_30 ?_
        refine lv_iload_n (pc := 33) E.1 E.2 dX2_removeAt_33 rfl (lv_at hl 0 rfl) ?_
        refine lv_aload_n (pc := 34) E.1 E.2 dX2_removeAt_34 rfl (lv_at hl 1 rfl) ?_
        refine g2_0 (pc := 35) E hts hin2 hown hK hM.1 (hts _ (List.mem_of_getElem? (i := 2) rfl)) dX2_removeAt_35 ?_
        refine lv_iload_n (pc := 38) E.1 E.2 dX2_removeAt_38 rfl (lv_at hl 0 rfl) ?_
        refine z_iconst (pc := 39) E dX2_removeAt_39 ?_
        refine z_iadd (pc := 40) E dX2_removeAt_40 ?_
        refine z_iaload (pc := 41) E hK hM.2.1 ⟨by omega, by omega⟩ (by decide) dX2_removeAt_41 ?_
        refine z_iastore (pc := 42) E hK hM.2.1 hS (Ax.at 1 (by decide)) ⟨by omega, by omega⟩ (by decide) dX2_removeAt_42 (fun H locs hnew hoth hS => ?_)
        have hM := FIr.a1 hM hnew (fun a _ h => hoth a h)
        refine lv_aload_n (pc := 43) E.1 E.2 dX2_removeAt_43 rfl (lv_at hl 1 rfl) ?_
        refine g2_1 (pc := 44) E hts hin2 hown hK hM.1 (hts _ (List.mem_of_getElem? (i := 3) rfl)) dX2_removeAt_44 ?_
        refine lv_iload_n (pc := 47) E.1 E.2 dX2_removeAt_47 rfl (lv_at hl 0 rfl) ?_
        refine lv_aload_n (pc := 48) E.1 E.2 dX2_removeAt_48 rfl (lv_at hl 1 rfl) ?_
        refine g2_1 (pc := 49) E hts hin2 hown hK hM.1 (hts _ (List.mem_of_getElem? (i := 3) rfl)) dX2_removeAt_49 ?_
        refine lv_iload_n (pc := 52) E.1 E.2 dX2_removeAt_52 rfl (lv_at hl 0 rfl) ?_
        refine z_iconst (pc := 53) E dX2_removeAt_53 ?_
        refine z_iadd (pc := 54) E dX2_removeAt_54 ?_
        refine z_iaload (pc := 55) E hK hM.2.2.1 ⟨by omega, by omega⟩ (by decide) dX2_removeAt_55 ?_
        refine z_iastore (pc := 56) E hK hM.2.2.1 hS (Ax.at 2 (by decide)) ⟨by omega, by omega⟩ (by decide) dX2_removeAt_56 (fun H locs hnew hoth hS => ?_)
        have hM := FIr.a2 hM hnew (fun a _ h => hoth a h)
        refine lv_iinc (pc := 57) (v := iI (i + 1)) (lv' := [(2, .int (iI (i + 1))), (0, .ref (o 0)), (1, .int (iI f))]) E.1 E.2 dX2_removeAt_57 hl (k := 0) rfl (iI_add _ _) (by decide) rfl (fun ls hl => ?_)
        refine lv_goto (pc := 60) (tgt := 21) E.1 E.2 dX2_removeAt_60 (by decide) ?_
        exact ihL21 (i + 1) (by omega) (by omega)  _ _ (by rw [← cl0_s pl hi.1, ← cl0_s sz hi.1]; exact hM) hS ls (lv_sub hl [0, 1, 2] rfl)
  · exact absurd hf h5
set_option maxHeartbeats 1000000 in
set_option maxRecDepth 100000 in
theorem mX4_removeAt (lL : Launch) (G : GG) (o : Nat → Nat) (σ : Int → Int) (f : Int) (hI : In σ) (hf : 0 ≤ f ∧ f < σ 4) : Met lL yX4_removeAt wsX4_removeAt ({ frames := 1, cells := 0, slots := 0, locals := 21 } : Room) (va_Pc [.ref (o 0), .int (iI f)] (fun U => GI G o σ U.heap ∧ KK G U)) (va_Qv (fun _ : Unit => True) (fun _ tZ => GI G o (dgF σ f) tZ.heap) (Ax o 5)) 0 0 (Ax o 5) := by
  refine z_met (P := (fun H : Heap => GI G o σ H)) (by decide) rfl (Nat.le_of_ble_eq_true rfl) (fun pp ee ss mm below meth cC E hr hml hown hts hlocks hFO hK ls hl => ?_)
  have hl : lv_has ls 3 [(0, .ref (o 0)), (1, .int (iI f))] := hl
  have hcs : 0 ≤ (({ frames := 1, cells := 0, slots := 0, locals := 21 } : Room)).cells ∧ 0 ≤ (({ frames := 1, cells := 0, slots := 0, locals := 21 } : Room)).slots := ⟨Nat.zero_le _, Nat.zero_le _⟩
  have hS : va_S (Ax o 5) ss.heap ss.heap [] := va_S.rf
  have hin4 : ∀ w ∈ wsX40, w ∈ wsX4_removeAt := fun w h => List.mem_cons_of_mem _ (List.mem_append_right _ (h))
  obtain ⟨gv, ge, gb, gd, hM, hs⟩ := id hFO
  have hF := hI.F
  have hMm := hI.M
  have hGn := hI.Gn
  refine lv_aload_n (pc := 0) E.1 E.2 dX4_removeAt_0 rfl (lv_at hl 0 rfl) ?_
  refine lv_iload_n (pc := 1) E.1 E.2 dX4_removeAt_1 rfl (lv_at hl 1 rfl) ?_
  refine z_rVi (pc := 2) (As := [.int (iI f)]) (rest := []) E hml hown hts (mX4_has lL G o σ f hI (by omega)) (cwV 1 hts gX4_removeAt_X4_has rfl rfl rfl vdX4_has ⟨Nat.le_of_ble_eq_true rfl, Nat.le_of_ble_eq_true rfl⟩) (oB.recv hK hM.1 rfl) hFO hK rfl hl.1 rfl dX4_removeAt_2 hcs (Nat.le_of_ble_eq_true rfl) ?_
  refine z_ifb_ne (pc := 5) (tgt := 9) E dX4_removeAt_5 (by decide) (fun h5 => ?_) (fun h5 => ?_)
  · refine lv_aload_n (pc := 9) E.1 E.2 dX4_removeAt_9 rfl (lv_at hl 0 rfl) ?_
    refine lv_dup (pc := 10) E.1 E.2 dX4_removeAt_10 rfl ?_
    refine g4_4 (pc := 11) E hts hin4 hown hK hM.1 (hts _ (List.mem_of_getElem? (i := 1) rfl)) dX4_removeAt_11 ?_
    refine z_iconst (pc := 14) E dX4_removeAt_14 ?_
    refine z_isub (pc := 15) E dX4_removeAt_15 ?_
    refine p4_4 (pc := 16) E hts hin4 hown hK hM.1 hS (Ax.at 0 (by decide)) (hts _ (List.mem_of_getElem? (i := 1) rfl)) dX4_removeAt_16 (fun H locs hnew hoth hS => ?_)
    have hM := GIr.p hM hnew (fun a _ h => hoth a h)
    refine lv_iload_n (pc := 19) E.1 E.2 dX4_removeAt_19 rfl (lv_at hl 1 rfl) ?_
    refine lv_istore_n (pc := 20) (lv' := [(2, .int (iI f)), (0, .ref (o 0)), (1, .int (iI f))]) E.1 E.2 dX4_removeAt_20 rfl hl (by decide) rfl (fun ls hl => ?_)
    suffices L21 : ∀ (nf : Nat), ∀ (i : Int), (f ≤ i ∧ i ≤ σ 4 - 1) → ((σ 4 - 1 - i).toNat) < nf → ∀  (H : Heap) (locs : List Loc), GIr G o [.ref (o 1), .ref (o 2), .ref (o 3), .ref (o 4), .int (iI (σ 4 - 1))] (cl0 gv f i) (cl0 ge f i) (cl0 gb f i) (cl0 gd f i) H → va_S (Ax o 5) ss.heap H locs → ∀ ls : Array Slot, lv_has ls 3 [(2, .int (iI i)), (0, .ref (o 0)), (1, .int (iI f))] → W pp lL ee ({ frames := 1, cells := 0, slots := 0, locals := 21 } : Room) ss mm [.ref (o 0), .int (iI f)].toArray below meth cC H locs 0 0 (MQ below (va_Qv (fun _ : Unit => True) (fun _ tZ => GI G o (dgF σ f) tZ.heap) (Ax o 5)) [.ref (o 0), .int (iI f)].toArray ss 0 0 (Ax o 5)) (F0 mm 21 ls []) from L21 _ f (by omega) (Nat.lt_succ_self _)  _ _ (by rw [cl0_0 gv, cl0_0 ge, cl0_0 gb, cl0_0 gd]; exact hM) hS ls (lv_sub hl [0, 1, 2] rfl)
    intro nfL21
    induction nfL21 with
    | zero => intro i hi hmzL21; exact absurd hmzL21 (Nat.not_lt_zero _)
    | succ nfL21 ihL21 =>
      intro i hi hmzL21  H locs hM hS ls hl
      refine lv_iload_n (pc := 21) E.1 E.2 dX4_removeAt_21 rfl (lv_at hl 0 rfl) ?_
      refine lv_aload_n (pc := 22) E.1 E.2 dX4_removeAt_22 rfl (lv_at hl 1 rfl) ?_
      refine g4_4 (pc := 23) E hts hin4 hown hK hM.1 (hts _ (List.mem_of_getElem? (i := 1) rfl)) dX4_removeAt_23 ?_
      refine z_icmp_ge (pc := 26) (tgt := 91) E ⟨by omega, by omega⟩ ⟨by omega, by omega⟩ dX4_removeAt_26 (by decide) (fun h26 => ?_) (fun h26 => ?_)
      · exact z_retWv E hr (by have ei : i = σ 4 - 1 := (by omega); subst ei; have e2 := dg_4 σ f; exact ⟨(cl0 gv f (σ 4 - 1)), (cl0 ge f (σ 4 - 1)), (cl0 gb f (σ 4 - 1)), (cl0 gd f (σ 4 - 1)), (by rw [e2]; exact hM), fun j j0 j1 => by rw [e2] at j1; have b := sj_b (f := f) (n := σ 4) j0 j1; have q := hs (sj f j) b.1 b.2; have w0 := dg_j σ (g := f) (c := 0) (by omega) j0 j1; rw [Int.add_zero, Int.add_zero] at w0; rw [cl0_j _ j1, cl0_j _ j1, cl0_j _ j1, cl0_j _ j1, w0, dg_j σ (c := 1) (by omega) j0 j1, dg_j σ (c := 2) (by omega) j0 j1, dg_j σ (c := 3) (by omega) j0 j1]; exact q⟩) hS hlocks dX4_removeAt_91
      · refine lv_aload_n (pc := 29) E.1 E.2 dX4_removeAt_29 rfl (lv_at hl 1 rfl) ?_
        refine g4_0 (pc := 30) E hts hin4 hown hK hM.1 (hts _ (List.mem_of_getElem? (i := 2) rfl)) dX4_removeAt_30 ?_
        refine lv_iload_n (pc := 33) E.1 E.2 dX4_removeAt_33 rfl (lv_at hl 0 rfl) ?_
        refine lv_aload_n (pc := 34) E.1 E.2 dX4_removeAt_34 rfl (lv_at hl 1 rfl) ?_
        refine g4_0 (pc := 35) E hts hin4 hown hK hM.1 (hts _ (List.mem_of_getElem? (i := 2) rfl)) dX4_removeAt_35 ?_
        refine lv_iload_n (pc := 38) E.1 E.2 dX4_removeAt_38 rfl (lv_at hl 0 rfl) ?_
        refine z_iconst (pc := 39) E dX4_removeAt_39 ?_
        refine z_iadd (pc := 40) E dX4_removeAt_40 ?_
        refine z_iaload (pc := 41) E hK hM.2.1 ⟨by omega, by omega⟩ (by decide) dX4_removeAt_41 ?_
        refine z_iastore (pc := 42) E hK hM.2.1 hS (Ax.at 1 (by decide)) ⟨by omega, by omega⟩ (by decide) dX4_removeAt_42 (fun H locs hnew hoth hS => ?_)
        have hM := GIr.a1 hM hnew (fun a _ h => hoth a h)
        refine lv_aload_n (pc := 43) E.1 E.2 dX4_removeAt_43 rfl (lv_at hl 1 rfl) ?_
        refine g4_1 (pc := 44) E hts hin4 hown hK hM.1 (hts _ (List.mem_of_getElem? (i := 3) rfl)) dX4_removeAt_44 ?_
        refine lv_iload_n (pc := 47) E.1 E.2 dX4_removeAt_47 rfl (lv_at hl 0 rfl) ?_
        refine lv_aload_n (pc := 48) E.1 E.2 dX4_removeAt_48 rfl (lv_at hl 1 rfl) ?_
        refine g4_1 (pc := 49) E hts hin4 hown hK hM.1 (hts _ (List.mem_of_getElem? (i := 3) rfl)) dX4_removeAt_49 ?_
        refine lv_iload_n (pc := 52) E.1 E.2 dX4_removeAt_52 rfl (lv_at hl 0 rfl) ?_
        refine z_iconst (pc := 53) E dX4_removeAt_53 ?_
        refine z_iadd (pc := 54) E dX4_removeAt_54 ?_
        refine z_iaload (pc := 55) E hK hM.2.2.1 ⟨by omega, by omega⟩ (by decide) dX4_removeAt_55 ?_
        refine z_iastore (pc := 56) E hK hM.2.2.1 hS (Ax.at 2 (by decide)) ⟨by omega, by omega⟩ (by decide) dX4_removeAt_56 (fun H locs hnew hoth hS => ?_)
        have hM := GIr.a2 hM hnew (fun a _ h => hoth a h)
        refine lv_aload_n (pc := 57) E.1 E.2 dX4_removeAt_57 rfl (lv_at hl 1 rfl) ?_
        refine g4_2 (pc := 58) E hts hin4 hown hK hM.1 (hts _ (List.mem_of_getElem? (i := 4) rfl)) dX4_removeAt_58 ?_
        refine lv_iload_n (pc := 61) E.1 E.2 dX4_removeAt_61 rfl (lv_at hl 0 rfl) ?_
        refine lv_aload_n (pc := 62) E.1 E.2 dX4_removeAt_62 rfl (lv_at hl 1 rfl) ?_
        refine g4_2 (pc := 63) E hts hin4 hown hK hM.1 (hts _ (List.mem_of_getElem? (i := 4) rfl)) dX4_removeAt_63 ?_
        refine lv_iload_n (pc := 66) E.1 E.2 dX4_removeAt_66 rfl (lv_at hl 0 rfl) ?_
        refine z_iconst (pc := 67) E dX4_removeAt_67 ?_
        refine z_iadd (pc := 68) E dX4_removeAt_68 ?_
        refine z_iaload (pc := 69) E hK hM.2.2.2.1 ⟨by omega, by omega⟩ (by decide) dX4_removeAt_69 ?_
        refine z_iastore (pc := 70) E hK hM.2.2.2.1 hS (Ax.at 3 (by decide)) ⟨by omega, by omega⟩ (by decide) dX4_removeAt_70 (fun H locs hnew hoth hS => ?_)
        have hM := GIr.a3 hM hnew (fun a _ h => hoth a h)
        refine lv_aload_n (pc := 71) E.1 E.2 dX4_removeAt_71 rfl (lv_at hl 1 rfl) ?_
        refine g4_3 (pc := 72) E hts hin4 hown hK hM.1 (hts _ (List.mem_of_getElem? (i := 5) rfl)) dX4_removeAt_72 ?_
        refine lv_iload_n (pc := 75) E.1 E.2 dX4_removeAt_75 rfl (lv_at hl 0 rfl) ?_
        refine lv_aload_n (pc := 76) E.1 E.2 dX4_removeAt_76 rfl (lv_at hl 1 rfl) ?_
        refine g4_3 (pc := 77) E hts hin4 hown hK hM.1 (hts _ (List.mem_of_getElem? (i := 5) rfl)) dX4_removeAt_77 ?_
        refine lv_iload_n (pc := 80) E.1 E.2 dX4_removeAt_80 rfl (lv_at hl 0 rfl) ?_
        refine z_iconst (pc := 81) E dX4_removeAt_81 ?_
        refine z_iadd (pc := 82) E dX4_removeAt_82 ?_
        refine z_iaload (pc := 83) E hK hM.2.2.2.2.1 ⟨by omega, by omega⟩ (by decide) dX4_removeAt_83 ?_
        refine z_iastore (pc := 84) E hK hM.2.2.2.2.1 hS (Ax.at 4 (by decide)) ⟨by omega, by omega⟩ (by decide) dX4_removeAt_84 (fun H locs hnew hoth hS => ?_)
        have hM := GIr.a4 hM hnew (fun a _ h => hoth a h)
        refine lv_iinc (pc := 85) (v := iI (i + 1)) (lv' := [(2, .int (iI (i + 1))), (0, .ref (o 0)), (1, .int (iI f))]) E.1 E.2 dX4_removeAt_85 hl (k := 0) rfl (iI_add _ _) (by decide) rfl (fun ls hl => ?_)
        refine lv_goto (pc := 88) (tgt := 21) E.1 E.2 dX4_removeAt_88 (by decide) ?_
        exact ihL21 (i + 1) (by omega) (by omega)  _ _ (by rw [← cl0_s gv hi.1, ← cl0_s ge hi.1, ← cl0_s gb hi.1, ← cl0_s gd hi.1]; exact hM) hS ls (lv_sub hl [0, 1, 2] rfl)
  · exact absurd hf h5
set_option maxHeartbeats 1000000 in
set_option maxRecDepth 100000 in
theorem mX3_removeAt (lL : Launch) (G : GG) (o : Nat → Nat) (σ : Int → Int) (f : Int) (hI : In σ) (hf : 1 ≤ f ∧ f < σ 2) : Met lL yX3_removeAt wsX3_removeAt ({ frames := 1, cells := 0, slots := 0, locals := 21 } : Room) (va_Pc [.ref (o 0), .int (iI f)] (fun U => FO G o σ U.heap ∧ KK G U)) (va_Qv (fun _ : Unit => True) (fun _ tZ => FO G o ((dcA (rf1 σ f) 69 f (σ 2 - 1))) tZ.heap) (Ax o 4)) 0 0 (Ax o 4) := by
  refine z_met (P := (fun H : Heap => FO G o σ H)) (by decide) rfl (Nat.le_of_ble_eq_true rfl) (fun pp ee ss mm below meth cC E hr hml hown hts hlocks hFO hK ls hl => ?_)
  have hl : lv_has ls 3 [(0, .ref (o 0)), (1, .int (iI f))] := hl
  have hcs : 0 ≤ (({ frames := 1, cells := 0, slots := 0, locals := 21 } : Room)).cells ∧ 0 ≤ (({ frames := 1, cells := 0, slots := 0, locals := 21 } : Room)).slots := ⟨Nat.zero_le _, Nat.zero_le _⟩
  have hS : va_S (Ax o 4) ss.heap ss.heap [] := va_S.rf
  have hin3 : ∀ w ∈ wsX30, w ∈ wsX3_removeAt := fun w h => List.mem_cons_of_mem _ (List.mem_append_right _ (h))
  obtain ⟨pa, na, ta, hM, hs⟩ := id hFO
  have hF := hI.F
  have hMm := hI.M
  have hGn := hI.Gn
  refine lv_aload_n (pc := 0) E.1 E.2 dX3_removeAt_0 rfl (lv_at hl 0 rfl) ?_
  refine lv_iload_n (pc := 1) E.1 E.2 dX3_removeAt_1 rfl (lv_at hl 1 rfl) ?_
  refine z_rVi (pc := 2) (As := [.int (iI f)]) (rest := []) E hml hown hts (mX3_has lL G o σ f hI (by omega)) (cwV 1 hts gX3_removeAt_X3_has rfl rfl rfl vdX3_has ⟨Nat.le_of_ble_eq_true rfl, Nat.le_of_ble_eq_true rfl⟩) (oB.recv hK hM.1 rfl) hFO hK rfl hl.1 rfl dX3_removeAt_2 hcs (Nat.le_of_ble_eq_true rfl) ?_
  refine z_ifb_ne (pc := 5) (tgt := 9) E dX3_removeAt_5 (by decide) (fun h5 => ?_) (fun h5 => ?_)
  · refine lv_aload_n (pc := 9) E.1 E.2 dX3_removeAt_9 rfl (lv_at hl 0 rfl) ?_
    refine lv_dup (pc := 10) E.1 E.2 dX3_removeAt_10 rfl ?_
    refine g3_3 (pc := 11) E hts hin3 hown hK hM.1 (hts _ (List.mem_of_getElem? (i := 1) rfl)) dX3_removeAt_11 ?_
    refine z_iconst (pc := 14) E dX3_removeAt_14 ?_
    refine z_isub (pc := 15) E dX3_removeAt_15 ?_
    refine p3_3 (pc := 16) E hts hin3 hown hK hM.1 hS (Ax.at 0 (by decide)) (hts _ (List.mem_of_getElem? (i := 1) rfl)) dX3_removeAt_16 (fun H locs hnew hoth hS => ?_)
    have hM := FOr.p hM hnew (fun a _ h => hoth a h)
    refine lv_iload_n (pc := 19) E.1 E.2 dX3_removeAt_19 rfl (lv_at hl 1 rfl) ?_
    refine lv_istore_n (pc := 20) (lv' := [(2, .int (iI f)), (0, .ref (o 0)), (1, .int (iI f))]) E.1 E.2 dX3_removeAt_20 rfl hl (by decide) rfl (fun ls hl => ?_)
    suffices L21 : ∀ (nf : Nat), ∀ (i : Int), (f ≤ i ∧ i ≤ σ 2 - 1) → ((σ 2 - 1 - i).toNat) < nf → ∀  (H : Heap) (locs : List Loc), FOr G o [.ref (o 1), .ref (o 2), .ref (o 3), .int (iI (σ 2 - 1))] (cl0 pa f i) (cl0 na f i) (cl0 ta f i) H → va_S (Ax o 4) ss.heap H locs → ∀ ls : Array Slot, lv_has ls 3 [(2, .int (iI i)), (0, .ref (o 0)), (1, .int (iI f))] → W pp lL ee ({ frames := 1, cells := 0, slots := 0, locals := 21 } : Room) ss mm [.ref (o 0), .int (iI f)].toArray below meth cC H locs 0 0 (MQ below (va_Qv (fun _ : Unit => True) (fun _ tZ => FO G o ((dcA (rf1 σ f) 69 f (σ 2 - 1))) tZ.heap) (Ax o 4)) [.ref (o 0), .int (iI f)].toArray ss 0 0 (Ax o 4)) (F0 mm 21 ls []) from L21 _ f (by omega) (Nat.lt_succ_self _)  _ _ (by rw [cl0_0 pa, cl0_0 na, cl0_0 ta]; exact hM) hS ls (lv_sub hl [0, 1, 2] rfl)
    intro nfL21
    induction nfL21 with
    | zero => intro i hi hmzL21; exact absurd hmzL21 (Nat.not_lt_zero _)
    | succ nfL21 ihL21 =>
      intro i hi hmzL21  H locs hM hS ls hl
      refine lv_iload_n (pc := 21) E.1 E.2 dX3_removeAt_21 rfl (lv_at hl 0 rfl) ?_
      refine lv_aload_n (pc := 22) E.1 E.2 dX3_removeAt_22 rfl (lv_at hl 1 rfl) ?_
      refine g3_3 (pc := 23) E hts hin3 hown hK hM.1 (hts _ (List.mem_of_getElem? (i := 1) rfl)) dX3_removeAt_23 ?_
      refine z_icmp_ge (pc := 26) (tgt := 77) E ⟨by omega, by omega⟩ ⟨by omega, by omega⟩ dX3_removeAt_26 (by decide) (fun h26 => ?_) (fun h26 => ?_)
      · have ei0 : i = σ 2 - 1 := by omega
        subst ei0
        refine z_iconst (pc := 77) E dX3_removeAt_77 ?_
        refine lv_istore_n (pc := 78) (lv' := [(2, .int (iI 0)), (0, .ref (o 0)), (1, .int (iI f))]) E.1 E.2 dX3_removeAt_78 rfl hl (by decide) rfl (fun ls hl => ?_)
        suffices L79 : ∀ (nf : Nat), ∀ (k : Int), (0 ≤ k ∧ k ≤ σ 2 - 1) → ((σ 2 - 1 - k).toNat) < nf → ∀  (H : Heap) (locs : List Loc), FOr G o [.ref (o 1), .ref (o 2), .ref (o 3), .int (iI (σ 2 - 1))] (dc0 (cl0 pa f (σ 2 - 1)) f k) (cl0 na f (σ 2 - 1)) (cl0 ta f (σ 2 - 1)) H → va_S (Ax o 4) ss.heap H locs → ∀ ls : Array Slot, lv_has ls 3 [(2, .int (iI k)), (0, .ref (o 0)), (1, .int (iI f))] → W pp lL ee ({ frames := 1, cells := 0, slots := 0, locals := 21 } : Room) ss mm [.ref (o 0), .int (iI f)].toArray below meth cC H locs 0 0 (MQ below (va_Qv (fun _ : Unit => True) (fun _ tZ => FO G o ((dcA (rf1 σ f) 69 f (σ 2 - 1))) tZ.heap) (Ax o 4)) [.ref (o 0), .int (iI f)].toArray ss 0 0 (Ax o 4)) (F0 mm 79 ls []) from L79 _ 0 (by omega) (Nat.lt_succ_self _)  _ _ (by rw [dc0_0]; exact hM) hS ls (lv_sub hl [0, 1, 2] rfl)
        intro nfL79
        induction nfL79 with
        | zero => intro k hk hmzL79; exact absurd hmzL79 (Nat.not_lt_zero _)
        | succ nfL79 ihL79 =>
          intro k hk hmzL79  H locs hM hS ls hl
          refine lv_iload_n (pc := 79) E.1 E.2 dX3_removeAt_79 rfl (lv_at hl 0 rfl) ?_
          refine lv_aload_n (pc := 80) E.1 E.2 dX3_removeAt_80 rfl (lv_at hl 1 rfl) ?_
          refine g3_3 (pc := 81) E hts hin3 hown hK hM.1 (hts _ (List.mem_of_getElem? (i := 1) rfl)) dX3_removeAt_81 ?_
          refine z_icmp_ge (pc := 84) (tgt := 113) E ⟨by omega, by omega⟩ ⟨by omega, by omega⟩ dX3_removeAt_84 (by decide) (fun h84 => ?_) (fun h84 => ?_)
          · exact z_retWv E hr (by have ei : k = σ 2 - 1 := (by omega); subst ei; have e2 := fr_2 hF hf; exact ⟨(dc0 (cl0 pa f (σ 2 - 1)) f (σ 2 - 1)), (cl0 na f (σ 2 - 1)), (cl0 ta f (σ 2 - 1)), (by rw [e2]; exact hM), fun j j0 j1 => by rw [e2] at j1; have b := sj_b (f := f) (n := σ 2) j0 j1; have q := hs (sj f j) b.1 b.2; rw [dc0_j _ j0 j1, cl0_j _ j1, cl0_j _ j1, cl0_j _ j1, fr_p hF hf j0 j1, fr_t hF hf (Or.inl rfl) j0 j1, fr_t hF hf (Or.inr rfl) j0 j1, q.1]; exact ⟨rfl, q.2.1, q.2.2⟩⟩) hS hlocks dX3_removeAt_113
          · refine lv_aload_n (pc := 87) E.1 E.2 dX3_removeAt_87 rfl (lv_at hl 1 rfl) ?_
            refine g3_0 (pc := 88) E hts hin3 hown hK hM.1 (hts _ (List.mem_of_getElem? (i := 2) rfl)) dX3_removeAt_88 ?_
            refine lv_iload_n (pc := 91) E.1 E.2 dX3_removeAt_91 rfl (lv_at hl 0 rfl) ?_
            have hc0 : -1 ≤ cl0 pa f (σ 2 - 1) k ∧ cl0 pa f (σ 2 - 1) k < 40 := by unfold cl0; split; (rw [(hs (k + 1) (by omega) (by omega)).1]; have z := hI.par (f := k + 1) (by omega) (by omega); omega); (rw [(hs k (by omega) (by omega)).1]; have z := hI.par (f := k) (by omega) (by omega); omega)
            refine z_iaload (pc := 92) E hK hM.2.1 ⟨by omega, by omega⟩ (by decide) dX3_removeAt_92 ?_
            rw [show ((dc0 (cl0 pa f (σ 2 - 1)) f k) k) = (cl0 pa f (σ 2 - 1) k) from (dc0_n _ f k)]
            refine lv_iload_n (pc := 93) E.1 E.2 dX3_removeAt_93 rfl (lv_at hl 2 rfl) ?_
            refine z_icmp_le (pc := 94) (tgt := 107) E ⟨by omega, by omega⟩ ⟨by omega, by omega⟩ dX3_removeAt_94 (by decide) (fun h94 => ?_) (fun h94 => ?_)
            · refine lv_iinc (pc := 107) (v := iI (k + 1)) (lv' := [(2, .int (iI (k + 1))), (0, .ref (o 0)), (1, .int (iI f))]) E.1 E.2 dX3_removeAt_107 hl (k := 0) rfl (iI_add _ _) (by decide) rfl (fun ls hl => ?_)
              refine lv_goto (pc := 110) (tgt := 79) E.1 E.2 dX3_removeAt_110 (by decide) ?_
              exact ihL79 (k + 1) (by omega) (by omega)  _ _ (by first | (rw [← dc0_y hk.1 h94]; exact hM) | (rw [← dc0_x hk.1 h94]; exact hM)) hS ls (lv_sub hl [0, 1, 2] rfl)
            · refine lv_aload_n (pc := 97) E.1 E.2 dX3_removeAt_97 rfl (lv_at hl 1 rfl) ?_
              refine g3_0 (pc := 98) E hts hin3 hown hK hM.1 (hts _ (List.mem_of_getElem? (i := 2) rfl)) dX3_removeAt_98 ?_
              refine lv_iload_n (pc := 101) E.1 E.2 dX3_removeAt_101 rfl (lv_at hl 0 rfl) ?_
              refine lv_dup2_11 (pc := 102) E.1 E.2 dX3_removeAt_102 rfl rfl ?_
              refine z_iaload (pc := 103) E hK hM.2.1 ⟨by omega, by omega⟩ (by decide) dX3_removeAt_103 ?_
              rw [show ((dc0 (cl0 pa f (σ 2 - 1)) f k) k) = (cl0 pa f (σ 2 - 1) k) from (dc0_n _ f k)]
              refine z_iconst (pc := 104) E dX3_removeAt_104 ?_
              refine z_isub (pc := 105) E dX3_removeAt_105 ?_
              refine z_iastore (pc := 106) E hK hM.2.1 hS (Ax.at 1 (by decide)) ⟨by omega, by omega⟩ (by decide) dX3_removeAt_106 (fun H locs hnew hoth hS => ?_)
              have hM := FOr.a1 hM hnew (fun a _ h => hoth a h)
              refine lv_iinc (pc := 107) (v := iI (k + 1)) (lv' := [(2, .int (iI (k + 1))), (0, .ref (o 0)), (1, .int (iI f))]) E.1 E.2 dX3_removeAt_107 hl (k := 0) rfl (iI_add _ _) (by decide) rfl (fun ls hl => ?_)
              refine lv_goto (pc := 110) (tgt := 79) E.1 E.2 dX3_removeAt_110 (by decide) ?_
              exact ihL79 (k + 1) (by omega) (by omega)  _ _ (by first | (rw [← dc0_y hk.1 h94]; exact hM) | (rw [← dc0_x hk.1 h94]; exact hM)) hS ls (lv_sub hl [0, 1, 2] rfl)
      · refine lv_aload_n (pc := 29) E.1 E.2 dX3_removeAt_29 rfl (lv_at hl 1 rfl) ?_
        refine g3_0 (pc := 30) E hts hin3 hown hK hM.1 (hts _ (List.mem_of_getElem? (i := 2) rfl)) dX3_removeAt_30 ?_
        refine lv_iload_n (pc := 33) E.1 E.2 dX3_removeAt_33 rfl (lv_at hl 0 rfl) ?_
        refine lv_aload_n (pc := 34) E.1 E.2 dX3_removeAt_34 rfl (lv_at hl 1 rfl) ?_
        refine g3_0 (pc := 35) E hts hin3 hown hK hM.1 (hts _ (List.mem_of_getElem? (i := 2) rfl)) dX3_removeAt_35 ?_
        refine lv_iload_n (pc := 38) E.1 E.2 dX3_removeAt_38 rfl (lv_at hl 0 rfl) ?_
        refine z_iconst (pc := 39) E dX3_removeAt_39 ?_
        refine z_iadd (pc := 40) E dX3_removeAt_40 ?_
        refine z_iaload (pc := 41) E hK hM.2.1 ⟨by omega, by omega⟩ (by decide) dX3_removeAt_41 ?_
        refine z_iastore (pc := 42) E hK hM.2.1 hS (Ax.at 1 (by decide)) ⟨by omega, by omega⟩ (by decide) dX3_removeAt_42 (fun H locs hnew hoth hS => ?_)
        have hM := FOr.a1 hM hnew (fun a _ h => hoth a h)
        refine lv_aload_n (pc := 43) E.1 E.2 dX3_removeAt_43 rfl (lv_at hl 1 rfl) ?_
        refine g3_1 (pc := 44) E hts hin3 hown hK hM.1 (hts _ (List.mem_of_getElem? (i := 3) rfl)) dX3_removeAt_44 ?_
        refine lv_iload_n (pc := 47) E.1 E.2 dX3_removeAt_47 rfl (lv_at hl 0 rfl) ?_
        refine lv_aload_n (pc := 48) E.1 E.2 dX3_removeAt_48 rfl (lv_at hl 1 rfl) ?_
        refine g3_1 (pc := 49) E hts hin3 hown hK hM.1 (hts _ (List.mem_of_getElem? (i := 3) rfl)) dX3_removeAt_49 ?_
        refine lv_iload_n (pc := 52) E.1 E.2 dX3_removeAt_52 rfl (lv_at hl 0 rfl) ?_
        refine z_iconst (pc := 53) E dX3_removeAt_53 ?_
        refine z_iadd (pc := 54) E dX3_removeAt_54 ?_
        refine z_laload (pc := 55) E hK hM.2.2.1 ⟨by omega, by omega⟩ (by decide) dX3_removeAt_55 ?_
        refine z_lastore (pc := 56) E hK hM.2.2.1 hS (Ax.at 2 (by decide)) ⟨by omega, by omega⟩ (by decide) dX3_removeAt_56 (fun H locs hnew hoth hS => ?_)
        have hM := FOr.a2 hM hnew (fun a _ h => hoth a h)
        refine lv_aload_n (pc := 57) E.1 E.2 dX3_removeAt_57 rfl (lv_at hl 1 rfl) ?_
        refine g3_2 (pc := 58) E hts hin3 hown hK hM.1 (hts _ (List.mem_of_getElem? (i := 4) rfl)) dX3_removeAt_58 ?_
        refine lv_iload_n (pc := 61) E.1 E.2 dX3_removeAt_61 rfl (lv_at hl 0 rfl) ?_
        refine lv_aload_n (pc := 62) E.1 E.2 dX3_removeAt_62 rfl (lv_at hl 1 rfl) ?_
        refine g3_2 (pc := 63) E hts hin3 hown hK hM.1 (hts _ (List.mem_of_getElem? (i := 4) rfl)) dX3_removeAt_63 ?_
        refine lv_iload_n (pc := 66) E.1 E.2 dX3_removeAt_66 rfl (lv_at hl 0 rfl) ?_
        refine z_iconst (pc := 67) E dX3_removeAt_67 ?_
        refine z_iadd (pc := 68) E dX3_removeAt_68 ?_
        refine z_iaload (pc := 69) E hK hM.2.2.2.1 ⟨by omega, by omega⟩ (by decide) dX3_removeAt_69 ?_
        refine z_iastore (pc := 70) E hK hM.2.2.2.1 hS (Ax.at 3 (by decide)) ⟨by omega, by omega⟩ (by decide) dX3_removeAt_70 (fun H locs hnew hoth hS => ?_)
        have hM := FOr.a3 hM hnew (fun a _ h => hoth a h)
        refine lv_iinc (pc := 71) (v := iI (i + 1)) (lv' := [(2, .int (iI (i + 1))), (0, .ref (o 0)), (1, .int (iI f))]) E.1 E.2 dX3_removeAt_71 hl (k := 0) rfl (iI_add _ _) (by decide) rfl (fun ls hl => ?_)
        refine lv_goto (pc := 74) (tgt := 21) E.1 E.2 dX3_removeAt_74 (by decide) ?_
        exact ihL21 (i + 1) (by omega) (by omega)  _ _ (by rw [← cl0_s pa hi.1, ← cl0_s na hi.1, ← cl0_s ta hi.1]; exact hM) hS ls (lv_sub hl [0, 1, 2] rfl)
  · exact absurd (show 0 ≤ f ∧ f < σ 2 from ⟨by omega, hf.2⟩) h5
set_option maxHeartbeats 1000000 in
set_option maxRecDepth 100000 in
theorem mX2_closeGap (lL : Launch) (G : GG) (o : Nat → Nat) (σ : Int → Int) (f : Int) (hm : 0 ≤ σ 3 ∧ σ 3 ≤ 60) (hf : 0 ≤ f ∧ f < 40) (hlz : ∀ k, 0 ≤ k → k < σ 3 → 0 ≤ σ (189 + k) ∧ σ (189 + k) < 40) : Met lL yX2_closeGap wsX2_closeGap ({ frames := 0, cells := 0, slots := 0, locals := 0 } : Room) (va_Pc [.ref (o 0), .int (iI f)] (fun U => FI G o σ U.heap ∧ KK G U)) (va_Qv (fun _ : Unit => True) (fun _ tZ => FI G o (dcA σ 189 f (σ 3)) tZ.heap) (Ax o 3)) 0 0 (Ax o 3) := by
  refine z_met (P := (fun H : Heap => FI G o σ H)) (by decide) rfl (Nat.le_of_ble_eq_true rfl) (fun pp ee ss mm below meth cC E hr hml hown hts hlocks hFO hK ls hl => ?_)
  have hl : lv_has ls 3 [(0, .ref (o 0)), (1, .int (iI f))] := hl
  have hcs : 0 ≤ (({ frames := 0, cells := 0, slots := 0, locals := 0 } : Room)).cells ∧ 0 ≤ (({ frames := 0, cells := 0, slots := 0, locals := 0 } : Room)).slots := ⟨Nat.zero_le _, Nat.zero_le _⟩
  have hS : va_S (Ax o 3) ss.heap ss.heap [] := va_S.rf
  have hin2 : ∀ w ∈ wsX20, w ∈ wsX2_closeGap := fun w h => List.mem_cons_of_mem _ (List.mem_append_right _ (h))
  obtain ⟨pl, sz, hM, hs⟩ := id hFO
  refine z_iconst (pc := 0) E dX2_closeGap_0 ?_
  refine lv_istore_n (pc := 1) (lv' := [(2, .int (iI 0)), (0, .ref (o 0)), (1, .int (iI f))]) E.1 E.2 dX2_closeGap_1 rfl hl (by decide) rfl (fun ls hl => ?_)
  suffices L2 : ∀ (nf : Nat), ∀ (k : Int), (0 ≤ k ∧ k ≤ σ 3) → ((σ 3 - k).toNat) < nf → ∀  (H : Heap) (locs : List Loc), FIr G o [.ref (o 1), .ref (o 2), .int (iI (σ 3))] (dc0 pl f k) sz H → va_S (Ax o 3) ss.heap H locs → ∀ ls : Array Slot, lv_has ls 3 [(2, .int (iI k)), (0, .ref (o 0)), (1, .int (iI f))] → W pp lL ee ({ frames := 0, cells := 0, slots := 0, locals := 0 } : Room) ss mm [.ref (o 0), .int (iI f)].toArray below meth cC H locs 0 0 (MQ below (va_Qv (fun _ : Unit => True) (fun _ tZ => FI G o (dcA σ 189 f (σ 3)) tZ.heap) (Ax o 3)) [.ref (o 0), .int (iI f)].toArray ss 0 0 (Ax o 3)) (F0 mm 2 ls []) from L2 _ 0 (by omega) (Nat.lt_succ_self _)  _ _ (by rw [dc0_0]; exact hM) hS ls (lv_sub hl [0, 1, 2] rfl)
  intro nfL2
  induction nfL2 with
  | zero => intro k hk hmzL2; exact absurd hmzL2 (Nat.not_lt_zero _)
  | succ nfL2 ihL2 =>
    intro k hk hmzL2  H locs hM hS ls hl
    refine lv_iload_n (pc := 2) E.1 E.2 dX2_closeGap_2 rfl (lv_at hl 0 rfl) ?_
    refine lv_aload_n (pc := 3) E.1 E.2 dX2_closeGap_3 rfl (lv_at hl 1 rfl) ?_
    refine g2_2 (pc := 4) E hts hin2 hown hK hM.1 (hts _ (List.mem_of_getElem? (i := 1) rfl)) dX2_closeGap_4 ?_
    refine z_icmp_ge (pc := 7) (tgt := 36) E ⟨by omega, by omega⟩ ⟨by omega, by omega⟩ dX2_closeGap_7 (by decide) (fun h7 => ?_) (fun h7 => ?_)
    · exact z_retWv E hr (by have ei : k = σ 3 := (by omega); subst ei; have e2 : dcA σ 189 f (σ 3) 3 = σ 3 := (by unfold dcA; rw [if_neg (by omega)]); exact ⟨(dc0 pl f (σ 3)), sz, (by rw [e2]; exact hM), fun j j0 j1 => by rw [e2] at j1; have q := hs j j0 j1; rw [dc0_j _ j0 j1, q.1]; exact ⟨(if_pos (show 189 ≤ 189 + j ∧ 189 + j < 189 + σ 3 by omega)).symm, q.2.trans (if_neg (show ¬ (189 ≤ 249 + j ∧ 249 + j < 189 + σ 3) by omega)).symm⟩⟩) hS hlocks dX2_closeGap_36
    · refine lv_aload_n (pc := 10) E.1 E.2 dX2_closeGap_10 rfl (lv_at hl 1 rfl) ?_
      refine g2_0 (pc := 11) E hts hin2 hown hK hM.1 (hts _ (List.mem_of_getElem? (i := 2) rfl)) dX2_closeGap_11 ?_
      refine lv_iload_n (pc := 14) E.1 E.2 dX2_closeGap_14 rfl (lv_at hl 0 rfl) ?_
      have hlk : 0 ≤ pl k ∧ pl k < 40 := by rw [(hs k hk.1 (by omega)).1]; exact hlz k hk.1 (by omega)
      refine z_iaload (pc := 15) E hK hM.2.1 ⟨by omega, by omega⟩ (by decide) dX2_closeGap_15 ?_
      rw [show ((dc0 pl f k) k) = (pl k) from (dc0_n _ f k)]
      refine lv_iload_n (pc := 16) E.1 E.2 dX2_closeGap_16 rfl (lv_at hl 2 rfl) ?_
      refine z_icmp_le (pc := 17) (tgt := 30) E ⟨by omega, by omega⟩ ⟨by omega, by omega⟩ dX2_closeGap_17 (by decide) (fun h17 => ?_) (fun h17 => ?_)
      · refine lv_iinc (pc := 30) (v := iI (k + 1)) (lv' := [(2, .int (iI (k + 1))), (0, .ref (o 0)), (1, .int (iI f))]) E.1 E.2 dX2_closeGap_30 hl (k := 0) rfl (iI_add _ _) (by decide) rfl (fun ls hl => ?_)
        refine lv_goto (pc := 33) (tgt := 2) E.1 E.2 dX2_closeGap_33 (by decide) ?_
        exact ihL2 (k + 1) (by omega) (by omega)  _ _ (by first | (rw [← dc0_y hk.1 h17]; exact hM) | (rw [← dc0_x hk.1 h17]; exact hM)) hS ls (lv_sub hl [0, 1, 2] rfl)
      · refine lv_aload_n (pc := 20) E.1 E.2 dX2_closeGap_20 rfl (lv_at hl 1 rfl) ?_
        refine g2_0 (pc := 21) E hts hin2 hown hK hM.1 (hts _ (List.mem_of_getElem? (i := 2) rfl)) dX2_closeGap_21 ?_
        refine lv_iload_n (pc := 24) E.1 E.2 dX2_closeGap_24 rfl (lv_at hl 0 rfl) ?_
        refine lv_dup2_11 (pc := 25) E.1 E.2 dX2_closeGap_25 rfl rfl ?_
        refine z_iaload (pc := 26) E hK hM.2.1 ⟨by omega, by omega⟩ (by decide) dX2_closeGap_26 ?_
        rw [show ((dc0 pl f k) k) = (pl k) from (dc0_n _ f k)]
        refine z_iconst (pc := 27) E dX2_closeGap_27 ?_
        refine z_isub (pc := 28) E dX2_closeGap_28 ?_
        refine z_iastore (pc := 29) E hK hM.2.1 hS (Ax.at 1 (by decide)) ⟨by omega, by omega⟩ (by decide) dX2_closeGap_29 (fun H locs hnew hoth hS => ?_)
        have hM := FIr.a1 hM hnew (fun a _ h => hoth a h)
        refine lv_iinc (pc := 30) (v := iI (k + 1)) (lv' := [(2, .int (iI (k + 1))), (0, .ref (o 0)), (1, .int (iI f))]) E.1 E.2 dX2_closeGap_30 hl (k := 0) rfl (iI_add _ _) (by decide) rfl (fun ls hl => ?_)
        refine lv_goto (pc := 33) (tgt := 2) E.1 E.2 dX2_closeGap_33 (by decide) ?_
        exact ihL2 (k + 1) (by omega) (by omega)  _ _ (by first | (rw [← dc0_y hk.1 h17]; exact hM) | (rw [← dc0_x hk.1 h17]; exact hM)) hS ls (lv_sub hl [0, 1, 2] rfl)
