theorem vdJ9_floorMod_7cf53 : yJ9_floorMod_7cf53.cls = RJ9 ∧ yJ9_floorMod_7cf53.cls ≠ "java/lang/invoke/MethodHandle" ∧ yJ9_floorMod_7cf53.cls ≠ "java/lang/invoke/VarHandle" ∧ (parseMethodDescriptor yJ9_floorMod_7cf53.desc).map (fun d => d.parameters.length) = some 2 := by decide +kernel
theorem vdX7_remember : yX7_remember.cls = RX7 ∧ yX7_remember.cls ≠ "java/lang/invoke/MethodHandle" ∧ yX7_remember.cls ≠ "java/lang/invoke/VarHandle" ∧ (parseMethodDescriptor yX7_remember.desc).map (fun d => d.parameters.length) = some 0 := by decide +kernel
theorem vdX7_needRange : yX7_needRange.cls = RX7 ∧ yX7_needRange.cls ≠ "java/lang/invoke/MethodHandle" ∧ yX7_needRange.cls ≠ "java/lang/invoke/VarHandle" ∧ (parseMethodDescriptor yX7_needRange.desc).map (fun d => d.parameters.length) = some 3 := by decide +kernel
theorem vdX7_needProject : yX7_needProject.cls = RX7 ∧ yX7_needProject.cls ≠ "java/lang/invoke/MethodHandle" ∧ yX7_needProject.cls ≠ "java/lang/invoke/VarHandle" ∧ (parseMethodDescriptor yX7_needProject.desc).map (fun d => d.parameters.length) = some 1 := by decide +kernel
theorem vdX7_needAccount : yX7_needAccount.cls = RX7 ∧ yX7_needAccount.cls ≠ "java/lang/invoke/MethodHandle" ∧ yX7_needAccount.cls ≠ "java/lang/invoke/VarHandle" ∧ (parseMethodDescriptor yX7_needAccount.desc).map (fun d => d.parameters.length) = some 2 := by decide +kernel
theorem vdX7_needNoReason : yX7_needNoReason.cls = RX7 ∧ yX7_needNoReason.cls ≠ "java/lang/invoke/MethodHandle" ∧ yX7_needNoReason.cls ≠ "java/lang/invoke/VarHandle" ∧ (parseMethodDescriptor yX7_needNoReason.desc).map (fun d => d.parameters.length) = some 1 := by decide +kernel
theorem vdX7_needFolder : yX7_needFolder.cls = RX7 ∧ yX7_needFolder.cls ≠ "java/lang/invoke/MethodHandle" ∧ yX7_needFolder.cls ≠ "java/lang/invoke/VarHandle" ∧ (parseMethodDescriptor yX7_needFolder.desc).map (fun d => d.parameters.length) = some 1 := by decide +kernel
theorem vdX7_needFile : yX7_needFile.cls = RX7 ∧ yX7_needFile.cls ≠ "java/lang/invoke/MethodHandle" ∧ yX7_needFile.cls ≠ "java/lang/invoke/VarHandle" ∧ (parseMethodDescriptor yX7_needFile.desc).map (fun d => d.parameters.length) = some 1 := by decide +kernel
theorem vdX7_needGift : yX7_needGift.cls = RX7 ∧ yX7_needGift.cls ≠ "java/lang/invoke/MethodHandle" ∧ yX7_needGift.cls ≠ "java/lang/invoke/VarHandle" ∧ (parseMethodDescriptor yX7_needGift.desc).map (fun d => d.parameters.length) = some 1 := by decide +kernel
theorem vdX7_isName : yX7_isName.cls = RX7 ∧ yX7_isName.cls ≠ "java/lang/invoke/MethodHandle" ∧ yX7_isName.cls ≠ "java/lang/invoke/VarHandle" ∧ (parseMethodDescriptor yX7_isName.desc).map (fun d => d.parameters.length) = some 1 := by decide +kernel
theorem vdX7_errorPosition : yX7_errorPosition.cls = RX7 ∧ yX7_errorPosition.cls ≠ "java/lang/invoke/MethodHandle" ∧ yX7_errorPosition.cls ≠ "java/lang/invoke/VarHandle" ∧ (parseMethodDescriptor yX7_errorPosition.desc).map (fun d => d.parameters.length) = some 0 := by decide +kernel
theorem vdX7_find : yX7_find.cls = RX7 ∧ yX7_find.cls ≠ "java/lang/invoke/MethodHandle" ∧ yX7_find.cls ≠ "java/lang/invoke/VarHandle" ∧ (parseMethodDescriptor yX7_find.desc).map (fun d => d.parameters.length) = some 1 := by decide +kernel
theorem vdX7_count : yX7_count.cls = RX7 ∧ yX7_count.cls ≠ "java/lang/invoke/MethodHandle" ∧ yX7_count.cls ≠ "java/lang/invoke/VarHandle" ∧ (parseMethodDescriptor yX7_count.desc).map (fun d => d.parameters.length) = some 1 := by decide +kernel
theorem vdX7_folder : yX7_folder.cls = RX7 ∧ yX7_folder.cls ≠ "java/lang/invoke/MethodHandle" ∧ yX7_folder.cls ≠ "java/lang/invoke/VarHandle" ∧ (parseMethodDescriptor yX7_folder.desc).map (fun d => d.parameters.length) = some 2 := by decide +kernel
theorem vdX7_heaviest : yX7_heaviest.cls = RX7 ∧ yX7_heaviest.cls ≠ "java/lang/invoke/MethodHandle" ∧ yX7_heaviest.cls ≠ "java/lang/invoke/VarHandle" ∧ (parseMethodDescriptor yX7_heaviest.desc).map (fun d => d.parameters.length) = some 1 := by decide +kernel
set_option maxHeartbeats 1000000 in
set_option maxRecDepth 100000 in
theorem mJ9_floorMod_7cf53 (lL : Launch) (G : GG) (x : Int) (hx : 0 ≤ x ∧ x < 2147483648) : Met lL yJ9_floorMod_7cf53 wsJ9_floorMod_7cf53 ({ frames := 0, cells := 0, slots := 0, locals := 0 } : Room) (va_Pc [.int (iI x), .int (iI 8)] (fun U => True ∧ KK G U)) (vp_Si (fun r => r = (iI (x % 8)))) 0 0 (fun _ => False) := by
  refine z_metF (P := (fun H : Heap => True)) (by decide +kernel) rfl (Nat.le_of_ble_eq_true rfl) (fun pp ee ss mm below meth cC E hr hml hown hts hlocks hM hK ls hl => ?_)
  have hl : lv_has ls 3 [(0, .int (iI x)), (1, .int (iI 8))] := hl
  have hcs : 0 ≤ (({ frames := 0, cells := 0, slots := 0, locals := 0 } : Room)).cells ∧ 0 ≤ (({ frames := 0, cells := 0, slots := 0, locals := 0 } : Room)).slots := ⟨Nat.zero_le _, Nat.zero_le _⟩
  refine lv_iload_n (pc := 0) E.1 E.2 dJ9_floorMod_7cf53_0 rfl (lv_at hl 0 rfl) ?_
  refine lv_iload_n (pc := 1) E.1 E.2 dJ9_floorMod_7cf53_1 rfl (lv_at hl 1 rfl) ?_
  refine z_iremN (pc := 2) E ⟨by omega, by omega⟩ ⟨by omega, by omega⟩ dJ9_floorMod_7cf53_2 ?_
  refine lv_istore_n (pc := 3) (lv' := [(2, .int (iI (x % 8))), (0, .int (iI x)), (1, .int (iI 8))]) E.1 E.2 dJ9_floorMod_7cf53_3 rfl hl (by decide) rfl (fun ls hl => ?_)
  refine lv_iload_n (pc := 4) E.1 E.2 dJ9_floorMod_7cf53_4 rfl (lv_at hl 1 rfl) ?_
  refine lv_iload_n (pc := 5) E.1 E.2 dJ9_floorMod_7cf53_5 rfl (lv_at hl 2 rfl) ?_
  refine z_ixor8 (pc := 6) E ⟨by omega, by omega⟩ dJ9_floorMod_7cf53_6 (fun z6 hz6 => ?_)
  refine z_if_ge (pc := 7) (tgt := 18) E ⟨by omega, by omega⟩ dJ9_floorMod_7cf53_7 (by decide) (fun h7 => ?_) (fun h7 => ?_)
  · refine lv_iload_n (pc := 18) E.1 E.2 dJ9_floorMod_7cf53_18 rfl (lv_at hl 0 rfl) ?_
    exact z_retRi E hr rfl hlocks dJ9_floorMod_7cf53_19
  · exact absurd h7 (by omega)
set_option maxHeartbeats 1000000 in
set_option maxRecDepth 100000 in
theorem mX7_remember (lL : Launch) (G : GG) (o : Nat → Nat) (ν σ : Int → Int) (π : Nat → Int → Int) (δ τ ω : Int → Int) (hI : In σ) (hc : 0 ≤ ν 2 ∧ ν 2 ≤ 1000000) (hu : 0 ≤ ν 3 ∧ ν 3 ≤ 8) : Met lL yX7_remember wsX7_remember ({ frames := 3, cells := 0, slots := 0, locals := 132 } : Room) (va_Pc [.ref (o 0)] (fun U => QT G o ν σ π δ τ ω U.heap ∧ KK G U)) (va_Qv (fun _ : Unit => True) (fun _ tZ => QT G o (zu (zu ν 2 (ν 2 + 1)) 3 (min (ν 3 + 1) 8)) σ (pU π (ν 2 % 8) σ) δ τ ω tZ.heap) (Ax o 187)) 0 0 (Ax o 187) := by
  refine z_met (P := (fun H : Heap => QT G o ν σ π δ τ ω H)) (by decide) rfl (Nat.le_of_ble_eq_true rfl) (fun pp ee ss mm below meth cC E hr hml hown hts hlocks hQ hK ls hl => ?_)
  have hl : lv_has ls 2 [(0, .ref (o 0))] := hl
  have hcs : 0 ≤ (({ frames := 3, cells := 0, slots := 0, locals := 132 } : Room)).cells ∧ 0 ≤ (({ frames := 3, cells := 0, slots := 0, locals := 132 } : Room)).slots := ⟨Nat.zero_le _, Nat.zero_le _⟩
  have hS : va_S (Ax o 187) ss.heap ss.heap [] := va_S.rf
  have hin7 : ∀ w ∈ wsX70, w ∈ wsX7_remember := fun w h => List.mem_cons_of_mem _ (List.mem_append_left _ (List.mem_append_left _ (List.mem_append_left _ (List.mem_append_left _ (List.mem_append_left _ (List.mem_append_right _ (h)))))))
  have hF := hI.F
  have hMm := hI.M
  have hGn := hI.Gn
  have hTi := hI.ti
  have hGr := hI.gr
  refine lv_aload_n (pc := 0) E.1 E.2 dX7_remember_0 rfl (lv_at hl 0 rfl) ?_
  refine g7_1 (pc := 1) E hts hin7 hown hK hQ.ob (hts _ (List.mem_of_getElem? (i := 1) rfl)) dX7_remember_1 ?_
  refine lv_aload_n (pc := 4) E.1 E.2 dX7_remember_4 rfl (lv_at hl 0 rfl) ?_
  refine g7_2 (pc := 5) E hts hin7 hown hK hQ.ob (hts _ (List.mem_of_getElem? (i := 2) rfl)) dX7_remember_5 ?_
  refine z_bipush (pc := 8) E (by decide) dX7_remember_8 ?_
  refine z_rSi (pc := 10) (P := fun _ => True) (As := [.int (iI (ν 2)), .int (iI 8)]) (rest := [.ref (o 19)]) E hml hown hts (mJ9_floorMod_7cf53 lL G (ν 2) (by omega)) (va_cwS 2 hts gX7_remember_J9_floorMod_7cf53 rfl rfl rfl vdJ9_floorMod_7cf53.2 ⟨Nat.le_of_ble_eq_true rfl, Nat.le_of_ble_eq_true rfl⟩) trivial hK rfl hl.1 rfl dX7_remember_10 hcs (Nat.le_of_ble_eq_true rfl) ?_
  refine z_aaload (pc := 13) E hK hQ.past ⟨by omega, by omega⟩ (by decide) dX7_remember_13 ?_
  refine lv_astore_n (pc := 14) (lv' := [(1, .ref (o (20 + 18 * ((ν 2) % 8).toNat))), (0, .ref (o 0))]) E.1 E.2 dX7_remember_14 rfl hl (by decide) rfl (fun ls hl => ?_)
  refine lv_aload_n (pc := 15) E.1 E.2 dX7_remember_15 rfl (lv_at hl 0 rfl) ?_
  refine lv_ifnull (pc := 16) E.1 E.2 dX7_remember_16 ?_
  refine lv_aload_n (pc := 19) E.1 E.2 dX7_remember_19 rfl (lv_at hl 0 rfl) ?_
  refine lv_aload_n (pc := 20) E.1 E.2 dX7_remember_20 rfl (lv_at hl 1 rfl) ?_
  refine g7_0 (pc := 21) E hts hin7 hown hK hQ.ob (hts _ (List.mem_of_getElem? (i := 3) rfl)) dX7_remember_21 ?_
  refine z_wVv (pc := 24) (P := fun H9 : Heap => ST G (fun k => o (20 + 18 * ((ν 2) % 8).toNat + k)) (π ((ν 2) % 8).toNat) H9 ∧ ST G (fun k => o (1 + k)) σ H9) (As := [.ref (o 1)]) (rest := []) E hml hown hts (mX6_copyFrom lL G (fun k => o (20 + 18 * ((ν 2) % 8).toNat + k)) (fun k => o (1 + k)) (π ((ν 2) % 8).toNat) σ (fun i j hi hj => hQ.ij.ne _ _ (by omega) (by omega) (by omega))) (cwV 1 hts gX7_remember_X6_copyFrom rfl rfl rfl vdX6_copyFrom ⟨Nat.le_of_ble_eq_true rfl, Nat.le_of_ble_eq_true rfl⟩) (oB.recv hK (hQ.old (i := ((ν 2) % 8).toNat) (by omega)).1 rfl) (And.intro (hQ.old (by omega)) hQ.now) hK hS (fun q ⟨k, hk, e⟩ => ⟨20 + 18 * ((ν 2) % 8).toNat + k, by omega, e⟩) rfl hl.1 rfl dX7_remember_24 hcs (Nat.le_of_ble_eq_true rfl) (fun H locs hnew hsz hoth hS => ?_)
  have hQ := QT.upP (i := ((ν 2) % 8).toNat) (by omega) hQ hnew (fun q h1 h2 => hoth q h1 h2)
  have hQ : QT G o ν σ (pU π ((ν 2) % 8) σ) δ τ ω H := hQ
  refine lv_aload_n (pc := 27) E.1 E.2 dX7_remember_27 rfl (lv_at hl 1 rfl) ?_
  refine lv_dup (pc := 28) E.1 E.2 dX7_remember_28 rfl ?_
  refine g7_2 (pc := 29) E hts hin7 hown hK hQ.ob (hts _ (List.mem_of_getElem? (i := 2) rfl)) dX7_remember_29 ?_
  refine z_iconst (pc := 32) E dX7_remember_32 ?_
  refine z_iadd (pc := 33) E dX7_remember_33 ?_
  refine p7_2 (pc := 34) E hts hin7 hown hK hQ.ob hS (Ax.at 0 (by decide)) (hts _ (List.mem_of_getElem? (i := 2) rfl)) dX7_remember_34 (fun H locs hnew hoth hS => ?_)
  have hQ := QT.upO (ν2 := (zu ν 2 ((ν 2) + 1))) hQ (by simpa only [zu, Int.reduceEq, reduceIte] using hnew) (fun q h => hoth q h) (fun j hj => by simp only [zu]; (repeat' split) <;> first | rfl | omega)
  refine lv_aload_n (pc := 37) E.1 E.2 dX7_remember_37 rfl (lv_at hl 1 rfl) ?_
  refine lv_aload_n (pc := 38) E.1 E.2 dX7_remember_38 rfl (lv_at hl 1 rfl) ?_
  refine g7_3 (pc := 39) E hts hin7 hown hK hQ.ob (hts _ (List.mem_of_getElem? (i := 4) rfl)) dX7_remember_39 ?_
  rw [show (zu ν 2 ((ν 2) + 1)) 3 = ν 3 from by simp only [zu, Int.reduceEq, reduceIte]]
  refine z_iconst (pc := 42) E dX7_remember_42 ?_
  refine z_iadd (pc := 43) E dX7_remember_43 ?_
  refine z_bipush (pc := 44) E (by decide) dX7_remember_44 ?_
  refine z_mmin (pc := 46) (rest := [.ref (o 0)]) E (hml.trans hl.1.symm) hown (hts _ (List.mem_of_getElem? (i := 5) rfl)) (hts _ (List.mem_of_getElem? (i := 6) rfl)) (hts _ (List.mem_of_getElem? (i := 7) rfl)) (hts _ (List.mem_of_getElem? (i := 8) rfl)) (Nat.le_of_ble_eq_true rfl) (Nat.le_of_ble_eq_true rfl) hcs ⟨by omega, by omega⟩ (by decide) dX7_remember_46 ?_
  refine p7_3 (pc := 49) E hts hin7 hown hK hQ.ob hS (Ax.at 0 (by decide)) (hts _ (List.mem_of_getElem? (i := 4) rfl)) dX7_remember_49 (fun H locs hnew hoth hS => ?_)
  have hQ := QT.upO (ν2 := (zu (zu ν 2 ((ν 2) + 1)) 3 (min ((ν 3) + 1) 8))) hQ (by simpa only [zu, Int.reduceEq, reduceIte] using hnew) (fun q h => hoth q h) (fun j hj => by simp only [zu]; (repeat' split) <;> first | rfl | omega)
  exact z_retWv E hr hQ hS hlocks dX7_remember_52
set_option maxHeartbeats 1000000 in
set_option maxRecDepth 100000 in
theorem mX7_needRange (lL : Launch) (G : GG) (v : Int) (a : Int) (b : Int) (hv : -2147483648 ≤ v ∧ v < 2147483648) (ha : -2147483648 ≤ a ∧ a < 2147483648) (hb : -2147483648 ≤ b ∧ b < 2147483648) (hok : a ≤ v ∧ v ≤ b) : Met lL yX7_needRange wsX7_needRange ({ frames := 0, cells := 0, slots := 0, locals := 0 } : Room) (va_Pc [.int (iI v), .int (iI a), .int (iI b)] (fun U => True ∧ KK G U)) zSv 0 0 (fun _ => False) := by
  refine z_met (P := (fun H : Heap => True)) (by decide) rfl (Nat.le_of_ble_eq_true rfl) (fun pp ee ss mm below meth cC E hr hml hown hts hlocks hM hK ls hl => ?_)
  have hl : lv_has ls 3 [(0, .int (iI v)), (1, .int (iI a)), (2, .int (iI b))] := hl
  have hcs : 0 ≤ (({ frames := 0, cells := 0, slots := 0, locals := 0 } : Room)).cells ∧ 0 ≤ (({ frames := 0, cells := 0, slots := 0, locals := 0 } : Room)).slots := ⟨Nat.zero_le _, Nat.zero_le _⟩
  refine lv_iload_n (pc := 0) E.1 E.2 dX7_needRange_0 rfl (lv_at hl 0 rfl) ?_
  refine lv_iload_n (pc := 1) E.1 E.2 dX7_needRange_1 rfl (lv_at hl 1 rfl) ?_
  refine z_icmp_lt (pc := 2) (tgt := 10) E ⟨by omega, by omega⟩ ⟨by omega, by omega⟩ dX7_needRange_2 (by decide) (fun h2 => ?_) (fun h2 => ?_)
  · exfalso; omega
  · refine lv_iload_n (pc := 5) E.1 E.2 dX7_needRange_5 rfl (lv_at hl 0 rfl) ?_
    refine lv_iload_n (pc := 6) E.1 E.2 dX7_needRange_6 rfl (lv_at hl 2 rfl) ?_
    refine z_icmp_le (pc := 7) (tgt := 21) E ⟨by omega, by omega⟩ ⟨by omega, by omega⟩ dX7_needRange_7 (by decide) (fun h7 => ?_) (fun h7 => ?_)
    · exact z_retRv E hr hlocks dX7_needRange_21
    · exfalso; omega
set_option maxHeartbeats 1000000 in
set_option maxRecDepth 100000 in
theorem mxX7_needRange (lL : Launch) (hst0 : lL.stackTraces = false) (G : GG) (v : Int) (a : Int) (b : Int) (hv : -2147483648 ≤ v ∧ v < 2147483648) (ha : -2147483648 ≤ a ∧ a < 2147483648) (hb : -2147483648 ≤ b ∧ b < 2147483648) (hbad : ¬ (a ≤ v ∧ v ≤ b)) : vx_Met lL yX7_needRange wsX7_needRange ({ frames := 6, cells := 1, slots := 6, locals := 100 } : Room) (va_Pc [.int (iI v), .int (iI a), .int (iI b)] (fun U => True ∧ KK G U ∧ KX FF0 U U.heap)) (fun _ _ _ _ => False) (XCe xA) 1 6 FF0 := by
  refine z_metX (P := (fun H : Heap => True)) (by decide) rfl (Nat.le_of_ble_eq_true rfl) (fun pp ee ss mm below meth cC E hml hown hts hlocks htab hM hK hX ls hl => ?_)
  have hl : lv_has ls 3 [(0, .int (iI v)), (1, .int (iI a)), (2, .int (iI b))] := hl
  have hcs : 0 ≤ (({ frames := 6, cells := 1, slots := 6, locals := 100 } : Room)).cells ∧ 0 ≤ (({ frames := 6, cells := 1, slots := 6, locals := 100 } : Room)).slots := ⟨Nat.zero_le _, Nat.zero_le _⟩
  refine lv_iload_n (pc := 0) E.1 E.2 dX7_needRange_0 rfl (lv_at hl 0 rfl) ?_
  refine lv_iload_n (pc := 1) E.1 E.2 dX7_needRange_1 rfl (lv_at hl 1 rfl) ?_
  refine z_icmp_lt (pc := 2) (tgt := 10) E ⟨by omega, by omega⟩ ⟨by omega, by omega⟩ dX7_needRange_2 (by decide) (fun h2 => ?_) (fun h2 => ?_)
  · exact z_thrW_xA (pc := 10) (rest := []) (is := 428) (text := "a value out of its range") E hst0 hown (hts _ (List.mem_of_getElem? (i := 1) rfl)) (hts _ (List.mem_of_getElem? (i := 2) rfl)) (fun w h => hts w (List.mem_cons_of_mem _ (List.mem_append_right _ (h)))) hX (List.mem_of_getElem? (i := 24) rfl) (hl.1.trans hml.symm) dX7_needRange_10 dX7_needRange_13 dX7_needRange_14 dX7_needRange_17 dX7_needRange_20 htab (Nat.le_of_ble_eq_true rfl) (Nat.le_of_ble_eq_true rfl) (Nat.le_of_ble_eq_true rfl) (Nat.le_of_ble_eq_true rfl) hlocks rfl
  · refine lv_iload_n (pc := 5) E.1 E.2 dX7_needRange_5 rfl (lv_at hl 0 rfl) ?_
    refine lv_iload_n (pc := 6) E.1 E.2 dX7_needRange_6 rfl (lv_at hl 2 rfl) ?_
    refine z_icmp_le (pc := 7) (tgt := 21) E ⟨by omega, by omega⟩ ⟨by omega, by omega⟩ dX7_needRange_7 (by decide) (fun h7 => ?_) (fun h7 => ?_)
    · exact absurd (by omega) hbad
    · exact z_thrW_xA (pc := 10) (rest := []) (is := 428) (text := "a value out of its range") E hst0 hown (hts _ (List.mem_of_getElem? (i := 1) rfl)) (hts _ (List.mem_of_getElem? (i := 2) rfl)) (fun w h => hts w (List.mem_cons_of_mem _ (List.mem_append_right _ (h)))) hX (List.mem_of_getElem? (i := 24) rfl) (hl.1.trans hml.symm) dX7_needRange_10 dX7_needRange_13 dX7_needRange_14 dX7_needRange_17 dX7_needRange_20 htab (Nat.le_of_ble_eq_true rfl) (Nat.le_of_ble_eq_true rfl) (Nat.le_of_ble_eq_true rfl) (Nat.le_of_ble_eq_true rfl) hlocks rfl
set_option maxHeartbeats 1000000 in
set_option maxRecDepth 100000 in
theorem mX7_needProject (lL : Launch) (G : GG) (p : Int) (hv : -2147483648 ≤ p ∧ p < 2147483648) (hok : 0 ≤ p ∧ p ≤ 7) : Met lL yX7_needProject wsX7_needProject ({ frames := 1, cells := 0, slots := 0, locals := 22 } : Room) (va_Pc [.int (iI p)] (fun U => True ∧ KK G U)) zSv 0 0 (fun _ => False) := by
  refine z_met (P := (fun H : Heap => True)) (by decide) rfl (Nat.le_of_ble_eq_true rfl) (fun pp ee ss mm below meth cC E hr hml hown hts hlocks hM hK ls hl => ?_)
  have hl : lv_has ls 1 [(0, .int (iI p))] := hl
  have hcs : 0 ≤ (({ frames := 1, cells := 0, slots := 0, locals := 22 } : Room)).cells ∧ 0 ≤ (({ frames := 1, cells := 0, slots := 0, locals := 22 } : Room)).slots := ⟨Nat.zero_le _, Nat.zero_le _⟩
  refine lv_iload_n (pc := 0) E.1 E.2 dX7_needProject_0 rfl (lv_at hl 0 rfl) ?_
  refine z_iconst (pc := 1) E dX7_needProject_1 ?_
  refine z_bipush (pc := 2) E (by decide) dX7_needProject_2 ?_
  refine z_rSv (pc := 4) (P := fun _ => True) (As := [.int (iI p), .int (iI 0), .int (iI 7)]) (rest := []) E hml hown hts (mX7_needRange lL G p 0 7 (by omega) (by omega) (by omega) (by omega)) (va_cwS 3 hts gX7_needProject_X7_needRange rfl rfl rfl vdX7_needRange.2 ⟨Nat.le_of_ble_eq_true rfl, Nat.le_of_ble_eq_true rfl⟩) trivial hK rfl hl.1 rfl dX7_needProject_4 hcs (Nat.le_of_ble_eq_true rfl) ?_
  exact z_retRv E hr hlocks dX7_needProject_7
set_option maxHeartbeats 1000000 in
set_option maxRecDepth 100000 in
theorem mxX7_needProject (lL : Launch) (hst0 : lL.stackTraces = false) (G : GG) (p : Int) (hv : -2147483648 ≤ p ∧ p < 2147483648) (hbad : ¬ (0 ≤ p ∧ p ≤ 7)) : vx_Met lL yX7_needProject wsX7_needProject ({ frames := 7, cells := 1, slots := 6, locals := 122 } : Room) (va_Pc [.int (iI p)] (fun U => True ∧ KK G U ∧ KX FF0 U U.heap)) (fun _ _ _ _ => False) (XCe xA) 1 6 FF0 := by
  refine z_metX (P := (fun H : Heap => True)) (by decide) rfl (Nat.le_of_ble_eq_true rfl) (fun pp ee ss mm below meth cC E hml hown hts hlocks htab hM hK hX ls hl => ?_)
  have hl : lv_has ls 1 [(0, .int (iI p))] := hl
  have hcs : 0 ≤ (({ frames := 7, cells := 1, slots := 6, locals := 122 } : Room)).cells ∧ 0 ≤ (({ frames := 7, cells := 1, slots := 6, locals := 122 } : Room)).slots := ⟨Nat.zero_le _, Nat.zero_le _⟩
  refine lv_iload_n (pc := 0) E.1 E.2 dX7_needProject_0 rfl (lv_at hl 0 rfl) ?_
  refine z_iconst (pc := 1) E dX7_needProject_1 ?_
  refine z_bipush (pc := 2) E (by decide) dX7_needProject_2 ?_
  by_cases hc4 : 0 ≤ p ∧ p ≤ 7
  · refine z_rSv (pc := 4) (P := fun _ => True) (As := [.int (iI p), .int (iI 0), .int (iI 7)]) (rest := []) E hml hown hts (mX7_needRange lL G p 0 7 (by omega) (by omega) (by omega) (by omega)) (va_cwS 3 hts gX7_needProject_X7_needRange rfl rfl rfl vdX7_needRange.2 ⟨Nat.le_of_ble_eq_true rfl, Nat.le_of_ble_eq_true rfl⟩) trivial hK rfl hl.1 rfl dX7_needProject_4 hcs (Nat.le_of_ble_eq_true rfl) ?_
    exact absurd (by omega) hbad
  exact z_badS (pc := 4) (P := fun _ => True) (As := [.int (iI p), .int (iI 0), .int (iI 7)]) (rest := []) E hml hown hts (mxX7_needRange lL hst0 G p 0 7 (by omega) (by omega) (by omega) hc4) (va_cwS 3 hts gX7_needProject_X7_needRange rfl rfl rfl vdX7_needRange.2 ⟨Nat.le_of_ble_eq_true rfl, Nat.le_of_ble_eq_true rfl⟩) trivial hK hX rfl hl.1 rfl dX7_needProject_4 ⟨Nat.le_of_ble_eq_true rfl, Nat.le_of_ble_eq_true rfl⟩ (Nat.le_of_ble_eq_true rfl) rfl htab hlocks
set_option maxHeartbeats 1000000 in
set_option maxRecDepth 100000 in
theorem mX7_needAccount (lL : Launch) (G : GG) (p : Int) (k : Int) (hv : -2147483648 ≤ p ∧ p < 2147483648) (hk : -2147483648 ≤ k ∧ k < 2147483648) (hok : (0 ≤ p ∧ p ≤ 7) ∧ (0 ≤ k ∧ k ≤ 1)) : Met lL yX7_needAccount wsX7_needAccount ({ frames := 2, cells := 0, slots := 0, locals := 42 } : Room) (va_Pc [.int (iI p), .int (iI k)] (fun U => True ∧ KK G U)) zSv 0 0 (fun _ => False) := by
  refine z_met (P := (fun H : Heap => True)) (by decide) rfl (Nat.le_of_ble_eq_true rfl) (fun pp ee ss mm below meth cC E hr hml hown hts hlocks hM hK ls hl => ?_)
  have hl : lv_has ls 2 [(0, .int (iI p)), (1, .int (iI k))] := hl
  have hcs : 0 ≤ (({ frames := 2, cells := 0, slots := 0, locals := 42 } : Room)).cells ∧ 0 ≤ (({ frames := 2, cells := 0, slots := 0, locals := 42 } : Room)).slots := ⟨Nat.zero_le _, Nat.zero_le _⟩
  refine lv_iload_n (pc := 0) E.1 E.2 dX7_needAccount_0 rfl (lv_at hl 0 rfl) ?_
  refine z_rSv (pc := 1) (P := fun _ => True) (As := [.int (iI p)]) (rest := []) E hml hown hts (mX7_needProject lL G p (by omega) (by omega)) (va_cwS 1 hts gX7_needAccount_X7_needProject rfl rfl rfl vdX7_needProject.2 ⟨Nat.le_of_ble_eq_true rfl, Nat.le_of_ble_eq_true rfl⟩) trivial hK rfl hl.1 rfl dX7_needAccount_1 hcs (Nat.le_of_ble_eq_true rfl) ?_
  refine lv_iload_n (pc := 4) E.1 E.2 dX7_needAccount_4 rfl (lv_at hl 1 rfl) ?_
  refine z_iconst (pc := 5) E dX7_needAccount_5 ?_
  refine z_iconst (pc := 6) E dX7_needAccount_6 ?_
  refine z_rSv (pc := 7) (P := fun _ => True) (As := [.int (iI k), .int (iI 0), .int (iI 1)]) (rest := []) E hml hown hts (mX7_needRange lL G k 0 1 (by omega) (by omega) (by omega) (by omega)) (va_cwS 3 hts gX7_needAccount_X7_needRange rfl rfl rfl vdX7_needRange.2 ⟨Nat.le_of_ble_eq_true rfl, Nat.le_of_ble_eq_true rfl⟩) trivial hK rfl hl.1 rfl dX7_needAccount_7 hcs (Nat.le_of_ble_eq_true rfl) ?_
  exact z_retRv E hr hlocks dX7_needAccount_10
set_option maxHeartbeats 1000000 in
set_option maxRecDepth 100000 in
theorem mxX7_needAccount (lL : Launch) (hst0 : lL.stackTraces = false) (G : GG) (p : Int) (k : Int) (hv : -2147483648 ≤ p ∧ p < 2147483648) (hk : -2147483648 ≤ k ∧ k < 2147483648) (hbad : ¬ ((0 ≤ p ∧ p ≤ 7) ∧ (0 ≤ k ∧ k ≤ 1))) : vx_Met lL yX7_needAccount wsX7_needAccount ({ frames := 8, cells := 1, slots := 6, locals := 142 } : Room) (va_Pc [.int (iI p), .int (iI k)] (fun U => True ∧ KK G U ∧ KX FF0 U U.heap)) (fun _ _ _ _ => False) (XCe xA) 1 6 FF0 := by
  refine z_metX (P := (fun H : Heap => True)) (by decide) rfl (Nat.le_of_ble_eq_true rfl) (fun pp ee ss mm below meth cC E hml hown hts hlocks htab hM hK hX ls hl => ?_)
  have hl : lv_has ls 2 [(0, .int (iI p)), (1, .int (iI k))] := hl
  have hcs : 0 ≤ (({ frames := 8, cells := 1, slots := 6, locals := 142 } : Room)).cells ∧ 0 ≤ (({ frames := 8, cells := 1, slots := 6, locals := 142 } : Room)).slots := ⟨Nat.zero_le _, Nat.zero_le _⟩
  refine lv_iload_n (pc := 0) E.1 E.2 dX7_needAccount_0 rfl (lv_at hl 0 rfl) ?_
  by_cases hc1 : 0 ≤ p ∧ p ≤ 7
  · refine z_rSv (pc := 1) (P := fun _ => True) (As := [.int (iI p)]) (rest := []) E hml hown hts (mX7_needProject lL G p (by omega) (by omega)) (va_cwS 1 hts gX7_needAccount_X7_needProject rfl rfl rfl vdX7_needProject.2 ⟨Nat.le_of_ble_eq_true rfl, Nat.le_of_ble_eq_true rfl⟩) trivial hK rfl hl.1 rfl dX7_needAccount_1 hcs (Nat.le_of_ble_eq_true rfl) ?_
    refine lv_iload_n (pc := 4) E.1 E.2 dX7_needAccount_4 rfl (lv_at hl 1 rfl) ?_
    refine z_iconst (pc := 5) E dX7_needAccount_5 ?_
    refine z_iconst (pc := 6) E dX7_needAccount_6 ?_
    by_cases hc7 : 0 ≤ k ∧ k ≤ 1
    · refine z_rSv (pc := 7) (P := fun _ => True) (As := [.int (iI k), .int (iI 0), .int (iI 1)]) (rest := []) E hml hown hts (mX7_needRange lL G k 0 1 (by omega) (by omega) (by omega) (by omega)) (va_cwS 3 hts gX7_needAccount_X7_needRange rfl rfl rfl vdX7_needRange.2 ⟨Nat.le_of_ble_eq_true rfl, Nat.le_of_ble_eq_true rfl⟩) trivial hK rfl hl.1 rfl dX7_needAccount_7 hcs (Nat.le_of_ble_eq_true rfl) ?_
      exact absurd (by omega) hbad
    exact z_badS (pc := 7) (P := fun _ => True) (As := [.int (iI k), .int (iI 0), .int (iI 1)]) (rest := []) E hml hown hts (mxX7_needRange lL hst0 G k 0 1 (by omega) (by omega) (by omega) hc7) (va_cwS 3 hts gX7_needAccount_X7_needRange rfl rfl rfl vdX7_needRange.2 ⟨Nat.le_of_ble_eq_true rfl, Nat.le_of_ble_eq_true rfl⟩) trivial hK hX rfl hl.1 rfl dX7_needAccount_7 ⟨Nat.le_of_ble_eq_true rfl, Nat.le_of_ble_eq_true rfl⟩ (Nat.le_of_ble_eq_true rfl) rfl htab hlocks
  exact z_badS (pc := 1) (P := fun _ => True) (As := [.int (iI p)]) (rest := []) E hml hown hts (mxX7_needProject lL hst0 G p (by omega) hc1) (va_cwS 1 hts gX7_needAccount_X7_needProject rfl rfl rfl vdX7_needProject.2 ⟨Nat.le_of_ble_eq_true rfl, Nat.le_of_ble_eq_true rfl⟩) trivial hK hX rfl hl.1 rfl dX7_needAccount_1 ⟨Nat.le_of_ble_eq_true rfl, Nat.le_of_ble_eq_true rfl⟩ (Nat.le_of_ble_eq_true rfl) rfl htab hlocks
set_option maxHeartbeats 1000000 in
set_option maxRecDepth 100000 in
theorem mX7_needNoReason (lL : Launch) (G : GG) (r : Int) (hv : -2147483648 ≤ r ∧ r < 2147483648) (hok : r = 0) : Met lL yX7_needNoReason wsX7_needNoReason ({ frames := 0, cells := 0, slots := 0, locals := 0 } : Room) (va_Pc [.int (iI r)] (fun U => True ∧ KK G U)) zSv 0 0 (fun _ => False) := by
  refine z_met (P := (fun H : Heap => True)) (by decide) rfl (Nat.le_of_ble_eq_true rfl) (fun pp ee ss mm below meth cC E hr hml hown hts hlocks hM hK ls hl => ?_)
  have hl : lv_has ls 1 [(0, .int (iI r))] := hl
  have hcs : 0 ≤ (({ frames := 0, cells := 0, slots := 0, locals := 0 } : Room)).cells ∧ 0 ≤ (({ frames := 0, cells := 0, slots := 0, locals := 0 } : Room)).slots := ⟨Nat.zero_le _, Nat.zero_le _⟩
  refine lv_iload_n (pc := 0) E.1 E.2 dX7_needNoReason_0 rfl (lv_at hl 0 rfl) ?_
  refine z_if_eq (pc := 1) (tgt := 15) E ⟨by omega, by omega⟩ dX7_needNoReason_1 (by decide) (fun h1 => ?_) (fun h1 => ?_)
  · exact z_retRv E hr hlocks dX7_needNoReason_15
  · exfalso; omega
set_option maxHeartbeats 1000000 in
set_option maxRecDepth 100000 in
theorem mxX7_needNoReason (lL : Launch) (hst0 : lL.stackTraces = false) (G : GG) (r : Int) (hv : -2147483648 ≤ r ∧ r < 2147483648) (hbad : ¬ (r = 0)) : vx_Met lL yX7_needNoReason wsX7_needNoReason ({ frames := 6, cells := 1, slots := 6, locals := 100 } : Room) (va_Pc [.int (iI r)] (fun U => True ∧ KK G U ∧ KX FF0 U U.heap)) (fun _ _ _ _ => False) (XCe xS) 1 6 FF0 := by
  refine z_metX (P := (fun H : Heap => True)) (by decide) rfl (Nat.le_of_ble_eq_true rfl) (fun pp ee ss mm below meth cC E hml hown hts hlocks htab hM hK hX ls hl => ?_)
  have hl : lv_has ls 1 [(0, .int (iI r))] := hl
  have hcs : 0 ≤ (({ frames := 6, cells := 1, slots := 6, locals := 100 } : Room)).cells ∧ 0 ≤ (({ frames := 6, cells := 1, slots := 6, locals := 100 } : Room)).slots := ⟨Nat.zero_le _, Nat.zero_le _⟩
  refine lv_iload_n (pc := 0) E.1 E.2 dX7_needNoReason_0 rfl (lv_at hl 0 rfl) ?_
  refine z_if_eq (pc := 1) (tgt := 15) E ⟨by omega, by omega⟩ dX7_needNoReason_1 (by decide) (fun h1 => ?_) (fun h1 => ?_)
  · exact absurd (by omega) hbad
  · exact z_thrW_xS (pc := 4) (rest := []) (is := 426) (text := "it is refused") E hst0 hown (hts _ (List.mem_of_getElem? (i := 1) rfl)) (hts _ (List.mem_of_getElem? (i := 2) rfl)) (fun w h => hts w (List.mem_cons_of_mem _ (List.mem_append_right _ (h)))) hX (List.mem_of_getElem? (i := 23) rfl) (hl.1.trans hml.symm) dX7_needNoReason_4 dX7_needNoReason_7 dX7_needNoReason_8 dX7_needNoReason_11 dX7_needNoReason_14 htab (Nat.le_of_ble_eq_true rfl) (Nat.le_of_ble_eq_true rfl) (Nat.le_of_ble_eq_true rfl) (Nat.le_of_ble_eq_true rfl) hlocks rfl
set_option maxHeartbeats 1000000 in
set_option maxRecDepth 100000 in
theorem mX7_needFolder (lL : Launch) (G : GG) (o : Nat → Nat) (ν σ : Int → Int) (π : Nat → Int → Int) (δ τ ω : Int → Int) (f : Int) (hI : In σ) (hf : -2147483648 ≤ f ∧ f < 2147483648) (hok : 0 ≤ f ∧ f < σ 2) : Met lL yX7_needFolder wsX7_needFolder ({ frames := 1, cells := 0, slots := 0, locals := 21 } : Room) (va_Pc [.ref (o 0), .int (iI f)] (fun U => QT G o ν σ π δ τ ω U.heap ∧ KK G U)) zSv 0 0 (fun _ => False) := by
  refine z_met (P := (fun H : Heap => QT G o ν σ π δ τ ω H)) (by decide) rfl (Nat.le_of_ble_eq_true rfl) (fun pp ee ss mm below meth cC E hr hml hown hts hlocks hQ hK ls hl => ?_)
  have hl : lv_has ls 2 [(0, .ref (o 0)), (1, .int (iI f))] := hl
  have hcs : 0 ≤ (({ frames := 1, cells := 0, slots := 0, locals := 21 } : Room)).cells ∧ 0 ≤ (({ frames := 1, cells := 0, slots := 0, locals := 21 } : Room)).slots := ⟨Nat.zero_le _, Nat.zero_le _⟩
  have hin6 : ∀ w ∈ wsX60, w ∈ wsX7_needFolder := fun w h => List.mem_cons_of_mem _ (List.mem_append_left _ (List.mem_append_left _ (List.mem_append_right _ (h))))
  have hin7 : ∀ w ∈ wsX70, w ∈ wsX7_needFolder := fun w h => List.mem_cons_of_mem _ (List.mem_append_left _ (List.mem_append_left _ (List.mem_append_left _ (List.mem_append_right _ (h)))))
  have hF := hI.F
  have hMm := hI.M
  have hGn := hI.Gn
  have hTi := hI.ti
  have hGr := hI.gr
  refine lv_aload_n (pc := 0) E.1 E.2 dX7_needFolder_0 rfl (lv_at hl 0 rfl) ?_
  refine g7_0 (pc := 1) E hts hin7 hown hK hQ.ob (hts _ (List.mem_of_getElem? (i := 3) rfl)) dX7_needFolder_1 ?_
  refine g6_0 (pc := 4) E hts hin6 hown hK hQ.nob (hts _ (List.mem_of_getElem? (i := 4) rfl)) dX7_needFolder_4 ?_
  refine lv_iload_n (pc := 7) E.1 E.2 dX7_needFolder_7 rfl (lv_at hl 1 rfl) ?_
  refine z_rVi (pc := 8) (As := [.int (iI f)]) (rest := []) E hml hown hts (mX3_has lL G (fun k => o (1 + (1 + k))) σ f hI (by omega)) (cwV 1 hts gX7_needFolder_X3_has rfl rfl rfl vdX3_has ⟨Nat.le_of_ble_eq_true rfl, Nat.le_of_ble_eq_true rfl⟩) (oB.recv hK hQ.foo rfl) hQ.now.fo hK rfl hl.1 rfl dX7_needFolder_8 hcs (Nat.le_of_ble_eq_true rfl) ?_
  refine z_ifb_ne (pc := 11) (tgt := 25) E dX7_needFolder_11 (by decide) (fun h11 => ?_) (fun h11 => ?_)
  · exact z_retRv E hr hlocks dX7_needFolder_25
  · exact absurd hok h11
set_option maxHeartbeats 1000000 in
set_option maxRecDepth 100000 in
theorem mxX7_needFolder (lL : Launch) (hst0 : lL.stackTraces = false) (G : GG) (o : Nat → Nat) (ν σ : Int → Int) (π : Nat → Int → Int) (δ τ ω : Int → Int) (f : Int) (hI : In σ) (hf : -2147483648 ≤ f ∧ f < 2147483648) (hbad : ¬ (0 ≤ f ∧ f < σ 2)) : vx_Met lL yX7_needFolder wsX7_needFolder ({ frames := 6, cells := 1, slots := 6, locals := 100 } : Room) (va_Pc [.ref (o 0), .int (iI f)] (fun U => QT G o ν σ π δ τ ω U.heap ∧ KK G U ∧ KX FF0 U U.heap)) (fun _ _ _ _ => False) (XCe xI) 1 6 FF0 := by
  refine z_metX (P := (fun H : Heap => QT G o ν σ π δ τ ω H)) (by decide) rfl (Nat.le_of_ble_eq_true rfl) (fun pp ee ss mm below meth cC E hml hown hts hlocks htab hQ hK hX ls hl => ?_)
  have hl : lv_has ls 2 [(0, .ref (o 0)), (1, .int (iI f))] := hl
  have hcs : 0 ≤ (({ frames := 6, cells := 1, slots := 6, locals := 100 } : Room)).cells ∧ 0 ≤ (({ frames := 6, cells := 1, slots := 6, locals := 100 } : Room)).slots := ⟨Nat.zero_le _, Nat.zero_le _⟩
  have hin6 : ∀ w ∈ wsX60, w ∈ wsX7_needFolder := fun w h => List.mem_cons_of_mem _ (List.mem_append_left _ (List.mem_append_left _ (List.mem_append_right _ (h))))
  have hin7 : ∀ w ∈ wsX70, w ∈ wsX7_needFolder := fun w h => List.mem_cons_of_mem _ (List.mem_append_left _ (List.mem_append_left _ (List.mem_append_left _ (List.mem_append_right _ (h)))))
  have hF := hI.F
  have hMm := hI.M
  have hGn := hI.Gn
  have hTi := hI.ti
  have hGr := hI.gr
  refine lv_aload_n (pc := 0) E.1 E.2 dX7_needFolder_0 rfl (lv_at hl 0 rfl) ?_
  refine g7_0 (pc := 1) E hts hin7 hown hK hQ.ob (hts _ (List.mem_of_getElem? (i := 3) rfl)) dX7_needFolder_1 ?_
  refine g6_0 (pc := 4) E hts hin6 hown hK hQ.nob (hts _ (List.mem_of_getElem? (i := 4) rfl)) dX7_needFolder_4 ?_
  refine lv_iload_n (pc := 7) E.1 E.2 dX7_needFolder_7 rfl (lv_at hl 1 rfl) ?_
  refine z_rVi (pc := 8) (As := [.int (iI f)]) (rest := []) E hml hown hts (mX3_has lL G (fun k => o (1 + (1 + k))) σ f hI (by omega)) (cwV 1 hts gX7_needFolder_X3_has rfl rfl rfl vdX3_has ⟨Nat.le_of_ble_eq_true rfl, Nat.le_of_ble_eq_true rfl⟩) (oB.recv hK hQ.foo rfl) hQ.now.fo hK rfl hl.1 rfl dX7_needFolder_8 hcs (Nat.le_of_ble_eq_true rfl) ?_
  refine z_ifb_ne (pc := 11) (tgt := 25) E dX7_needFolder_11 (by decide) (fun h11 => ?_) (fun h11 => ?_)
  · exact absurd h11 hbad
  · exact z_thrW_xI (pc := 14) (rest := []) (is := 418) (text := "no such folder") E hst0 hown (hts _ (List.mem_of_getElem? (i := 1) rfl)) (hts _ (List.mem_of_getElem? (i := 2) rfl)) (fun w h => hts w (List.mem_cons_of_mem _ (List.mem_append_right _ (h)))) hX (List.mem_of_getElem? (i := 20) rfl) (hl.1.trans hml.symm) dX7_needFolder_14 dX7_needFolder_17 dX7_needFolder_18 dX7_needFolder_21 dX7_needFolder_24 htab (Nat.le_of_ble_eq_true rfl) (Nat.le_of_ble_eq_true rfl) (Nat.le_of_ble_eq_true rfl) (Nat.le_of_ble_eq_true rfl) hlocks rfl
set_option maxHeartbeats 1000000 in
set_option maxRecDepth 100000 in
theorem mX7_needFile (lL : Launch) (G : GG) (o : Nat → Nat) (ν σ : Int → Int) (π : Nat → Int → Int) (δ τ ω : Int → Int) (f : Int) (hI : In σ) (hf : -2147483648 ≤ f ∧ f < 2147483648) (hok : 0 ≤ f ∧ f < σ 3) : Met lL yX7_needFile wsX7_needFile ({ frames := 1, cells := 0, slots := 0, locals := 21 } : Room) (va_Pc [.ref (o 0), .int (iI f)] (fun U => QT G o ν σ π δ τ ω U.heap ∧ KK G U)) zSv 0 0 (fun _ => False) := by
  refine z_met (P := (fun H : Heap => QT G o ν σ π δ τ ω H)) (by decide) rfl (Nat.le_of_ble_eq_true rfl) (fun pp ee ss mm below meth cC E hr hml hown hts hlocks hQ hK ls hl => ?_)
  have hl : lv_has ls 2 [(0, .ref (o 0)), (1, .int (iI f))] := hl
  have hcs : 0 ≤ (({ frames := 1, cells := 0, slots := 0, locals := 21 } : Room)).cells ∧ 0 ≤ (({ frames := 1, cells := 0, slots := 0, locals := 21 } : Room)).slots := ⟨Nat.zero_le _, Nat.zero_le _⟩
  have hin6 : ∀ w ∈ wsX60, w ∈ wsX7_needFile := fun w h => List.mem_cons_of_mem _ (List.mem_append_left _ (List.mem_append_left _ (List.mem_append_right _ (h))))
  have hin7 : ∀ w ∈ wsX70, w ∈ wsX7_needFile := fun w h => List.mem_cons_of_mem _ (List.mem_append_left _ (List.mem_append_left _ (List.mem_append_left _ (List.mem_append_right _ (h)))))
  have hF := hI.F
  have hMm := hI.M
  have hGn := hI.Gn
  have hTi := hI.ti
  have hGr := hI.gr
  refine lv_aload_n (pc := 0) E.1 E.2 dX7_needFile_0 rfl (lv_at hl 0 rfl) ?_
  refine g7_0 (pc := 1) E hts hin7 hown hK hQ.ob (hts _ (List.mem_of_getElem? (i := 3) rfl)) dX7_needFile_1 ?_
  refine g6_1 (pc := 4) E hts hin6 hown hK hQ.nob (hts _ (List.mem_of_getElem? (i := 4) rfl)) dX7_needFile_4 ?_
  refine lv_iload_n (pc := 7) E.1 E.2 dX7_needFile_7 rfl (lv_at hl 1 rfl) ?_
  refine z_rVi (pc := 8) (As := [.int (iI f)]) (rest := []) E hml hown hts (mX2_has lL G (fun k => o (1 + (5 + k))) σ f hI (by omega)) (cwV 1 hts gX7_needFile_X2_has rfl rfl rfl vdX2_has ⟨Nat.le_of_ble_eq_true rfl, Nat.le_of_ble_eq_true rfl⟩) (oB.recv hK hQ.fio rfl) hQ.now.fi hK rfl hl.1 rfl dX7_needFile_8 hcs (Nat.le_of_ble_eq_true rfl) ?_
  refine z_ifb_ne (pc := 11) (tgt := 25) E dX7_needFile_11 (by decide) (fun h11 => ?_) (fun h11 => ?_)
  · exact z_retRv E hr hlocks dX7_needFile_25
  · exact absurd hok h11
set_option maxHeartbeats 1000000 in
set_option maxRecDepth 100000 in
theorem mxX7_needFile (lL : Launch) (hst0 : lL.stackTraces = false) (G : GG) (o : Nat → Nat) (ν σ : Int → Int) (π : Nat → Int → Int) (δ τ ω : Int → Int) (f : Int) (hI : In σ) (hf : -2147483648 ≤ f ∧ f < 2147483648) (hbad : ¬ (0 ≤ f ∧ f < σ 3)) : vx_Met lL yX7_needFile wsX7_needFile ({ frames := 6, cells := 1, slots := 6, locals := 100 } : Room) (va_Pc [.ref (o 0), .int (iI f)] (fun U => QT G o ν σ π δ τ ω U.heap ∧ KK G U ∧ KX FF0 U U.heap)) (fun _ _ _ _ => False) (XCe xI) 1 6 FF0 := by
  refine z_metX (P := (fun H : Heap => QT G o ν σ π δ τ ω H)) (by decide) rfl (Nat.le_of_ble_eq_true rfl) (fun pp ee ss mm below meth cC E hml hown hts hlocks htab hQ hK hX ls hl => ?_)
  have hl : lv_has ls 2 [(0, .ref (o 0)), (1, .int (iI f))] := hl
  have hcs : 0 ≤ (({ frames := 6, cells := 1, slots := 6, locals := 100 } : Room)).cells ∧ 0 ≤ (({ frames := 6, cells := 1, slots := 6, locals := 100 } : Room)).slots := ⟨Nat.zero_le _, Nat.zero_le _⟩
  have hin6 : ∀ w ∈ wsX60, w ∈ wsX7_needFile := fun w h => List.mem_cons_of_mem _ (List.mem_append_left _ (List.mem_append_left _ (List.mem_append_right _ (h))))
  have hin7 : ∀ w ∈ wsX70, w ∈ wsX7_needFile := fun w h => List.mem_cons_of_mem _ (List.mem_append_left _ (List.mem_append_left _ (List.mem_append_left _ (List.mem_append_right _ (h)))))
  have hF := hI.F
  have hMm := hI.M
  have hGn := hI.Gn
  have hTi := hI.ti
  have hGr := hI.gr
  refine lv_aload_n (pc := 0) E.1 E.2 dX7_needFile_0 rfl (lv_at hl 0 rfl) ?_
  refine g7_0 (pc := 1) E hts hin7 hown hK hQ.ob (hts _ (List.mem_of_getElem? (i := 3) rfl)) dX7_needFile_1 ?_
  refine g6_1 (pc := 4) E hts hin6 hown hK hQ.nob (hts _ (List.mem_of_getElem? (i := 4) rfl)) dX7_needFile_4 ?_
  refine lv_iload_n (pc := 7) E.1 E.2 dX7_needFile_7 rfl (lv_at hl 1 rfl) ?_
  refine z_rVi (pc := 8) (As := [.int (iI f)]) (rest := []) E hml hown hts (mX2_has lL G (fun k => o (1 + (5 + k))) σ f hI (by omega)) (cwV 1 hts gX7_needFile_X2_has rfl rfl rfl vdX2_has ⟨Nat.le_of_ble_eq_true rfl, Nat.le_of_ble_eq_true rfl⟩) (oB.recv hK hQ.fio rfl) hQ.now.fi hK rfl hl.1 rfl dX7_needFile_8 hcs (Nat.le_of_ble_eq_true rfl) ?_
  refine z_ifb_ne (pc := 11) (tgt := 25) E dX7_needFile_11 (by decide) (fun h11 => ?_) (fun h11 => ?_)
  · exact absurd h11 hbad
  · exact z_thrW_xI (pc := 14) (rest := []) (is := 421) (text := "no such file") E hst0 hown (hts _ (List.mem_of_getElem? (i := 1) rfl)) (hts _ (List.mem_of_getElem? (i := 2) rfl)) (fun w h => hts w (List.mem_cons_of_mem _ (List.mem_append_right _ (h)))) hX (List.mem_of_getElem? (i := 21) rfl) (hl.1.trans hml.symm) dX7_needFile_14 dX7_needFile_17 dX7_needFile_18 dX7_needFile_21 dX7_needFile_24 htab (Nat.le_of_ble_eq_true rfl) (Nat.le_of_ble_eq_true rfl) (Nat.le_of_ble_eq_true rfl) (Nat.le_of_ble_eq_true rfl) hlocks rfl
set_option maxHeartbeats 1000000 in
set_option maxRecDepth 100000 in
theorem mX7_needGift (lL : Launch) (G : GG) (o : Nat → Nat) (ν σ : Int → Int) (π : Nat → Int → Int) (δ τ ω : Int → Int) (f : Int) (hI : In σ) (hf : -2147483648 ≤ f ∧ f < 2147483648) (hok : 0 ≤ f ∧ f < σ 4) : Met lL yX7_needGift wsX7_needGift ({ frames := 1, cells := 0, slots := 0, locals := 21 } : Room) (va_Pc [.ref (o 0), .int (iI f)] (fun U => QT G o ν σ π δ τ ω U.heap ∧ KK G U)) zSv 0 0 (fun _ => False) := by
  refine z_met (P := (fun H : Heap => QT G o ν σ π δ τ ω H)) (by decide) rfl (Nat.le_of_ble_eq_true rfl) (fun pp ee ss mm below meth cC E hr hml hown hts hlocks hQ hK ls hl => ?_)
  have hl : lv_has ls 2 [(0, .ref (o 0)), (1, .int (iI f))] := hl
  have hcs : 0 ≤ (({ frames := 1, cells := 0, slots := 0, locals := 21 } : Room)).cells ∧ 0 ≤ (({ frames := 1, cells := 0, slots := 0, locals := 21 } : Room)).slots := ⟨Nat.zero_le _, Nat.zero_le _⟩
  have hin6 : ∀ w ∈ wsX60, w ∈ wsX7_needGift := fun w h => List.mem_cons_of_mem _ (List.mem_append_left _ (List.mem_append_left _ (List.mem_append_right _ (h))))
  have hin7 : ∀ w ∈ wsX70, w ∈ wsX7_needGift := fun w h => List.mem_cons_of_mem _ (List.mem_append_left _ (List.mem_append_left _ (List.mem_append_left _ (List.mem_append_right _ (h)))))
  have hF := hI.F
  have hMm := hI.M
  have hGn := hI.Gn
  have hTi := hI.ti
  have hGr := hI.gr
  refine lv_aload_n (pc := 0) E.1 E.2 dX7_needGift_0 rfl (lv_at hl 0 rfl) ?_
  refine g7_0 (pc := 1) E hts hin7 hown hK hQ.ob (hts _ (List.mem_of_getElem? (i := 3) rfl)) dX7_needGift_1 ?_
  refine g6_3 (pc := 4) E hts hin6 hown hK hQ.nob (hts _ (List.mem_of_getElem? (i := 4) rfl)) dX7_needGift_4 ?_
  refine lv_iload_n (pc := 7) E.1 E.2 dX7_needGift_7 rfl (lv_at hl 1 rfl) ?_
  refine z_rVi (pc := 8) (As := [.int (iI f)]) (rest := []) E hml hown hts (mX4_has lL G (fun k => o (1 + (13 + k))) σ f hI (by omega)) (cwV 1 hts gX7_needGift_X4_has rfl rfl rfl vdX4_has ⟨Nat.le_of_ble_eq_true rfl, Nat.le_of_ble_eq_true rfl⟩) (oB.recv hK hQ.gio rfl) hQ.now.gi hK rfl hl.1 rfl dX7_needGift_8 hcs (Nat.le_of_ble_eq_true rfl) ?_
  refine z_ifb_ne (pc := 11) (tgt := 25) E dX7_needGift_11 (by decide) (fun h11 => ?_) (fun h11 => ?_)
  · exact z_retRv E hr hlocks dX7_needGift_25
  · exact absurd hok h11
set_option maxHeartbeats 1000000 in
set_option maxRecDepth 100000 in
theorem mxX7_needGift (lL : Launch) (hst0 : lL.stackTraces = false) (G : GG) (o : Nat → Nat) (ν σ : Int → Int) (π : Nat → Int → Int) (δ τ ω : Int → Int) (f : Int) (hI : In σ) (hf : -2147483648 ≤ f ∧ f < 2147483648) (hbad : ¬ (0 ≤ f ∧ f < σ 4)) : vx_Met lL yX7_needGift wsX7_needGift ({ frames := 6, cells := 1, slots := 6, locals := 100 } : Room) (va_Pc [.ref (o 0), .int (iI f)] (fun U => QT G o ν σ π δ τ ω U.heap ∧ KK G U ∧ KX FF0 U U.heap)) (fun _ _ _ _ => False) (XCe xI) 1 6 FF0 := by
  refine z_metX (P := (fun H : Heap => QT G o ν σ π δ τ ω H)) (by decide) rfl (Nat.le_of_ble_eq_true rfl) (fun pp ee ss mm below meth cC E hml hown hts hlocks htab hQ hK hX ls hl => ?_)
  have hl : lv_has ls 2 [(0, .ref (o 0)), (1, .int (iI f))] := hl
  have hcs : 0 ≤ (({ frames := 6, cells := 1, slots := 6, locals := 100 } : Room)).cells ∧ 0 ≤ (({ frames := 6, cells := 1, slots := 6, locals := 100 } : Room)).slots := ⟨Nat.zero_le _, Nat.zero_le _⟩
  have hin6 : ∀ w ∈ wsX60, w ∈ wsX7_needGift := fun w h => List.mem_cons_of_mem _ (List.mem_append_left _ (List.mem_append_left _ (List.mem_append_right _ (h))))
  have hin7 : ∀ w ∈ wsX70, w ∈ wsX7_needGift := fun w h => List.mem_cons_of_mem _ (List.mem_append_left _ (List.mem_append_left _ (List.mem_append_left _ (List.mem_append_right _ (h)))))
  have hF := hI.F
  have hMm := hI.M
  have hGn := hI.Gn
  have hTi := hI.ti
  have hGr := hI.gr
  refine lv_aload_n (pc := 0) E.1 E.2 dX7_needGift_0 rfl (lv_at hl 0 rfl) ?_
  refine g7_0 (pc := 1) E hts hin7 hown hK hQ.ob (hts _ (List.mem_of_getElem? (i := 3) rfl)) dX7_needGift_1 ?_
  refine g6_3 (pc := 4) E hts hin6 hown hK hQ.nob (hts _ (List.mem_of_getElem? (i := 4) rfl)) dX7_needGift_4 ?_
  refine lv_iload_n (pc := 7) E.1 E.2 dX7_needGift_7 rfl (lv_at hl 1 rfl) ?_
  refine z_rVi (pc := 8) (As := [.int (iI f)]) (rest := []) E hml hown hts (mX4_has lL G (fun k => o (1 + (13 + k))) σ f hI (by omega)) (cwV 1 hts gX7_needGift_X4_has rfl rfl rfl vdX4_has ⟨Nat.le_of_ble_eq_true rfl, Nat.le_of_ble_eq_true rfl⟩) (oB.recv hK hQ.gio rfl) hQ.now.gi hK rfl hl.1 rfl dX7_needGift_8 hcs (Nat.le_of_ble_eq_true rfl) ?_
  refine z_ifb_ne (pc := 11) (tgt := 25) E dX7_needGift_11 (by decide) (fun h11 => ?_) (fun h11 => ?_)
  · exact absurd h11 hbad
  · exact z_thrW_xI (pc := 14) (rest := []) (is := 424) (text := "no such gift") E hst0 hown (hts _ (List.mem_of_getElem? (i := 1) rfl)) (hts _ (List.mem_of_getElem? (i := 2) rfl)) (fun w h => hts w (List.mem_cons_of_mem _ (List.mem_append_right _ (h)))) hX (List.mem_of_getElem? (i := 22) rfl) (hl.1.trans hml.symm) dX7_needGift_14 dX7_needGift_17 dX7_needGift_18 dX7_needGift_21 dX7_needGift_24 htab (Nat.le_of_ble_eq_true rfl) (Nat.le_of_ble_eq_true rfl) (Nat.le_of_ble_eq_true rfl) (Nat.le_of_ble_eq_true rfl) hlocks rfl
set_option maxHeartbeats 1000000 in
set_option maxRecDepth 100000 in
theorem mX7_isName (lL : Launch) (G : GG) (x : Int) (hx : -9223372036854775808 ≤ x ∧ x < 9223372036854775808) : Met lL yX7_isName wsX7_isName ({ frames := 0, cells := 0, slots := 0, locals := 0 } : Room) (va_Pc [.long (iL x)] (fun U => True ∧ KK G U)) (vp_Si (fun r => r = (iI (if nkB x = true then 1 else 0)))) 0 0 (fun _ => False) := by
  refine z_met (P := (fun H : Heap => True)) (by decide) rfl (Nat.le_of_ble_eq_true rfl) (fun pp ee ss mm below meth cC E hr hml hown hts hlocks hM hK ls hl => ?_)
  have hl : lv_has ls 7 [(0, .long (iL x))] := hl
  have hcs : 0 ≤ (({ frames := 0, cells := 0, slots := 0, locals := 0 } : Room)).cells ∧ 0 ≤ (({ frames := 0, cells := 0, slots := 0, locals := 0 } : Room)).slots := ⟨Nat.zero_le _, Nat.zero_le _⟩
  refine z_iconst (pc := 0) E dX7_isName_0 ?_
  refine lv_istore_n (pc := 1) (lv' := [(2, .int (iI 0)), (0, .long (iL x))]) E.1 E.2 dX7_isName_1 rfl hl (by decide) rfl (fun ls hl => ?_)
  refine lv_lload_n (pc := 2) E.1 E.2 dX7_isName_2 rfl (lv_at hl 1 rfl) ?_
  refine lv_lstore_n (pc := 3) (lv' := [(3, .long (iL x)), (2, .int (iI 0)), (0, .long (iL x))]) E.1 E.2 dX7_isName_3 rfl hl (by decide) rfl (fun ls hl => ?_)
  suffices L4 : ∀ (nf : Nat), ∀ (n y : Int), (0 ≤ n ∧ n ≤ 8) → (-9223372036854775808 ≤ y ∧ y < 9223372036854775808) → (nkB x = true ↔ (0 ≤ y ∧ nmo (8 - n).toNat y ∧ (0 < n ∨ 0 < y))) → ((8 - n).toNat) < nf → ∀ ls : Array Slot, lv_has ls 7 [(3, .long (iL y)), (2, .int (iI n)), (0, .long (iL x))] → W pp lL ee ({ frames := 0, cells := 0, slots := 0, locals := 0 } : Room) ss mm [.long (iL x)].toArray below meth cC ss.heap [] 0 0 (MQ below (vp_Si (fun r => r = (iI (if nkB x = true then 1 else 0)))) [.long (iL x)].toArray ss 0 0 (fun _ => False)) (F0 mm 4 ls []) from L4 _ 0 x (by omega) hx (nkI_0 x) (Nat.lt_succ_self _) ls (lv_sub hl [0, 1, 2] rfl)
  intro nfL4
  induction nfL4 with
  | zero => intro n y hn hy he hmzL4; exact absurd hmzL4 (Nat.not_lt_zero _)
  | succ nfL4 ihL4 =>
    intro n y hn hy he hmzL4 ls hl
    refine lv_iload_n (pc := 4) E.1 E.2 dX7_isName_4 rfl (lv_at hl 1 rfl) ?_
    refine z_bipush (pc := 5) E (by decide) dX7_isName_5 ?_
    refine z_icmp_ge (pc := 7) (tgt := 51) E ⟨by omega, by omega⟩ (by decide) dX7_isName_7 (by decide) (fun h7 => ?_) (fun h7 => ?_)
    · refine lv_iload_n (pc := 51) E.1 E.2 dX7_isName_51 rfl (lv_at hl 1 rfl) ?_
      refine z_if_le (pc := 52) (tgt := 65) E ⟨by omega, by omega⟩ dX7_isName_52 (by decide) (fun h52 => ?_) (fun h52 => ?_)
      · refine z_iconst (pc := 65) E dX7_isName_65 ?_
        exact z_retRz E hr rfl (congrArg iI (by first | (refine (if_pos ?_).symm; exact he.mpr (nkI_y (by omega) (by omega))) | (refine (if_neg (fun z => ?_)).symm; have z2 := he.mp z; first | omega | exact nkI_n z2 (by omega) (by first | exact Or.inl (by omega) | exact Or.inr (by omega))))) hlocks dX7_isName_66
      · refine lv_lload_n (pc := 55) E.1 E.2 dX7_isName_55 rfl (lv_at hl 0 rfl) ?_
        refine z_lconst (pc := 56) (v := 0) E (by decide) dX7_isName_56 ?_
        refine z_lcmp_ne (pc := 57) (tgt := 65) E ⟨by omega, by omega⟩ (by decide) dX7_isName_57 dX7_isName_58 (by decide) (fun h57 => ?_) (fun h57 => ?_)
        · refine z_iconst (pc := 65) E dX7_isName_65 ?_
          exact z_retRz E hr rfl (congrArg iI (by first | (refine (if_pos ?_).symm; exact he.mpr (nkI_y (by omega) (by omega))) | (refine (if_neg (fun z => ?_)).symm; have z2 := he.mp z; first | omega | exact nkI_n z2 (by omega) (by first | exact Or.inl (by omega) | exact Or.inr (by omega))))) hlocks dX7_isName_66
        · refine z_iconst (pc := 61) E dX7_isName_61 ?_
          refine lv_goto (pc := 62) (tgt := 66) E.1 E.2 dX7_isName_62 (by decide) ?_
          exact z_retRz E hr rfl (congrArg iI (by first | (refine (if_pos ?_).symm; exact he.mpr (nkI_y (by omega) (by omega))) | (refine (if_neg (fun z => ?_)).symm; have z2 := he.mp z; first | omega | exact nkI_n z2 (by omega) (by first | exact Or.inl (by omega) | exact Or.inr (by omega))))) hlocks dX7_isName_66
    · refine lv_lload_n (pc := 10) E.1 E.2 dX7_isName_10 rfl (lv_at hl 0 rfl) ?_
      refine z_lconst (pc := 11) (v := 0) E (by decide) dX7_isName_11 ?_
      refine z_lcmp_le (pc := 12) (tgt := 51) E ⟨by omega, by omega⟩ (by decide) dX7_isName_12 dX7_isName_13 (by decide) (fun h12 => ?_) (fun h12 => ?_)
      · refine lv_iload_n (pc := 51) E.1 E.2 dX7_isName_51 rfl (lv_at hl 1 rfl) ?_
        refine z_if_le (pc := 52) (tgt := 65) E ⟨by omega, by omega⟩ dX7_isName_52 (by decide) (fun h52 => ?_) (fun h52 => ?_)
        · refine z_iconst (pc := 65) E dX7_isName_65 ?_
          exact z_retRz E hr rfl (congrArg iI (by first | (refine (if_pos ?_).symm; exact he.mpr (nkI_y (by omega) (by omega))) | (refine (if_neg (fun z => ?_)).symm; have z2 := he.mp z; first | omega | exact nkI_n z2 (by omega) (by first | exact Or.inl (by omega) | exact Or.inr (by omega))))) hlocks dX7_isName_66
        · refine lv_lload_n (pc := 55) E.1 E.2 dX7_isName_55 rfl (lv_at hl 0 rfl) ?_
          refine z_lconst (pc := 56) (v := 0) E (by decide) dX7_isName_56 ?_
          refine z_lcmp_ne (pc := 57) (tgt := 65) E ⟨by omega, by omega⟩ (by decide) dX7_isName_57 dX7_isName_58 (by decide) (fun h57 => ?_) (fun h57 => ?_)
          · refine z_iconst (pc := 65) E dX7_isName_65 ?_
            exact z_retRz E hr rfl (congrArg iI (by first | (refine (if_pos ?_).symm; exact he.mpr (nkI_y (by omega) (by omega))) | (refine (if_neg (fun z => ?_)).symm; have z2 := he.mp z; first | omega | exact nkI_n z2 (by omega) (by first | exact Or.inl (by omega) | exact Or.inr (by omega))))) hlocks dX7_isName_66
          · refine z_iconst (pc := 61) E dX7_isName_61 ?_
            refine lv_goto (pc := 62) (tgt := 66) E.1 E.2 dX7_isName_62 (by decide) ?_
            exact z_retRz E hr rfl (congrArg iI (by first | (refine (if_pos ?_).symm; exact he.mpr (nkI_y (by omega) (by omega))) | (refine (if_neg (fun z => ?_)).symm; have z2 := he.mp z; first | omega | exact nkI_n z2 (by omega) (by first | exact Or.inl (by omega) | exact Or.inr (by omega))))) hlocks dX7_isName_66
      · refine lv_lload_n (pc := 16) E.1 E.2 dX7_isName_16 rfl (lv_at hl 0 rfl) ?_
        refine lv_ldc2 (pc := 17) (v := iL (31)) E.1 E.2 hown (show (Jvm.Cond.constantLong RX7 430 (iL (31))).before _ ss = true from (hts _ (List.mem_of_getElem? (i := 1) rfl))) dX7_isName_17 ?_
        refine z_land31 (pc := 20) E dX7_isName_20 ?_
        refine lv_lstore (pc := 21) (lv' := [(5, .long (iL (y % 32))), (3, .long (iL y)), (2, .int (iI n)), (0, .long (iL x))]) E.1 E.2 dX7_isName_21 hl (by decide) rfl (fun ls hl => ?_)
        refine lv_lload (pc := 23) E.1 E.2 dX7_isName_23 (lv_at hl 0 rfl) ?_
        refine z_lconst (pc := 25) (v := 1) E (by decide) dX7_isName_25 ?_
        refine z_lcmp_lt (pc := 26) (tgt := 39) E ⟨by omega, by omega⟩ (by decide) dX7_isName_26 dX7_isName_27 (by decide) (fun h26 => ?_) (fun h26 => ?_)
        · refine z_iconst (pc := 39) E dX7_isName_39 ?_
          exact z_retRz E hr rfl (congrArg iI (by first | (refine (if_pos ?_).symm; exact he.mpr (nkI_y (by omega) (by omega))) | (refine (if_neg (fun z => ?_)).symm; have z2 := he.mp z; first | omega | exact nkI_n z2 (by omega) (by first | exact Or.inl (by omega) | exact Or.inr (by omega))))) hlocks dX7_isName_40
        · refine lv_lload (pc := 30) E.1 E.2 dX7_isName_30 (lv_at hl 0 rfl) ?_
          refine lv_ldc2 (pc := 32) (v := iL (26)) E.1 E.2 hown (show (Jvm.Cond.constantLong RX7 432 (iL (26))).before _ ss = true from (hts _ (List.mem_of_getElem? (i := 2) rfl))) dX7_isName_32 ?_
          refine z_lcmp_le (pc := 35) (tgt := 41) E ⟨by omega, by omega⟩ (by decide) dX7_isName_35 dX7_isName_36 (by decide) (fun h35 => ?_) (fun h35 => ?_)
          · refine lv_lload_n (pc := 41) E.1 E.2 dX7_isName_41 rfl (lv_at hl 1 rfl) ?_
            refine z_iconst (pc := 42) E dX7_isName_42 ?_
            refine z_lshr (pc := 43) (n := 5) E ⟨by omega, by omega⟩ (by decide) dX7_isName_43 ?_
            rw [show y / ((2 ^ 5 : Nat) : Int) = y / 32 from rfl]
            refine lv_lstore_n (pc := 44) (lv' := [(3, .long (iL (y / 32))), (5, .long (iL (y % 32))), (2, .int (iI n)), (0, .long (iL x))]) E.1 E.2 dX7_isName_44 rfl hl (by decide) rfl (fun ls hl => ?_)
            refine lv_iinc (pc := 45) (v := iI (n + 1)) (lv' := [(2, .int (iI (n + 1))), (3, .long (iL (y / 32))), (5, .long (iL (y % 32))), (0, .long (iL x))]) E.1 E.2 dX7_isName_45 hl (k := 2) rfl (iI_add _ _) (by decide) rfl (fun ls hl => ?_)
            refine lv_goto (pc := 48) (tgt := 4) E.1 E.2 dX7_isName_48 (by decide) ?_
            exact ihL4 (n + 1) (y / 32) (by omega) ⟨by omega, by omega⟩ (he.trans (nkI_s (by omega) (by omega))) (by omega) ls (lv_sub hl [1, 0, 3] rfl)
          · refine z_iconst (pc := 39) E dX7_isName_39 ?_
            exact z_retRz E hr rfl (congrArg iI (by first | (refine (if_pos ?_).symm; exact he.mpr (nkI_y (by omega) (by omega))) | (refine (if_neg (fun z => ?_)).symm; have z2 := he.mp z; first | omega | exact nkI_n z2 (by omega) (by first | exact Or.inl (by omega) | exact Or.inr (by omega))))) hlocks dX7_isName_40
set_option maxHeartbeats 1000000 in
set_option maxRecDepth 100000 in
theorem mX7_errorPosition (lL : Launch) (G : GG) (o : Nat → Nat) (ν σ : Int → Int) (π : Nat → Int → Int) (δ τ ω : Int → Int) (hI : In σ) : Met lL yX7_errorPosition wsX7_errorPosition ({ frames := 0, cells := 0, slots := 0, locals := 0 } : Room) (va_Pc [.ref (o 0)] (fun U => QT G o ν σ π δ τ ω U.heap ∧ KK G U)) (vp_Si (fun r => r = (iI (ν 42)))) 0 0 (fun _ => False) := by
  refine z_met (P := (fun H : Heap => QT G o ν σ π δ τ ω H)) (by decide) rfl (Nat.le_of_ble_eq_true rfl) (fun pp ee ss mm below meth cC E hr hml hown hts hlocks hQ hK ls hl => ?_)
  have hl : lv_has ls 1 [(0, .ref (o 0))] := hl
  have hcs : 0 ≤ (({ frames := 0, cells := 0, slots := 0, locals := 0 } : Room)).cells ∧ 0 ≤ (({ frames := 0, cells := 0, slots := 0, locals := 0 } : Room)).slots := ⟨Nat.zero_le _, Nat.zero_le _⟩
  have hin5 : ∀ w ∈ wsX50, w ∈ wsX7_errorPosition := fun w h => List.mem_cons_of_mem _ (List.mem_append_right _ (h))
  have hin7 : ∀ w ∈ wsX70, w ∈ wsX7_errorPosition := fun w h => List.mem_cons_of_mem _ (List.mem_append_left _ (List.mem_append_right _ (h)))
  have hF := hI.F
  have hMm := hI.M
  have hGn := hI.Gn
  have hTi := hI.ti
  have hGr := hI.gr
  refine lv_aload_n (pc := 0) E.1 E.2 dX7_errorPosition_0 rfl (lv_at hl 0 rfl) ?_
  refine g7_6 (pc := 1) E hts hin7 hown hK hQ.ob (hts _ (List.mem_of_getElem? (i := 1) rfl)) dX7_errorPosition_1 ?_
  refine g5_2 (pc := 4) E hts hin5 hown hK hQ.rdr (hts _ (List.mem_of_getElem? (i := 2) rfl)) dX7_errorPosition_4 ?_
  exact z_retRi E hr rfl hlocks dX7_errorPosition_7
set_option maxHeartbeats 1000000 in
set_option maxRecDepth 100000 in
theorem mX7_find (lL : Launch) (G : GG) (o : Nat → Nat) (ν σ : Int → Int) (π : Nat → Int → Int) (δ τ ω : Int → Int) (x : Int) (hI : In σ) (hx : -9223372036854775808 ≤ x ∧ x < 9223372036854775808) : Met lL yX7_find wsX7_find ({ frames := 1, cells := 0, slots := 0, locals := 23 } : Room) (va_Pc [.ref (o 0), .long (iL x)] (fun U => QT G o ν σ π δ τ ω U.heap ∧ KK G U)) (vp_Si (fun r => r = (iI (fnS σ x 0)))) 0 0 (fun _ => False) := by
  refine z_met (P := (fun H : Heap => QT G o ν σ π δ τ ω H)) (by decide) rfl (Nat.le_of_ble_eq_true rfl) (fun pp ee ss mm below meth cC E hr hml hown hts hlocks hQ hK ls hl => ?_)
  have hl : lv_has ls 3 [(0, .ref (o 0)), (1, .long (iL x))] := hl
  have hcs : 0 ≤ (({ frames := 1, cells := 0, slots := 0, locals := 23 } : Room)).cells ∧ 0 ≤ (({ frames := 1, cells := 0, slots := 0, locals := 23 } : Room)).slots := ⟨Nat.zero_le _, Nat.zero_le _⟩
  have hin6 : ∀ w ∈ wsX60, w ∈ wsX7_find := fun w h => List.mem_cons_of_mem _ (List.mem_append_left _ (List.mem_append_right _ (h)))
  have hin7 : ∀ w ∈ wsX70, w ∈ wsX7_find := fun w h => List.mem_cons_of_mem _ (List.mem_append_left _ (List.mem_append_left _ (List.mem_append_right _ (h))))
  have hF := hI.F
  have hMm := hI.M
  have hGn := hI.Gn
  have hTi := hI.ti
  have hGr := hI.gr
  refine lv_aload_n (pc := 0) E.1 E.2 dX7_find_0 rfl (lv_at hl 0 rfl) ?_
  refine g7_0 (pc := 1) E hts hin7 hown hK hQ.ob (hts _ (List.mem_of_getElem? (i := 1) rfl)) dX7_find_1 ?_
  refine g6_0 (pc := 4) E hts hin6 hown hK hQ.nob (hts _ (List.mem_of_getElem? (i := 2) rfl)) dX7_find_4 ?_
  refine lv_lload_n (pc := 7) E.1 E.2 dX7_find_7 rfl (lv_at hl 1 rfl) ?_
  refine z_rVi (pc := 8) (As := [.long (iL x)]) (rest := []) E hml hown hts (mX3_numberOf lL G (fun k => o (1 + (1 + k))) σ x hI (by omega)) (cwV 1 hts gX7_find_X3_numberOf rfl rfl rfl vdX3_numberOf ⟨Nat.le_of_ble_eq_true rfl, Nat.le_of_ble_eq_true rfl⟩) (oB.recv hK hQ.foo rfl) hQ.now.fo hK rfl hl.1 rfl dX7_find_8 hcs (Nat.le_of_ble_eq_true rfl) ?_
  exact z_retRi E hr rfl hlocks dX7_find_11
set_option maxHeartbeats 1000000 in
set_option maxRecDepth 100000 in
theorem mxX7_count (lL : Launch) (hst0 : lL.stackTraces = false) (G : GG) (o : Nat → Nat) (ν σ : Int → Int) (π : Nat → Int → Int) (δ τ ω : Int → Int) (w : Int) (hI : In σ) (hw : -2147483648 ≤ w ∧ w < 2147483648) (hbad : ¬ ((kxCount w) = 0)) : vx_Met lL yX7_count wsX7_count ({ frames := 6, cells := 1, slots := 6, locals := 110 } : Room) (va_Pc [.ref (o 0), .int (iI w)] (fun U => QT G o ν σ π δ τ ω U.heap ∧ KK G U ∧ KX FF0 U U.heap)) (fun _ _ _ _ => False) (XCe (exq xA xI xI (kxCount w))) 1 6 FF0 := by
  refine z_metX (P := (fun H : Heap => QT G o ν σ π δ τ ω H)) (by decide) rfl (Nat.le_of_ble_eq_true rfl) (fun pp ee ss mm below meth cC E hml hown hts hlocks htab hQ hK hX ls hl => ?_)
  have hl : lv_has ls 2 [(0, .ref (o 0)), (1, .int (iI w))] := hl
  have hcs : 0 ≤ (({ frames := 6, cells := 1, slots := 6, locals := 110 } : Room)).cells ∧ 0 ≤ (({ frames := 6, cells := 1, slots := 6, locals := 110 } : Room)).slots := ⟨Nat.zero_le _, Nat.zero_le _⟩
  have hin2 : ∀ w ∈ wsX20, w ∈ wsX7_count := fun w h => List.mem_cons_of_mem _ (List.mem_append_left _ (List.mem_append_left _ (List.mem_append_right _ (h))))
  have hin3 : ∀ w ∈ wsX30, w ∈ wsX7_count := fun w h => List.mem_cons_of_mem _ (List.mem_append_left _ (List.mem_append_left _ (List.mem_append_left _ (List.mem_append_right _ (h)))))
  have hin4 : ∀ w ∈ wsX40, w ∈ wsX7_count := fun w h => List.mem_cons_of_mem _ (List.mem_append_left _ (List.mem_append_right _ (h)))
  have hin6 : ∀ w ∈ wsX60, w ∈ wsX7_count := fun w h => List.mem_cons_of_mem _ (List.mem_append_left _ (List.mem_append_left _ (List.mem_append_left _ (List.mem_append_left _ (List.mem_append_right _ (h))))))
  have hin7 : ∀ w ∈ wsX70, w ∈ wsX7_count := fun w h => List.mem_cons_of_mem _ (List.mem_append_left _ (List.mem_append_left _ (List.mem_append_left _ (List.mem_append_left _ (List.mem_append_left _ (List.mem_append_right _ (h)))))))
  have hF := hI.F
  have hMm := hI.M
  have hGn := hI.Gn
  have hTi := hI.ti
  have hGr := hI.gr
  refine lv_iload_n (pc := 0) E.1 E.2 dX7_count_0 rfl (lv_at hl 1 rfl) ?_
  by_cases hs1_0 : w = 0
  · refine z_tabIn (pc := 1) (k := 0) (tgt := 48) E hs1_0 (by decide) (by decide) (by decide) dX7_count_1 rfl (by decide) ?_
    refine lv_aload_n (pc := 48) E.1 E.2 dX7_count_48 rfl (lv_at hl 0 rfl) ?_
    refine g7_0 (pc := 49) E hts hin7 hown hK hQ.ob (hts _ (List.mem_of_getElem? (i := 3) rfl)) dX7_count_49 ?_
    refine g6_0 (pc := 52) E hts hin6 hown hK hQ.nob (hts _ (List.mem_of_getElem? (i := 4) rfl)) dX7_count_52 ?_
    refine g3_3 (pc := 55) E hts hin3 hown hK hQ.foo (hts _ (List.mem_of_getElem? (i := 5) rfl)) dX7_count_55 ?_
    exact absurd (show (kxCount w) = 0 by (unfold kxCount; (repeat' split) <;> first | rfl | omega | (exfalso; omega) | contradiction | grind)) hbad
  by_cases hs1_1 : w = 1
  · refine z_tabIn (pc := 1) (k := 1) (tgt := 59) E hs1_1 (by decide) (by decide) (by decide) dX7_count_1 rfl (by decide) ?_
    refine lv_aload_n (pc := 59) E.1 E.2 dX7_count_59 rfl (lv_at hl 0 rfl) ?_
    refine g7_0 (pc := 60) E hts hin7 hown hK hQ.ob (hts _ (List.mem_of_getElem? (i := 3) rfl)) dX7_count_60 ?_
    refine g6_1 (pc := 63) E hts hin6 hown hK hQ.nob (hts _ (List.mem_of_getElem? (i := 6) rfl)) dX7_count_63 ?_
    refine g2_2 (pc := 66) E hts hin2 hown hK hQ.fio (hts _ (List.mem_of_getElem? (i := 7) rfl)) dX7_count_66 ?_
    exact absurd (show (kxCount w) = 0 by (unfold kxCount; (repeat' split) <;> first | rfl | omega | (exfalso; omega) | contradiction | grind)) hbad
  by_cases hs1_2 : w = 2
  · refine z_tabIn (pc := 1) (k := 2) (tgt := 70) E hs1_2 (by decide) (by decide) (by decide) dX7_count_1 rfl (by decide) ?_
    refine lv_aload_n (pc := 70) E.1 E.2 dX7_count_70 rfl (lv_at hl 0 rfl) ?_
    refine g7_0 (pc := 71) E hts hin7 hown hK hQ.ob (hts _ (List.mem_of_getElem? (i := 3) rfl)) dX7_count_71 ?_
    refine z_iconst (pc := 74) E dX7_count_74 ?_
    refine z_iconst (pc := 75) E dX7_count_75 ?_
    refine z_rVi (pc := 76) (As := [.int (iI 0), .int (iI 0)]) (rest := []) E hml hown hts (mX6_subtreeSum lL G (fun k => o (1 + k)) σ 0 0 hI (by omega) (Or.inl rfl)) (cwV 2 hts gX7_count_X6_subtreeSum rfl rfl rfl vdX6_subtreeSum ⟨Nat.le_of_ble_eq_true rfl, Nat.le_of_ble_eq_true rfl⟩) (oB.recv hK hQ.nob rfl) hQ.now hK rfl hl.1 rfl dX7_count_76 hcs (Nat.le_of_ble_eq_true rfl) ?_
    rw [show (mbS σ 0 (1 - 0)) = (mbS σ 0 1) from rfl]
    exact absurd (show (kxCount w) = 0 by (unfold kxCount; (repeat' split) <;> first | rfl | omega | (exfalso; omega) | contradiction | grind)) hbad
  by_cases hs1_3 : w = 3
  · refine z_tabIn (pc := 1) (k := 3) (tgt := 80) E hs1_3 (by decide) (by decide) (by decide) dX7_count_1 rfl (by decide) ?_
    refine lv_aload_n (pc := 80) E.1 E.2 dX7_count_80 rfl (lv_at hl 0 rfl) ?_
    refine g7_0 (pc := 81) E hts hin7 hown hK hQ.ob (hts _ (List.mem_of_getElem? (i := 3) rfl)) dX7_count_81 ?_
    refine g6_4 (pc := 84) E hts hin6 hown hK hQ.nob (hts _ (List.mem_of_getElem? (i := 8) rfl)) dX7_count_84 ?_
    exact absurd (show (kxCount w) = 0 by (unfold kxCount; (repeat' split) <;> first | rfl | omega | (exfalso; omega) | contradiction | grind)) hbad
  by_cases hs1_4 : w = 4
  · refine z_tabIn (pc := 1) (k := 4) (tgt := 88) E hs1_4 (by decide) (by decide) (by decide) dX7_count_1 rfl (by decide) ?_
    refine lv_aload_n (pc := 88) E.1 E.2 dX7_count_88 rfl (lv_at hl 0 rfl) ?_
    refine g7_0 (pc := 89) E hts hin7 hown hK hQ.ob (hts _ (List.mem_of_getElem? (i := 3) rfl)) dX7_count_89 ?_
    refine g6_5 (pc := 92) E hts hin6 hown hK hQ.nob (hts _ (List.mem_of_getElem? (i := 9) rfl)) dX7_count_92 ?_
    exact absurd (show (kxCount w) = 0 by (unfold kxCount; (repeat' split) <;> first | rfl | omega | (exfalso; omega) | contradiction | grind)) hbad
  by_cases hs1_5 : w = 5
  · refine z_tabIn (pc := 1) (k := 5) (tgt := 96) E hs1_5 (by decide) (by decide) (by decide) dX7_count_1 rfl (by decide) ?_
    refine lv_aload_n (pc := 96) E.1 E.2 dX7_count_96 rfl (lv_at hl 0 rfl) ?_
    refine g7_0 (pc := 97) E hts hin7 hown hK hQ.ob (hts _ (List.mem_of_getElem? (i := 3) rfl)) dX7_count_97 ?_
    refine g6_3 (pc := 100) E hts hin6 hown hK hQ.nob (hts _ (List.mem_of_getElem? (i := 10) rfl)) dX7_count_100 ?_
    refine g4_4 (pc := 103) E hts hin4 hown hK hQ.gio (hts _ (List.mem_of_getElem? (i := 11) rfl)) dX7_count_103 ?_
    exact absurd (show (kxCount w) = 0 by (unfold kxCount; (repeat' split) <;> first | rfl | omega | (exfalso; omega) | contradiction | grind)) hbad
  by_cases hs1_6 : w = 6
  · refine z_tabIn (pc := 1) (k := 6) (tgt := 107) E hs1_6 (by decide) (by decide) (by decide) dX7_count_1 rfl (by decide) ?_
    refine lv_aload_n (pc := 107) E.1 E.2 dX7_count_107 rfl (lv_at hl 0 rfl) ?_
    refine g7_0 (pc := 108) E hts hin7 hown hK hQ.ob (hts _ (List.mem_of_getElem? (i := 3) rfl)) dX7_count_108 ?_
    refine g6_0 (pc := 111) E hts hin6 hown hK hQ.nob (hts _ (List.mem_of_getElem? (i := 4) rfl)) dX7_count_111 ?_
    refine z_rVi (pc := 114) (As := []) (rest := []) E hml hown hts (mX3_taggedTotal lL G (fun k => o (1 + (1 + k))) σ  hI) (cwV 0 hts gX7_count_X3_taggedTotal rfl rfl rfl vdX3_taggedTotal ⟨Nat.le_of_ble_eq_true rfl, Nat.le_of_ble_eq_true rfl⟩) (oB.recv hK hQ.foo rfl) hQ.now.fo hK rfl hl.1 rfl dX7_count_114 hcs (Nat.le_of_ble_eq_true rfl) ?_
    exact absurd (show (kxCount w) = 0 by (unfold kxCount; (repeat' split) <;> first | rfl | omega | (exfalso; omega) | contradiction | grind)) hbad
  by_cases hs1_7 : w = 7
  · refine z_tabIn (pc := 1) (k := 7) (tgt := 118) E hs1_7 (by decide) (by decide) (by decide) dX7_count_1 rfl (by decide) ?_
    refine lv_aload_n (pc := 118) E.1 E.2 dX7_count_118 rfl (lv_at hl 0 rfl) ?_
    refine g7_0 (pc := 119) E hts hin7 hown hK hQ.ob (hts _ (List.mem_of_getElem? (i := 3) rfl)) dX7_count_119 ?_
    refine z_iconst (pc := 122) E dX7_count_122 ?_
    refine z_iconst (pc := 123) E dX7_count_123 ?_
    refine z_rVi (pc := 124) (As := [.int (iI (-1)), .int (iI 1)]) (rest := []) E hml hown hts (mX6_countAnew lL G (fun k => o (1 + k)) σ (-1) 1 hI (by omega) (Or.inr rfl)) (cwV 2 hts gX7_count_X6_countAnew rfl rfl rfl vdX6_countAnew ⟨Nat.le_of_ble_eq_true rfl, Nat.le_of_ble_eq_true rfl⟩) (oB.recv hK hQ.nob rfl) hQ.now hK rfl hl.1 rfl dX7_count_124 hcs (Nat.le_of_ble_eq_true rfl) ?_
    exact absurd (show (kxCount w) = 0 by (unfold kxCount; (repeat' split) <;> first | rfl | omega | (exfalso; omega) | contradiction | grind)) hbad
  refine z_tabOut (pc := 1) (tgt := 128) E ⟨by omega, by omega⟩ (by omega) dX7_count_1 (by decide) ?_
  exact z_thrS_xA (pc := 128) (rest := []) (is := 125) (text := "no such number of the tree") E hst0 hown (hts _ (List.mem_of_getElem? (i := 1) rfl)) (hts _ (List.mem_of_getElem? (i := 2) rfl)) (fun w h => hts w (List.mem_cons_of_mem _ (List.mem_append_right _ (h)))) hX (List.mem_of_getElem? (i := 1) rfl) (hl.1.trans hml.symm) dX7_count_128 dX7_count_131 dX7_count_132 dX7_count_134 dX7_count_137 htab (Nat.le_of_ble_eq_true rfl) (Nat.le_of_ble_eq_true rfl) (Nat.le_of_ble_eq_true rfl) (Nat.le_of_ble_eq_true rfl) hlocks (by rw [show (kxCount w) = 1 by (unfold kxCount; (repeat' split) <;> first | rfl | omega | (exfalso; omega) | contradiction | grind)]; rfl)
set_option maxHeartbeats 1000000 in
set_option maxRecDepth 100000 in
theorem mX7_count (lL : Launch) (G : GG) (o : Nat → Nat) (ν σ : Int → Int) (π : Nat → Int → Int) (δ τ ω : Int → Int) (w : Int) (hI : In σ) (hw : -2147483648 ≤ w ∧ w < 2147483648) (hok : (kxCount w) = 0) : Met lL yX7_count wsX7_count ({ frames := 5, cells := 0, slots := 0, locals := 110 } : Room) (va_Pc [.ref (o 0), .int (iI w)] (fun U => QT G o ν σ π δ τ ω U.heap ∧ KK G U)) (vp_Si (fun r => r = (iI (axCount σ w)))) 0 0 (fun _ => False) := by
  refine z_met (P := (fun H : Heap => QT G o ν σ π δ τ ω H)) (by decide) rfl (Nat.le_of_ble_eq_true rfl) (fun pp ee ss mm below meth cC E hr hml hown hts hlocks hQ hK ls hl => ?_)
  have hl : lv_has ls 2 [(0, .ref (o 0)), (1, .int (iI w))] := hl
  have hcs : 0 ≤ (({ frames := 5, cells := 0, slots := 0, locals := 110 } : Room)).cells ∧ 0 ≤ (({ frames := 5, cells := 0, slots := 0, locals := 110 } : Room)).slots := ⟨Nat.zero_le _, Nat.zero_le _⟩
  have hin2 : ∀ w ∈ wsX20, w ∈ wsX7_count := fun w h => List.mem_cons_of_mem _ (List.mem_append_left _ (List.mem_append_left _ (List.mem_append_right _ (h))))
  have hin3 : ∀ w ∈ wsX30, w ∈ wsX7_count := fun w h => List.mem_cons_of_mem _ (List.mem_append_left _ (List.mem_append_left _ (List.mem_append_left _ (List.mem_append_right _ (h)))))
  have hin4 : ∀ w ∈ wsX40, w ∈ wsX7_count := fun w h => List.mem_cons_of_mem _ (List.mem_append_left _ (List.mem_append_right _ (h)))
  have hin6 : ∀ w ∈ wsX60, w ∈ wsX7_count := fun w h => List.mem_cons_of_mem _ (List.mem_append_left _ (List.mem_append_left _ (List.mem_append_left _ (List.mem_append_left _ (List.mem_append_right _ (h))))))
  have hin7 : ∀ w ∈ wsX70, w ∈ wsX7_count := fun w h => List.mem_cons_of_mem _ (List.mem_append_left _ (List.mem_append_left _ (List.mem_append_left _ (List.mem_append_left _ (List.mem_append_left _ (List.mem_append_right _ (h)))))))
  have hF := hI.F
  have hMm := hI.M
  have hGn := hI.Gn
  have hTi := hI.ti
  have hGr := hI.gr
  have hoc := kxCount_ok hok
  refine lv_iload_n (pc := 0) E.1 E.2 dX7_count_0 rfl (lv_at hl 1 rfl) ?_
  by_cases hs1_0 : w = 0
  · refine z_tabIn (pc := 1) (k := 0) (tgt := 48) E hs1_0 (by decide) (by decide) (by decide) dX7_count_1 rfl (by decide) ?_
    refine lv_aload_n (pc := 48) E.1 E.2 dX7_count_48 rfl (lv_at hl 0 rfl) ?_
    refine g7_0 (pc := 49) E hts hin7 hown hK hQ.ob (hts _ (List.mem_of_getElem? (i := 3) rfl)) dX7_count_49 ?_
    refine g6_0 (pc := 52) E hts hin6 hown hK hQ.nob (hts _ (List.mem_of_getElem? (i := 4) rfl)) dX7_count_52 ?_
    refine g3_3 (pc := 55) E hts hin3 hown hK hQ.foo (hts _ (List.mem_of_getElem? (i := 5) rfl)) dX7_count_55 ?_
    exact z_retRi E hr (congrArg iI (by (unfold axCount; (repeat' split) <;> first | rfl | omega | (exfalso; omega)))) hlocks dX7_count_58
  by_cases hs1_1 : w = 1
  · refine z_tabIn (pc := 1) (k := 1) (tgt := 59) E hs1_1 (by decide) (by decide) (by decide) dX7_count_1 rfl (by decide) ?_
    refine lv_aload_n (pc := 59) E.1 E.2 dX7_count_59 rfl (lv_at hl 0 rfl) ?_
    refine g7_0 (pc := 60) E hts hin7 hown hK hQ.ob (hts _ (List.mem_of_getElem? (i := 3) rfl)) dX7_count_60 ?_
    refine g6_1 (pc := 63) E hts hin6 hown hK hQ.nob (hts _ (List.mem_of_getElem? (i := 6) rfl)) dX7_count_63 ?_
    refine g2_2 (pc := 66) E hts hin2 hown hK hQ.fio (hts _ (List.mem_of_getElem? (i := 7) rfl)) dX7_count_66 ?_
    exact z_retRi E hr (congrArg iI (by (unfold axCount; (repeat' split) <;> first | rfl | omega | (exfalso; omega)))) hlocks dX7_count_69
  by_cases hs1_2 : w = 2
  · refine z_tabIn (pc := 1) (k := 2) (tgt := 70) E hs1_2 (by decide) (by decide) (by decide) dX7_count_1 rfl (by decide) ?_
    refine lv_aload_n (pc := 70) E.1 E.2 dX7_count_70 rfl (lv_at hl 0 rfl) ?_
    refine g7_0 (pc := 71) E hts hin7 hown hK hQ.ob (hts _ (List.mem_of_getElem? (i := 3) rfl)) dX7_count_71 ?_
    refine z_iconst (pc := 74) E dX7_count_74 ?_
    refine z_iconst (pc := 75) E dX7_count_75 ?_
    refine z_rVi (pc := 76) (As := [.int (iI 0), .int (iI 0)]) (rest := []) E hml hown hts (mX6_subtreeSum lL G (fun k => o (1 + k)) σ 0 0 hI (by omega) (Or.inl rfl)) (cwV 2 hts gX7_count_X6_subtreeSum rfl rfl rfl vdX6_subtreeSum ⟨Nat.le_of_ble_eq_true rfl, Nat.le_of_ble_eq_true rfl⟩) (oB.recv hK hQ.nob rfl) hQ.now hK rfl hl.1 rfl dX7_count_76 hcs (Nat.le_of_ble_eq_true rfl) ?_
    rw [show (mbS σ 0 (1 - 0)) = (mbS σ 0 1) from rfl]
    exact z_retRi E hr (congrArg iI (by (unfold axCount; (repeat' split) <;> first | rfl | omega | (exfalso; omega)))) hlocks dX7_count_79
  by_cases hs1_3 : w = 3
  · refine z_tabIn (pc := 1) (k := 3) (tgt := 80) E hs1_3 (by decide) (by decide) (by decide) dX7_count_1 rfl (by decide) ?_
    refine lv_aload_n (pc := 80) E.1 E.2 dX7_count_80 rfl (lv_at hl 0 rfl) ?_
    refine g7_0 (pc := 81) E hts hin7 hown hK hQ.ob (hts _ (List.mem_of_getElem? (i := 3) rfl)) dX7_count_81 ?_
    refine g6_4 (pc := 84) E hts hin6 hown hK hQ.nob (hts _ (List.mem_of_getElem? (i := 8) rfl)) dX7_count_84 ?_
    exact z_retRi E hr (congrArg iI (by (unfold axCount; (repeat' split) <;> first | rfl | omega | (exfalso; omega)))) hlocks dX7_count_87
  by_cases hs1_4 : w = 4
  · refine z_tabIn (pc := 1) (k := 4) (tgt := 88) E hs1_4 (by decide) (by decide) (by decide) dX7_count_1 rfl (by decide) ?_
    refine lv_aload_n (pc := 88) E.1 E.2 dX7_count_88 rfl (lv_at hl 0 rfl) ?_
    refine g7_0 (pc := 89) E hts hin7 hown hK hQ.ob (hts _ (List.mem_of_getElem? (i := 3) rfl)) dX7_count_89 ?_
    refine g6_5 (pc := 92) E hts hin6 hown hK hQ.nob (hts _ (List.mem_of_getElem? (i := 9) rfl)) dX7_count_92 ?_
    exact z_retRi E hr (congrArg iI (by (unfold axCount; (repeat' split) <;> first | rfl | omega | (exfalso; omega)))) hlocks dX7_count_95
  by_cases hs1_5 : w = 5
  · refine z_tabIn (pc := 1) (k := 5) (tgt := 96) E hs1_5 (by decide) (by decide) (by decide) dX7_count_1 rfl (by decide) ?_
    refine lv_aload_n (pc := 96) E.1 E.2 dX7_count_96 rfl (lv_at hl 0 rfl) ?_
    refine g7_0 (pc := 97) E hts hin7 hown hK hQ.ob (hts _ (List.mem_of_getElem? (i := 3) rfl)) dX7_count_97 ?_
    refine g6_3 (pc := 100) E hts hin6 hown hK hQ.nob (hts _ (List.mem_of_getElem? (i := 10) rfl)) dX7_count_100 ?_
    refine g4_4 (pc := 103) E hts hin4 hown hK hQ.gio (hts _ (List.mem_of_getElem? (i := 11) rfl)) dX7_count_103 ?_
    exact z_retRi E hr (congrArg iI (by (unfold axCount; (repeat' split) <;> first | rfl | omega | (exfalso; omega)))) hlocks dX7_count_106
  by_cases hs1_6 : w = 6
  · refine z_tabIn (pc := 1) (k := 6) (tgt := 107) E hs1_6 (by decide) (by decide) (by decide) dX7_count_1 rfl (by decide) ?_
    refine lv_aload_n (pc := 107) E.1 E.2 dX7_count_107 rfl (lv_at hl 0 rfl) ?_
    refine g7_0 (pc := 108) E hts hin7 hown hK hQ.ob (hts _ (List.mem_of_getElem? (i := 3) rfl)) dX7_count_108 ?_
    refine g6_0 (pc := 111) E hts hin6 hown hK hQ.nob (hts _ (List.mem_of_getElem? (i := 4) rfl)) dX7_count_111 ?_
    refine z_rVi (pc := 114) (As := []) (rest := []) E hml hown hts (mX3_taggedTotal lL G (fun k => o (1 + (1 + k))) σ  hI) (cwV 0 hts gX7_count_X3_taggedTotal rfl rfl rfl vdX3_taggedTotal ⟨Nat.le_of_ble_eq_true rfl, Nat.le_of_ble_eq_true rfl⟩) (oB.recv hK hQ.foo rfl) hQ.now.fo hK rfl hl.1 rfl dX7_count_114 hcs (Nat.le_of_ble_eq_true rfl) ?_
    exact z_retRi E hr (congrArg iI (by (unfold axCount; (repeat' split) <;> first | rfl | omega | (exfalso; omega)))) hlocks dX7_count_117
  by_cases hs1_7 : w = 7
  · refine z_tabIn (pc := 1) (k := 7) (tgt := 118) E hs1_7 (by decide) (by decide) (by decide) dX7_count_1 rfl (by decide) ?_
    refine lv_aload_n (pc := 118) E.1 E.2 dX7_count_118 rfl (lv_at hl 0 rfl) ?_
    refine g7_0 (pc := 119) E hts hin7 hown hK hQ.ob (hts _ (List.mem_of_getElem? (i := 3) rfl)) dX7_count_119 ?_
    refine z_iconst (pc := 122) E dX7_count_122 ?_
    refine z_iconst (pc := 123) E dX7_count_123 ?_
    refine z_rVi (pc := 124) (As := [.int (iI (-1)), .int (iI 1)]) (rest := []) E hml hown hts (mX6_countAnew lL G (fun k => o (1 + k)) σ (-1) 1 hI (by omega) (Or.inr rfl)) (cwV 2 hts gX7_count_X6_countAnew rfl rfl rfl vdX6_countAnew ⟨Nat.le_of_ble_eq_true rfl, Nat.le_of_ble_eq_true rfl⟩) (oB.recv hK hQ.nob rfl) hQ.now hK rfl hl.1 rfl dX7_count_124 hcs (Nat.le_of_ble_eq_true rfl) ?_
    exact z_retRi E hr (congrArg iI (by (unfold axCount; (repeat' split) <;> first | rfl | omega | (exfalso; omega)))) hlocks dX7_count_127
  refine z_tabOut (pc := 1) (tgt := 128) E ⟨by omega, by omega⟩ (by omega) dX7_count_1 (by decide) ?_
  exact absurd hok (by unfold kxCount; (repeat' split) <;> first | decide | omega | (exfalso; omega) | grind)
set_option maxHeartbeats 1000000 in
set_option maxRecDepth 100000 in
theorem mxX7_folder (lL : Launch) (hst0 : lL.stackTraces = false) (G : GG) (o : Nat → Nat) (ν σ : Int → Int) (π : Nat → Int → Int) (δ τ ω : Int → Int) (f : Int) (w : Int) (hI : In σ) (hf : -2147483648 ≤ f ∧ f < 2147483648) (hw : -2147483648 ≤ w ∧ w < 2147483648) (hbad : ¬ ((kxFolder σ f w) = 0)) : vx_Met lL yX7_folder wsX7_folder ({ frames := 7, cells := 1, slots := 6, locals := 121 } : Room) (va_Pc [.ref (o 0), .int (iI f), .int (iI w)] (fun U => QT G o ν σ π δ τ ω U.heap ∧ KK G U ∧ KX FF0 U U.heap)) (fun _ _ _ _ => False) (XCe (exq xI xA xI (kxFolder σ f w))) 1 6 FF0 := by
  refine z_metX (P := (fun H : Heap => QT G o ν σ π δ τ ω H)) (by decide) rfl (Nat.le_of_ble_eq_true rfl) (fun pp ee ss mm below meth cC E hml hown hts hlocks htab hQ hK hX ls hl => ?_)
  have hl : lv_has ls 3 [(0, .ref (o 0)), (1, .int (iI f)), (2, .int (iI w))] := hl
  have hcs : 0 ≤ (({ frames := 7, cells := 1, slots := 6, locals := 121 } : Room)).cells ∧ 0 ≤ (({ frames := 7, cells := 1, slots := 6, locals := 121 } : Room)).slots := ⟨Nat.zero_le _, Nat.zero_le _⟩
  have hin6 : ∀ w ∈ wsX60, w ∈ wsX7_folder := fun w h => List.mem_cons_of_mem _ (List.mem_append_left _ (List.mem_append_left _ (List.mem_append_left _ (List.mem_append_left _ (List.mem_append_right _ (h))))))
  have hin7 : ∀ w ∈ wsX70, w ∈ wsX7_folder := fun w h => List.mem_cons_of_mem _ (List.mem_append_left _ (List.mem_append_left _ (List.mem_append_left _ (List.mem_append_left _ (List.mem_append_left _ (List.mem_append_right _ (h)))))))
  have hF := hI.F
  have hMm := hI.M
  have hGn := hI.Gn
  have hTi := hI.ti
  have hGr := hI.gr
  refine lv_aload_n (pc := 0) E.1 E.2 dX7_folder_0 rfl (lv_at hl 0 rfl) ?_
  refine lv_iload_n (pc := 1) E.1 E.2 dX7_folder_1 rfl (lv_at hl 1 rfl) ?_
  by_cases hc2 : 0 ≤ f ∧ f < σ 2
  · refine z_rVv (pc := 2) (As := [.int (iI f)]) (rest := []) E hml hown hts (mX7_needFolder lL G o ν σ π δ τ ω f hI (by omega) (by omega)) (cwV 1 hts gX7_folder_X7_needFolder rfl rfl rfl vdX7_needFolder ⟨Nat.le_of_ble_eq_true rfl, Nat.le_of_ble_eq_true rfl⟩) (oB.recv hK hQ.ob rfl) hQ hK rfl hl.1 rfl dX7_folder_2 hcs (Nat.le_of_ble_eq_true rfl) ?_
    refine lv_iload_n (pc := 5) E.1 E.2 dX7_folder_5 rfl (lv_at hl 2 rfl) ?_
    by_cases hs6_0 : w = 0
    · refine z_tabIn (pc := 6) (k := 0) (tgt := 60) E hs6_0 (by decide) (by decide) (by decide) dX7_folder_6 rfl (by decide) ?_
      refine lv_aload_n (pc := 60) E.1 E.2 dX7_folder_60 rfl (lv_at hl 0 rfl) ?_
      refine g7_0 (pc := 61) E hts hin7 hown hK hQ.ob (hts _ (List.mem_of_getElem? (i := 3) rfl)) dX7_folder_61 ?_
      refine g6_0 (pc := 64) E hts hin6 hown hK hQ.nob (hts _ (List.mem_of_getElem? (i := 4) rfl)) dX7_folder_64 ?_
      refine lv_iload_n (pc := 67) E.1 E.2 dX7_folder_67 rfl (lv_at hl 1 rfl) ?_
      refine z_rVi (pc := 68) (As := [.int (iI f)]) (rest := []) E hml hown hts (mX3_parentOf lL G (fun k => o (1 + (1 + k))) σ f hI (by omega)) (cwV 1 hts gX7_folder_X3_parentOf rfl rfl rfl vdX3_parentOf ⟨Nat.le_of_ble_eq_true rfl, Nat.le_of_ble_eq_true rfl⟩) (oB.recv hK hQ.foo rfl) hQ.now.fo hK rfl hl.1 rfl dX7_folder_68 hcs (Nat.le_of_ble_eq_true rfl) ?_
      rw [show (if 0 ≤ f ∧ f < σ 2 then σ (69 + f) else -1) = (σ (69 + f)) from (if_pos (by omega))]
      exact absurd (show (kxFolder σ f w) = 0 by (unfold kxFolder; (repeat' split) <;> first | rfl | omega | (exfalso; omega) | contradiction | grind)) hbad
    by_cases hs6_1 : w = 1
    · refine z_tabIn (pc := 6) (k := 1) (tgt := 72) E hs6_1 (by decide) (by decide) (by decide) dX7_folder_6 rfl (by decide) ?_
      refine lv_aload_n (pc := 72) E.1 E.2 dX7_folder_72 rfl (lv_at hl 0 rfl) ?_
      refine g7_0 (pc := 73) E hts hin7 hown hK hQ.ob (hts _ (List.mem_of_getElem? (i := 3) rfl)) dX7_folder_73 ?_
      refine g6_0 (pc := 76) E hts hin6 hown hK hQ.nob (hts _ (List.mem_of_getElem? (i := 4) rfl)) dX7_folder_76 ?_
      refine lv_iload_n (pc := 79) E.1 E.2 dX7_folder_79 rfl (lv_at hl 1 rfl) ?_
      refine z_rVi (pc := 80) (As := [.int (iI f)]) (rest := []) E hml hown hts (mX3_tagOf lL G (fun k => o (1 + (1 + k))) σ f hI (by omega)) (cwV 1 hts gX7_folder_X3_tagOf rfl rfl rfl vdX3_tagOf ⟨Nat.le_of_ble_eq_true rfl, Nat.le_of_ble_eq_true rfl⟩) (oB.recv hK hQ.foo rfl) hQ.now.fo hK rfl hl.1 rfl dX7_folder_80 hcs (Nat.le_of_ble_eq_true rfl) ?_
      rw [show (if 0 ≤ f ∧ f < σ 2 then σ (109 + f) else -1) = (σ (109 + f)) from (if_pos (by omega))]
      exact absurd (show (kxFolder σ f w) = 0 by (unfold kxFolder; (repeat' split) <;> first | rfl | omega | (exfalso; omega) | contradiction | grind)) hbad
    by_cases hs6_2 : w = 2
    · refine z_tabIn (pc := 6) (k := 2) (tgt := 84) E hs6_2 (by decide) (by decide) (by decide) dX7_folder_6 rfl (by decide) ?_
      refine lv_aload_n (pc := 84) E.1 E.2 dX7_folder_84 rfl (lv_at hl 0 rfl) ?_
      refine g7_0 (pc := 85) E hts hin7 hown hK hQ.ob (hts _ (List.mem_of_getElem? (i := 3) rfl)) dX7_folder_85 ?_
      refine g6_0 (pc := 88) E hts hin6 hown hK hQ.nob (hts _ (List.mem_of_getElem? (i := 4) rfl)) dX7_folder_88 ?_
      refine lv_iload_n (pc := 91) E.1 E.2 dX7_folder_91 rfl (lv_at hl 1 rfl) ?_
      refine z_rVi (pc := 92) (As := [.int (iI f)]) (rest := []) E hml hown hts (mX3_projectOf lL G (fun k => o (1 + (1 + k))) σ f hI (Or.inr (by omega))) (cwV 1 hts gX7_folder_X3_projectOf rfl rfl rfl vdX3_projectOf ⟨Nat.le_of_ble_eq_true rfl, Nat.le_of_ble_eq_true rfl⟩) (oB.recv hK hQ.foo rfl) hQ.now.fo hK rfl hl.1 rfl dX7_folder_92 hcs (Nat.le_of_ble_eq_true rfl) ?_
      exact absurd (show (kxFolder σ f w) = 0 by (unfold kxFolder; (repeat' split) <;> first | rfl | omega | (exfalso; omega) | contradiction | grind)) hbad
    by_cases hs6_3 : w = 3
    · refine z_tabIn (pc := 6) (k := 3) (tgt := 96) E hs6_3 (by decide) (by decide) (by decide) dX7_folder_6 rfl (by decide) ?_
      refine lv_aload_n (pc := 96) E.1 E.2 dX7_folder_96 rfl (lv_at hl 0 rfl) ?_
      refine g7_0 (pc := 97) E hts hin7 hown hK hQ.ob (hts _ (List.mem_of_getElem? (i := 3) rfl)) dX7_folder_97 ?_
      refine g6_0 (pc := 100) E hts hin6 hown hK hQ.nob (hts _ (List.mem_of_getElem? (i := 4) rfl)) dX7_folder_100 ?_
      refine lv_iload_n (pc := 103) E.1 E.2 dX7_folder_103 rfl (lv_at hl 1 rfl) ?_
      refine z_rVi (pc := 104) (As := [.int (iI f)]) (rest := []) E hml hown hts (mX3_childrenOf lL G (fun k => o (1 + (1 + k))) σ f hI (by omega)) (cwV 1 hts gX7_folder_X3_childrenOf rfl rfl rfl vdX3_childrenOf ⟨Nat.le_of_ble_eq_true rfl, Nat.le_of_ble_eq_true rfl⟩) (oB.recv hK hQ.foo rfl) hQ.now.fo hK rfl hl.1 rfl dX7_folder_104 hcs (Nat.le_of_ble_eq_true rfl) ?_
      exact absurd (show (kxFolder σ f w) = 0 by (unfold kxFolder; (repeat' split) <;> first | rfl | omega | (exfalso; omega) | contradiction | grind)) hbad
    by_cases hs6_4 : w = 4
    · refine z_tabIn (pc := 6) (k := 4) (tgt := 108) E hs6_4 (by decide) (by decide) (by decide) dX7_folder_6 rfl (by decide) ?_
      refine lv_aload_n (pc := 108) E.1 E.2 dX7_folder_108 rfl (lv_at hl 0 rfl) ?_
      refine g7_0 (pc := 109) E hts hin7 hown hK hQ.ob (hts _ (List.mem_of_getElem? (i := 3) rfl)) dX7_folder_109 ?_
      refine g6_1 (pc := 112) E hts hin6 hown hK hQ.nob (hts _ (List.mem_of_getElem? (i := 5) rfl)) dX7_folder_112 ?_
      refine lv_iload_n (pc := 115) E.1 E.2 dX7_folder_115 rfl (lv_at hl 1 rfl) ?_
      refine z_rVi (pc := 116) (As := [.int (iI f)]) (rest := []) E hml hown hts (mX2_totalIn lL G (fun k => o (1 + (5 + k))) σ f hI (by omega)) (cwV 1 hts gX7_folder_X2_totalIn rfl rfl rfl vdX2_totalIn ⟨Nat.le_of_ble_eq_true rfl, Nat.le_of_ble_eq_true rfl⟩) (oB.recv hK hQ.fio rfl) hQ.now.fi hK rfl hl.1 rfl dX7_folder_116 hcs (Nat.le_of_ble_eq_true rfl) ?_
      exact absurd (show (kxFolder σ f w) = 0 by (unfold kxFolder; (repeat' split) <;> first | rfl | omega | (exfalso; omega) | contradiction | grind)) hbad
    by_cases hs6_5 : w = 5
    · refine z_tabIn (pc := 6) (k := 5) (tgt := 120) E hs6_5 (by decide) (by decide) (by decide) dX7_folder_6 rfl (by decide) ?_
      refine lv_aload_n (pc := 120) E.1 E.2 dX7_folder_120 rfl (lv_at hl 0 rfl) ?_
      refine g7_0 (pc := 121) E hts hin7 hown hK hQ.ob (hts _ (List.mem_of_getElem? (i := 3) rfl)) dX7_folder_121 ?_
      refine g6_0 (pc := 124) E hts hin6 hown hK hQ.nob (hts _ (List.mem_of_getElem? (i := 4) rfl)) dX7_folder_124 ?_
      refine lv_iload_n (pc := 127) E.1 E.2 dX7_folder_127 rfl (lv_at hl 1 rfl) ?_
      refine z_rVi (pc := 128) (As := [.int (iI f)]) (rest := []) E hml hown hts (mX3_depthOf lL G (fun k => o (1 + (1 + k))) σ f hI (by omega)) (cwV 1 hts gX7_folder_X3_depthOf rfl rfl rfl vdX3_depthOf ⟨Nat.le_of_ble_eq_true rfl, Nat.le_of_ble_eq_true rfl⟩) (oB.recv hK hQ.foo rfl) hQ.now.fo hK rfl hl.1 rfl dX7_folder_128 hcs (Nat.le_of_ble_eq_true rfl) ?_
      exact absurd (show (kxFolder σ f w) = 0 by (unfold kxFolder; (repeat' split) <;> first | rfl | omega | (exfalso; omega) | contradiction | grind)) hbad
    by_cases hs6_6 : w = 6
    · refine z_tabIn (pc := 6) (k := 6) (tgt := 132) E hs6_6 (by decide) (by decide) (by decide) dX7_folder_6 rfl (by decide) ?_
      refine lv_aload_n (pc := 132) E.1 E.2 dX7_folder_132 rfl (lv_at hl 0 rfl) ?_
      refine g7_0 (pc := 133) E hts hin7 hown hK hQ.ob (hts _ (List.mem_of_getElem? (i := 3) rfl)) dX7_folder_133 ?_
      refine g6_0 (pc := 136) E hts hin6 hown hK hQ.nob (hts _ (List.mem_of_getElem? (i := 4) rfl)) dX7_folder_136 ?_
      refine lv_iload_n (pc := 139) E.1 E.2 dX7_folder_139 rfl (lv_at hl 1 rfl) ?_
      refine z_rVi (pc := 140) (As := [.int (iI f)]) (rest := []) E hml hown hts (mX3_subtreeTotal lL G (fun k => o (1 + (1 + k))) σ f hI (by omega)) (cwV 1 hts gX7_folder_X3_subtreeTotal rfl rfl rfl vdX3_subtreeTotal ⟨Nat.le_of_ble_eq_true rfl, Nat.le_of_ble_eq_true rfl⟩) (oB.recv hK hQ.foo rfl) hQ.now.fo hK rfl hl.1 rfl dX7_folder_140 hcs (Nat.le_of_ble_eq_true rfl) ?_
      exact absurd (show (kxFolder σ f w) = 0 by (unfold kxFolder; (repeat' split) <;> first | rfl | omega | (exfalso; omega) | contradiction | grind)) hbad
    by_cases hs6_7 : w = 7
    · refine z_tabIn (pc := 6) (k := 7) (tgt := 144) E hs6_7 (by decide) (by decide) (by decide) dX7_folder_6 rfl (by decide) ?_
      refine lv_aload_n (pc := 144) E.1 E.2 dX7_folder_144 rfl (lv_at hl 0 rfl) ?_
      refine g7_0 (pc := 145) E hts hin7 hown hK hQ.ob (hts _ (List.mem_of_getElem? (i := 3) rfl)) dX7_folder_145 ?_
      refine lv_iload_n (pc := 148) E.1 E.2 dX7_folder_148 rfl (lv_at hl 1 rfl) ?_
      refine z_iconst (pc := 149) E dX7_folder_149 ?_
      refine z_rVi (pc := 150) (As := [.int (iI f), .int (iI 1)]) (rest := []) E hml hown hts (mX6_subtreeSum lL G (fun k => o (1 + k)) σ f 1 hI (by omega) (Or.inr rfl)) (cwV 2 hts gX7_folder_X6_subtreeSum rfl rfl rfl vdX6_subtreeSum ⟨Nat.le_of_ble_eq_true rfl, Nat.le_of_ble_eq_true rfl⟩) (oB.recv hK hQ.nob rfl) hQ.now hK rfl hl.1 rfl dX7_folder_150 hcs (Nat.le_of_ble_eq_true rfl) ?_
      rw [show (mbS σ f (1 - 1)) = (mbS σ f 0) from rfl]
      exact absurd (show (kxFolder σ f w) = 0 by (unfold kxFolder; (repeat' split) <;> first | rfl | omega | (exfalso; omega) | contradiction | grind)) hbad
    by_cases hs6_8 : w = 8
    · refine z_tabIn (pc := 6) (k := 8) (tgt := 154) E hs6_8 (by decide) (by decide) (by decide) dX7_folder_6 rfl (by decide) ?_
      refine lv_aload_n (pc := 154) E.1 E.2 dX7_folder_154 rfl (lv_at hl 0 rfl) ?_
      refine g7_0 (pc := 155) E hts hin7 hown hK hQ.ob (hts _ (List.mem_of_getElem? (i := 3) rfl)) dX7_folder_155 ?_
      refine lv_iload_n (pc := 158) E.1 E.2 dX7_folder_158 rfl (lv_at hl 1 rfl) ?_
      refine z_iconst (pc := 159) E dX7_folder_159 ?_
      refine z_rVi (pc := 160) (As := [.int (iI f), .int (iI 0)]) (rest := []) E hml hown hts (mX6_subtreeSum lL G (fun k => o (1 + k)) σ f 0 hI (by omega) (Or.inl rfl)) (cwV 2 hts gX7_folder_X6_subtreeSum rfl rfl rfl vdX6_subtreeSum ⟨Nat.le_of_ble_eq_true rfl, Nat.le_of_ble_eq_true rfl⟩) (oB.recv hK hQ.nob rfl) hQ.now hK rfl hl.1 rfl dX7_folder_160 hcs (Nat.le_of_ble_eq_true rfl) ?_
      rw [show (mbS σ f (1 - 0)) = (mbS σ f 1) from rfl]
      exact absurd (show (kxFolder σ f w) = 0 by (unfold kxFolder; (repeat' split) <;> first | rfl | omega | (exfalso; omega) | contradiction | grind)) hbad
    by_cases hs6_9 : w = 9
    · refine z_tabIn (pc := 6) (k := 9) (tgt := 164) E hs6_9 (by decide) (by decide) (by decide) dX7_folder_6 rfl (by decide) ?_
      refine lv_aload_n (pc := 164) E.1 E.2 dX7_folder_164 rfl (lv_at hl 0 rfl) ?_
      refine g7_0 (pc := 165) E hts hin7 hown hK hQ.ob (hts _ (List.mem_of_getElem? (i := 3) rfl)) dX7_folder_165 ?_
      refine lv_iload_n (pc := 168) E.1 E.2 dX7_folder_168 rfl (lv_at hl 1 rfl) ?_
      refine z_iconst (pc := 169) E dX7_folder_169 ?_
      refine z_rVi (pc := 170) (As := [.int (iI f), .int (iI 1)]) (rest := []) E hml hown hts (mX6_openSum lL G (fun k => o (1 + k)) σ f 1 hI (by omega) (Or.inr rfl)) (cwV 2 hts gX7_folder_X6_openSum rfl rfl rfl vdX6_openSum ⟨Nat.le_of_ble_eq_true rfl, Nat.le_of_ble_eq_true rfl⟩) (oB.recv hK hQ.nob rfl) hQ.now hK rfl hl.1 rfl dX7_folder_170 hcs (Nat.le_of_ble_eq_true rfl) ?_
      rw [show (opS σ f (1 - 1)) = (opS σ f 0) from rfl]
      exact absurd (show (kxFolder σ f w) = 0 by (unfold kxFolder; (repeat' split) <;> first | rfl | omega | (exfalso; omega) | contradiction | grind)) hbad
    refine z_tabOut (pc := 6) (tgt := 174) E ⟨by omega, by omega⟩ (by omega) dX7_folder_6 (by decide) ?_
    exact z_thrS_xA (pc := 174) (rest := []) (is := 160) (text := "no such number of a folder") E hst0 hown (hts _ (List.mem_of_getElem? (i := 1) rfl)) (hts _ (List.mem_of_getElem? (i := 2) rfl)) (fun w h => hts w (List.mem_cons_of_mem _ (List.mem_append_left _ (List.mem_append_right _ (h))))) hX (List.mem_of_getElem? (i := 2) rfl) (hl.1.trans hml.symm) dX7_folder_174 dX7_folder_177 dX7_folder_178 dX7_folder_180 dX7_folder_183 htab (Nat.le_of_ble_eq_true rfl) (Nat.le_of_ble_eq_true rfl) (Nat.le_of_ble_eq_true rfl) (Nat.le_of_ble_eq_true rfl) hlocks (by rw [show (kxFolder σ f w) = 2 by (unfold kxFolder; (repeat' split) <;> first | rfl | omega | (exfalso; omega) | contradiction | grind)]; rfl)
  exact z_badV (pc := 2) (As := [.int (iI f)]) (rest := []) E hml hown hts (mxX7_needFolder lL hst0 G o ν σ π δ τ ω f hI (by omega) hc2) (cwV 1 hts gX7_folder_X7_needFolder rfl rfl rfl vdX7_needFolder ⟨Nat.le_of_ble_eq_true rfl, Nat.le_of_ble_eq_true rfl⟩) (oB.recv hK hQ.ob rfl) hQ hK hX rfl hl.1 rfl dX7_folder_2 ⟨Nat.le_of_ble_eq_true rfl, Nat.le_of_ble_eq_true rfl⟩ (Nat.le_of_ble_eq_true rfl) (by rw [show (kxFolder σ f w) = 1 by (unfold kxFolder; (repeat' split) <;> first | rfl | omega | (exfalso; omega) | contradiction | grind)]; rfl) htab hlocks
set_option maxHeartbeats 1000000 in
set_option maxRecDepth 100000 in
theorem mX7_folder (lL : Launch) (G : GG) (o : Nat → Nat) (ν σ : Int → Int) (π : Nat → Int → Int) (δ τ ω : Int → Int) (f : Int) (w : Int) (hI : In σ) (hf : -2147483648 ≤ f ∧ f < 2147483648) (hw : -2147483648 ≤ w ∧ w < 2147483648) (hok : (kxFolder σ f w) = 0) : Met lL yX7_folder wsX7_folder ({ frames := 4, cells := 0, slots := 0, locals := 90 } : Room) (va_Pc [.ref (o 0), .int (iI f), .int (iI w)] (fun U => QT G o ν σ π δ τ ω U.heap ∧ KK G U)) (vp_Si (fun r => r = (iI (axFolder σ f w)))) 0 0 (fun _ => False) := by
  refine z_met (P := (fun H : Heap => QT G o ν σ π δ τ ω H)) (by decide) rfl (Nat.le_of_ble_eq_true rfl) (fun pp ee ss mm below meth cC E hr hml hown hts hlocks hQ hK ls hl => ?_)
  have hl : lv_has ls 3 [(0, .ref (o 0)), (1, .int (iI f)), (2, .int (iI w))] := hl
  have hcs : 0 ≤ (({ frames := 4, cells := 0, slots := 0, locals := 90 } : Room)).cells ∧ 0 ≤ (({ frames := 4, cells := 0, slots := 0, locals := 90 } : Room)).slots := ⟨Nat.zero_le _, Nat.zero_le _⟩
  have hin6 : ∀ w ∈ wsX60, w ∈ wsX7_folder := fun w h => List.mem_cons_of_mem _ (List.mem_append_left _ (List.mem_append_left _ (List.mem_append_left _ (List.mem_append_left _ (List.mem_append_right _ (h))))))
  have hin7 : ∀ w ∈ wsX70, w ∈ wsX7_folder := fun w h => List.mem_cons_of_mem _ (List.mem_append_left _ (List.mem_append_left _ (List.mem_append_left _ (List.mem_append_left _ (List.mem_append_left _ (List.mem_append_right _ (h)))))))
  have hF := hI.F
  have hMm := hI.M
  have hGn := hI.Gn
  have hTi := hI.ti
  have hGr := hI.gr
  have hoc := kxFolder_ok hok
  refine lv_aload_n (pc := 0) E.1 E.2 dX7_folder_0 rfl (lv_at hl 0 rfl) ?_
  refine lv_iload_n (pc := 1) E.1 E.2 dX7_folder_1 rfl (lv_at hl 1 rfl) ?_
  refine z_rVv (pc := 2) (As := [.int (iI f)]) (rest := []) E hml hown hts (mX7_needFolder lL G o ν σ π δ τ ω f hI (by omega) (by omega)) (cwV 1 hts gX7_folder_X7_needFolder rfl rfl rfl vdX7_needFolder ⟨Nat.le_of_ble_eq_true rfl, Nat.le_of_ble_eq_true rfl⟩) (oB.recv hK hQ.ob rfl) hQ hK rfl hl.1 rfl dX7_folder_2 hcs (Nat.le_of_ble_eq_true rfl) ?_
  refine lv_iload_n (pc := 5) E.1 E.2 dX7_folder_5 rfl (lv_at hl 2 rfl) ?_
  by_cases hs6_0 : w = 0
  · refine z_tabIn (pc := 6) (k := 0) (tgt := 60) E hs6_0 (by decide) (by decide) (by decide) dX7_folder_6 rfl (by decide) ?_
    refine lv_aload_n (pc := 60) E.1 E.2 dX7_folder_60 rfl (lv_at hl 0 rfl) ?_
    refine g7_0 (pc := 61) E hts hin7 hown hK hQ.ob (hts _ (List.mem_of_getElem? (i := 3) rfl)) dX7_folder_61 ?_
    refine g6_0 (pc := 64) E hts hin6 hown hK hQ.nob (hts _ (List.mem_of_getElem? (i := 4) rfl)) dX7_folder_64 ?_
    refine lv_iload_n (pc := 67) E.1 E.2 dX7_folder_67 rfl (lv_at hl 1 rfl) ?_
    refine z_rVi (pc := 68) (As := [.int (iI f)]) (rest := []) E hml hown hts (mX3_parentOf lL G (fun k => o (1 + (1 + k))) σ f hI (by omega)) (cwV 1 hts gX7_folder_X3_parentOf rfl rfl rfl vdX3_parentOf ⟨Nat.le_of_ble_eq_true rfl, Nat.le_of_ble_eq_true rfl⟩) (oB.recv hK hQ.foo rfl) hQ.now.fo hK rfl hl.1 rfl dX7_folder_68 hcs (Nat.le_of_ble_eq_true rfl) ?_
    rw [show (if 0 ≤ f ∧ f < σ 2 then σ (69 + f) else -1) = (σ (69 + f)) from (if_pos (by omega))]
    exact z_retRi E hr (congrArg iI (by (unfold axFolder; (repeat' split) <;> first | rfl | omega | (exfalso; omega)))) hlocks dX7_folder_71
  by_cases hs6_1 : w = 1
  · refine z_tabIn (pc := 6) (k := 1) (tgt := 72) E hs6_1 (by decide) (by decide) (by decide) dX7_folder_6 rfl (by decide) ?_
    refine lv_aload_n (pc := 72) E.1 E.2 dX7_folder_72 rfl (lv_at hl 0 rfl) ?_
    refine g7_0 (pc := 73) E hts hin7 hown hK hQ.ob (hts _ (List.mem_of_getElem? (i := 3) rfl)) dX7_folder_73 ?_
    refine g6_0 (pc := 76) E hts hin6 hown hK hQ.nob (hts _ (List.mem_of_getElem? (i := 4) rfl)) dX7_folder_76 ?_
    refine lv_iload_n (pc := 79) E.1 E.2 dX7_folder_79 rfl (lv_at hl 1 rfl) ?_
    refine z_rVi (pc := 80) (As := [.int (iI f)]) (rest := []) E hml hown hts (mX3_tagOf lL G (fun k => o (1 + (1 + k))) σ f hI (by omega)) (cwV 1 hts gX7_folder_X3_tagOf rfl rfl rfl vdX3_tagOf ⟨Nat.le_of_ble_eq_true rfl, Nat.le_of_ble_eq_true rfl⟩) (oB.recv hK hQ.foo rfl) hQ.now.fo hK rfl hl.1 rfl dX7_folder_80 hcs (Nat.le_of_ble_eq_true rfl) ?_
    rw [show (if 0 ≤ f ∧ f < σ 2 then σ (109 + f) else -1) = (σ (109 + f)) from (if_pos (by omega))]
    exact z_retRi E hr (congrArg iI (by (unfold axFolder; (repeat' split) <;> first | rfl | omega | (exfalso; omega)))) hlocks dX7_folder_83
  by_cases hs6_2 : w = 2
  · refine z_tabIn (pc := 6) (k := 2) (tgt := 84) E hs6_2 (by decide) (by decide) (by decide) dX7_folder_6 rfl (by decide) ?_
    refine lv_aload_n (pc := 84) E.1 E.2 dX7_folder_84 rfl (lv_at hl 0 rfl) ?_
    refine g7_0 (pc := 85) E hts hin7 hown hK hQ.ob (hts _ (List.mem_of_getElem? (i := 3) rfl)) dX7_folder_85 ?_
    refine g6_0 (pc := 88) E hts hin6 hown hK hQ.nob (hts _ (List.mem_of_getElem? (i := 4) rfl)) dX7_folder_88 ?_
    refine lv_iload_n (pc := 91) E.1 E.2 dX7_folder_91 rfl (lv_at hl 1 rfl) ?_
    refine z_rVi (pc := 92) (As := [.int (iI f)]) (rest := []) E hml hown hts (mX3_projectOf lL G (fun k => o (1 + (1 + k))) σ f hI (Or.inr (by omega))) (cwV 1 hts gX7_folder_X3_projectOf rfl rfl rfl vdX3_projectOf ⟨Nat.le_of_ble_eq_true rfl, Nat.le_of_ble_eq_true rfl⟩) (oB.recv hK hQ.foo rfl) hQ.now.fo hK rfl hl.1 rfl dX7_folder_92 hcs (Nat.le_of_ble_eq_true rfl) ?_
    exact z_retRi E hr (congrArg iI (by (unfold axFolder; (repeat' split) <;> first | rfl | omega | (exfalso; omega)))) hlocks dX7_folder_95
  by_cases hs6_3 : w = 3
  · refine z_tabIn (pc := 6) (k := 3) (tgt := 96) E hs6_3 (by decide) (by decide) (by decide) dX7_folder_6 rfl (by decide) ?_
    refine lv_aload_n (pc := 96) E.1 E.2 dX7_folder_96 rfl (lv_at hl 0 rfl) ?_
    refine g7_0 (pc := 97) E hts hin7 hown hK hQ.ob (hts _ (List.mem_of_getElem? (i := 3) rfl)) dX7_folder_97 ?_
    refine g6_0 (pc := 100) E hts hin6 hown hK hQ.nob (hts _ (List.mem_of_getElem? (i := 4) rfl)) dX7_folder_100 ?_
    refine lv_iload_n (pc := 103) E.1 E.2 dX7_folder_103 rfl (lv_at hl 1 rfl) ?_
    refine z_rVi (pc := 104) (As := [.int (iI f)]) (rest := []) E hml hown hts (mX3_childrenOf lL G (fun k => o (1 + (1 + k))) σ f hI (by omega)) (cwV 1 hts gX7_folder_X3_childrenOf rfl rfl rfl vdX3_childrenOf ⟨Nat.le_of_ble_eq_true rfl, Nat.le_of_ble_eq_true rfl⟩) (oB.recv hK hQ.foo rfl) hQ.now.fo hK rfl hl.1 rfl dX7_folder_104 hcs (Nat.le_of_ble_eq_true rfl) ?_
    exact z_retRi E hr (congrArg iI (by (unfold axFolder; (repeat' split) <;> first | rfl | omega | (exfalso; omega)))) hlocks dX7_folder_107
  by_cases hs6_4 : w = 4
  · refine z_tabIn (pc := 6) (k := 4) (tgt := 108) E hs6_4 (by decide) (by decide) (by decide) dX7_folder_6 rfl (by decide) ?_
    refine lv_aload_n (pc := 108) E.1 E.2 dX7_folder_108 rfl (lv_at hl 0 rfl) ?_
    refine g7_0 (pc := 109) E hts hin7 hown hK hQ.ob (hts _ (List.mem_of_getElem? (i := 3) rfl)) dX7_folder_109 ?_
    refine g6_1 (pc := 112) E hts hin6 hown hK hQ.nob (hts _ (List.mem_of_getElem? (i := 5) rfl)) dX7_folder_112 ?_
    refine lv_iload_n (pc := 115) E.1 E.2 dX7_folder_115 rfl (lv_at hl 1 rfl) ?_
    refine z_rVi (pc := 116) (As := [.int (iI f)]) (rest := []) E hml hown hts (mX2_totalIn lL G (fun k => o (1 + (5 + k))) σ f hI (by omega)) (cwV 1 hts gX7_folder_X2_totalIn rfl rfl rfl vdX2_totalIn ⟨Nat.le_of_ble_eq_true rfl, Nat.le_of_ble_eq_true rfl⟩) (oB.recv hK hQ.fio rfl) hQ.now.fi hK rfl hl.1 rfl dX7_folder_116 hcs (Nat.le_of_ble_eq_true rfl) ?_
    exact z_retRi E hr (congrArg iI (by (unfold axFolder; (repeat' split) <;> first | rfl | omega | (exfalso; omega)))) hlocks dX7_folder_119
  by_cases hs6_5 : w = 5
  · refine z_tabIn (pc := 6) (k := 5) (tgt := 120) E hs6_5 (by decide) (by decide) (by decide) dX7_folder_6 rfl (by decide) ?_
    refine lv_aload_n (pc := 120) E.1 E.2 dX7_folder_120 rfl (lv_at hl 0 rfl) ?_
    refine g7_0 (pc := 121) E hts hin7 hown hK hQ.ob (hts _ (List.mem_of_getElem? (i := 3) rfl)) dX7_folder_121 ?_
    refine g6_0 (pc := 124) E hts hin6 hown hK hQ.nob (hts _ (List.mem_of_getElem? (i := 4) rfl)) dX7_folder_124 ?_
    refine lv_iload_n (pc := 127) E.1 E.2 dX7_folder_127 rfl (lv_at hl 1 rfl) ?_
    refine z_rVi (pc := 128) (As := [.int (iI f)]) (rest := []) E hml hown hts (mX3_depthOf lL G (fun k => o (1 + (1 + k))) σ f hI (by omega)) (cwV 1 hts gX7_folder_X3_depthOf rfl rfl rfl vdX3_depthOf ⟨Nat.le_of_ble_eq_true rfl, Nat.le_of_ble_eq_true rfl⟩) (oB.recv hK hQ.foo rfl) hQ.now.fo hK rfl hl.1 rfl dX7_folder_128 hcs (Nat.le_of_ble_eq_true rfl) ?_
    exact z_retRi E hr (congrArg iI (by (unfold axFolder; (repeat' split) <;> first | rfl | omega | (exfalso; omega)))) hlocks dX7_folder_131
  by_cases hs6_6 : w = 6
  · refine z_tabIn (pc := 6) (k := 6) (tgt := 132) E hs6_6 (by decide) (by decide) (by decide) dX7_folder_6 rfl (by decide) ?_
    refine lv_aload_n (pc := 132) E.1 E.2 dX7_folder_132 rfl (lv_at hl 0 rfl) ?_
    refine g7_0 (pc := 133) E hts hin7 hown hK hQ.ob (hts _ (List.mem_of_getElem? (i := 3) rfl)) dX7_folder_133 ?_
    refine g6_0 (pc := 136) E hts hin6 hown hK hQ.nob (hts _ (List.mem_of_getElem? (i := 4) rfl)) dX7_folder_136 ?_
    refine lv_iload_n (pc := 139) E.1 E.2 dX7_folder_139 rfl (lv_at hl 1 rfl) ?_
    refine z_rVi (pc := 140) (As := [.int (iI f)]) (rest := []) E hml hown hts (mX3_subtreeTotal lL G (fun k => o (1 + (1 + k))) σ f hI (by omega)) (cwV 1 hts gX7_folder_X3_subtreeTotal rfl rfl rfl vdX3_subtreeTotal ⟨Nat.le_of_ble_eq_true rfl, Nat.le_of_ble_eq_true rfl⟩) (oB.recv hK hQ.foo rfl) hQ.now.fo hK rfl hl.1 rfl dX7_folder_140 hcs (Nat.le_of_ble_eq_true rfl) ?_
    exact z_retRi E hr (congrArg iI (by (unfold axFolder; (repeat' split) <;> first | rfl | omega | (exfalso; omega)))) hlocks dX7_folder_143
  by_cases hs6_7 : w = 7
  · refine z_tabIn (pc := 6) (k := 7) (tgt := 144) E hs6_7 (by decide) (by decide) (by decide) dX7_folder_6 rfl (by decide) ?_
    refine lv_aload_n (pc := 144) E.1 E.2 dX7_folder_144 rfl (lv_at hl 0 rfl) ?_
    refine g7_0 (pc := 145) E hts hin7 hown hK hQ.ob (hts _ (List.mem_of_getElem? (i := 3) rfl)) dX7_folder_145 ?_
    refine lv_iload_n (pc := 148) E.1 E.2 dX7_folder_148 rfl (lv_at hl 1 rfl) ?_
    refine z_iconst (pc := 149) E dX7_folder_149 ?_
    refine z_rVi (pc := 150) (As := [.int (iI f), .int (iI 1)]) (rest := []) E hml hown hts (mX6_subtreeSum lL G (fun k => o (1 + k)) σ f 1 hI (by omega) (Or.inr rfl)) (cwV 2 hts gX7_folder_X6_subtreeSum rfl rfl rfl vdX6_subtreeSum ⟨Nat.le_of_ble_eq_true rfl, Nat.le_of_ble_eq_true rfl⟩) (oB.recv hK hQ.nob rfl) hQ.now hK rfl hl.1 rfl dX7_folder_150 hcs (Nat.le_of_ble_eq_true rfl) ?_
    rw [show (mbS σ f (1 - 1)) = (mbS σ f 0) from rfl]
    exact z_retRi E hr (congrArg iI (by (unfold axFolder; (repeat' split) <;> first | rfl | omega | (exfalso; omega)))) hlocks dX7_folder_153
  by_cases hs6_8 : w = 8
  · refine z_tabIn (pc := 6) (k := 8) (tgt := 154) E hs6_8 (by decide) (by decide) (by decide) dX7_folder_6 rfl (by decide) ?_
    refine lv_aload_n (pc := 154) E.1 E.2 dX7_folder_154 rfl (lv_at hl 0 rfl) ?_
    refine g7_0 (pc := 155) E hts hin7 hown hK hQ.ob (hts _ (List.mem_of_getElem? (i := 3) rfl)) dX7_folder_155 ?_
    refine lv_iload_n (pc := 158) E.1 E.2 dX7_folder_158 rfl (lv_at hl 1 rfl) ?_
    refine z_iconst (pc := 159) E dX7_folder_159 ?_
    refine z_rVi (pc := 160) (As := [.int (iI f), .int (iI 0)]) (rest := []) E hml hown hts (mX6_subtreeSum lL G (fun k => o (1 + k)) σ f 0 hI (by omega) (Or.inl rfl)) (cwV 2 hts gX7_folder_X6_subtreeSum rfl rfl rfl vdX6_subtreeSum ⟨Nat.le_of_ble_eq_true rfl, Nat.le_of_ble_eq_true rfl⟩) (oB.recv hK hQ.nob rfl) hQ.now hK rfl hl.1 rfl dX7_folder_160 hcs (Nat.le_of_ble_eq_true rfl) ?_
    rw [show (mbS σ f (1 - 0)) = (mbS σ f 1) from rfl]
    exact z_retRi E hr (congrArg iI (by (unfold axFolder; (repeat' split) <;> first | rfl | omega | (exfalso; omega)))) hlocks dX7_folder_163
  by_cases hs6_9 : w = 9
  · refine z_tabIn (pc := 6) (k := 9) (tgt := 164) E hs6_9 (by decide) (by decide) (by decide) dX7_folder_6 rfl (by decide) ?_
    refine lv_aload_n (pc := 164) E.1 E.2 dX7_folder_164 rfl (lv_at hl 0 rfl) ?_
    refine g7_0 (pc := 165) E hts hin7 hown hK hQ.ob (hts _ (List.mem_of_getElem? (i := 3) rfl)) dX7_folder_165 ?_
    refine lv_iload_n (pc := 168) E.1 E.2 dX7_folder_168 rfl (lv_at hl 1 rfl) ?_
    refine z_iconst (pc := 169) E dX7_folder_169 ?_
    refine z_rVi (pc := 170) (As := [.int (iI f), .int (iI 1)]) (rest := []) E hml hown hts (mX6_openSum lL G (fun k => o (1 + k)) σ f 1 hI (by omega) (Or.inr rfl)) (cwV 2 hts gX7_folder_X6_openSum rfl rfl rfl vdX6_openSum ⟨Nat.le_of_ble_eq_true rfl, Nat.le_of_ble_eq_true rfl⟩) (oB.recv hK hQ.nob rfl) hQ.now hK rfl hl.1 rfl dX7_folder_170 hcs (Nat.le_of_ble_eq_true rfl) ?_
    rw [show (opS σ f (1 - 1)) = (opS σ f 0) from rfl]
    exact z_retRi E hr (congrArg iI (by (unfold axFolder; (repeat' split) <;> first | rfl | omega | (exfalso; omega)))) hlocks dX7_folder_173
  refine z_tabOut (pc := 6) (tgt := 174) E ⟨by omega, by omega⟩ (by omega) dX7_folder_6 (by decide) ?_
  exact absurd hok (by unfold kxFolder; (repeat' split) <;> first | decide | omega | (exfalso; omega) | grind)
set_option maxHeartbeats 1000000 in
set_option maxRecDepth 100000 in
theorem mxX7_heaviest (lL : Launch) (hst0 : lL.stackTraces = false) (G : GG) (o : Nat → Nat) (ν σ : Int → Int) (π : Nat → Int → Int) (δ τ ω : Int → Int) (f : Int) (hI : In σ) (hf : -2147483648 ≤ f ∧ f < 2147483648) (hbad : ¬ ((kxHeav σ f) = 0)) : vx_Met lL yX7_heaviest wsX7_heaviest ({ frames := 7, cells := 1, slots := 6, locals := 121 } : Room) (va_Pc [.ref (o 0), .int (iI f)] (fun U => QT G o ν σ π δ τ ω U.heap ∧ KK G U ∧ KX FF0 U U.heap)) (fun _ _ _ _ => False) (XCe (exq xI xN xI (kxHeav σ f))) 1 6 FF0 := by
  refine z_metX (P := (fun H : Heap => QT G o ν σ π δ τ ω H)) (by decide) rfl (Nat.le_of_ble_eq_true rfl) (fun pp ee ss mm below meth cC E hml hown hts hlocks htab hQ hK hX ls hl => ?_)
  have hl : lv_has ls 3 [(0, .ref (o 0)), (1, .int (iI f))] := hl
  have hcs : 0 ≤ (({ frames := 7, cells := 1, slots := 6, locals := 121 } : Room)).cells ∧ 0 ≤ (({ frames := 7, cells := 1, slots := 6, locals := 121 } : Room)).slots := ⟨Nat.zero_le _, Nat.zero_le _⟩
  have hin7 : ∀ w ∈ wsX70, w ∈ wsX7_heaviest := fun w h => List.mem_cons_of_mem _ (List.mem_append_left _ (List.mem_append_left _ (List.mem_append_left _ (List.mem_append_left _ (List.mem_append_left _ (List.mem_append_right _ (h)))))))
  have hF := hI.F
  have hMm := hI.M
  have hGn := hI.Gn
  have hTi := hI.ti
  have hGr := hI.gr
  refine lv_aload_n (pc := 0) E.1 E.2 dX7_heaviest_0 rfl (lv_at hl 0 rfl) ?_
  refine lv_iload_n (pc := 1) E.1 E.2 dX7_heaviest_1 rfl (lv_at hl 1 rfl) ?_
  by_cases hc2 : 0 ≤ f ∧ f < σ 2
  · refine z_rVv (pc := 2) (As := [.int (iI f)]) (rest := []) E hml hown hts (mX7_needFolder lL G o ν σ π δ τ ω f hI (by omega) (by omega)) (cwV 1 hts gX7_heaviest_X7_needFolder rfl rfl rfl vdX7_needFolder ⟨Nat.le_of_ble_eq_true rfl, Nat.le_of_ble_eq_true rfl⟩) (oB.recv hK hQ.ob rfl) hQ hK rfl hl.1 rfl dX7_heaviest_2 hcs (Nat.le_of_ble_eq_true rfl) ?_
    refine lv_aload_n (pc := 5) E.1 E.2 dX7_heaviest_5 rfl (lv_at hl 0 rfl) ?_
    refine g7_0 (pc := 6) E hts hin7 hown hK hQ.ob (hts _ (List.mem_of_getElem? (i := 3) rfl)) dX7_heaviest_6 ?_
    refine lv_iload_n (pc := 9) E.1 E.2 dX7_heaviest_9 rfl (lv_at hl 1 rfl) ?_
    refine z_rVi (pc := 10) (As := [.int (iI f)]) (rest := []) E hml hown hts (mX6_heaviestChild lL G (fun k => o (1 + k)) σ f hI (by omega)) (cwV 1 hts gX7_heaviest_X6_heaviestChild rfl rfl rfl vdX6_heaviestChild ⟨Nat.le_of_ble_eq_true rfl, Nat.le_of_ble_eq_true rfl⟩) (oB.recv hK hQ.nob rfl) hQ.now hK rfl hl.1 rfl dX7_heaviest_10 hcs (Nat.le_of_ble_eq_true rfl) ?_
    have hvb := hvS_b hI f
    have hvi := hvS_i hI f
    refine lv_istore_n (pc := 13) (lv' := [(2, .int (iI (hvS σ f))), (0, .ref (o 0)), (1, .int (iI f))]) E.1 E.2 dX7_heaviest_13 rfl hl (by decide) rfl (fun ls hl => ?_)
    refine lv_iload_n (pc := 14) E.1 E.2 dX7_heaviest_14 rfl (lv_at hl 0 rfl) ?_
    refine z_iconst (pc := 15) E dX7_heaviest_15 ?_
    refine z_icmp_ne (pc := 16) (tgt := 29) E ⟨by omega, by omega⟩ (by decide) dX7_heaviest_16 (by decide) (fun h16 => ?_) (fun h16 => ?_)
    · refine lv_iload_n (pc := 29) E.1 E.2 dX7_heaviest_29 rfl (lv_at hl 0 rfl) ?_
      exact absurd (show (kxHeav σ f) = 0 by (unfold kxHeav; (repeat' split) <;> first | rfl | omega | (exfalso; omega) | contradiction | grind)) hbad
    · exact z_thrS_xN (pc := 19) (rest := []) (is := 170) (text := "the folder has no children") E hst0 hown (hts _ (List.mem_of_getElem? (i := 1) rfl)) (hts _ (List.mem_of_getElem? (i := 2) rfl)) (fun w h => hts w (List.mem_cons_of_mem _ (List.mem_append_left _ (List.mem_append_right _ (h))))) hX (List.mem_of_getElem? (i := 3) rfl) (hl.1.trans hml.symm) dX7_heaviest_19 dX7_heaviest_22 dX7_heaviest_23 dX7_heaviest_25 dX7_heaviest_28 htab (Nat.le_of_ble_eq_true rfl) (Nat.le_of_ble_eq_true rfl) (Nat.le_of_ble_eq_true rfl) (Nat.le_of_ble_eq_true rfl) hlocks (by rw [show (kxHeav σ f) = 2 by (unfold kxHeav; (repeat' split) <;> first | rfl | omega | (exfalso; omega) | contradiction | grind)]; rfl)
  exact z_badV (pc := 2) (As := [.int (iI f)]) (rest := []) E hml hown hts (mxX7_needFolder lL hst0 G o ν σ π δ τ ω f hI (by omega) hc2) (cwV 1 hts gX7_heaviest_X7_needFolder rfl rfl rfl vdX7_needFolder ⟨Nat.le_of_ble_eq_true rfl, Nat.le_of_ble_eq_true rfl⟩) (oB.recv hK hQ.ob rfl) hQ hK hX rfl hl.1 rfl dX7_heaviest_2 ⟨Nat.le_of_ble_eq_true rfl, Nat.le_of_ble_eq_true rfl⟩ (Nat.le_of_ble_eq_true rfl) (by rw [show (kxHeav σ f) = 1 by (unfold kxHeav; (repeat' split) <;> first | rfl | omega | (exfalso; omega) | contradiction | grind)]; rfl) htab hlocks
set_option maxHeartbeats 1000000 in
set_option maxRecDepth 100000 in
theorem mX7_heaviest (lL : Launch) (G : GG) (o : Nat → Nat) (ν σ : Int → Int) (π : Nat → Int → Int) (δ τ ω : Int → Int) (f : Int) (hI : In σ) (hf : -2147483648 ≤ f ∧ f < 2147483648) (hok : (kxHeav σ f) = 0) : Met lL yX7_heaviest wsX7_heaviest ({ frames := 5, cells := 0, slots := 0, locals := 115 } : Room) (va_Pc [.ref (o 0), .int (iI f)] (fun U => QT G o ν σ π δ τ ω U.heap ∧ KK G U)) (vp_Si (fun r => r = (iI (hvS σ f)))) 0 0 (fun _ => False) := by
  refine z_met (P := (fun H : Heap => QT G o ν σ π δ τ ω H)) (by decide) rfl (Nat.le_of_ble_eq_true rfl) (fun pp ee ss mm below meth cC E hr hml hown hts hlocks hQ hK ls hl => ?_)
  have hl : lv_has ls 3 [(0, .ref (o 0)), (1, .int (iI f))] := hl
  have hcs : 0 ≤ (({ frames := 5, cells := 0, slots := 0, locals := 115 } : Room)).cells ∧ 0 ≤ (({ frames := 5, cells := 0, slots := 0, locals := 115 } : Room)).slots := ⟨Nat.zero_le _, Nat.zero_le _⟩
  have hin7 : ∀ w ∈ wsX70, w ∈ wsX7_heaviest := fun w h => List.mem_cons_of_mem _ (List.mem_append_left _ (List.mem_append_left _ (List.mem_append_left _ (List.mem_append_left _ (List.mem_append_left _ (List.mem_append_right _ (h)))))))
  have hF := hI.F
  have hMm := hI.M
  have hGn := hI.Gn
  have hTi := hI.ti
  have hGr := hI.gr
  have hoc := kxHeav_ok hok
  refine lv_aload_n (pc := 0) E.1 E.2 dX7_heaviest_0 rfl (lv_at hl 0 rfl) ?_
  refine lv_iload_n (pc := 1) E.1 E.2 dX7_heaviest_1 rfl (lv_at hl 1 rfl) ?_
  refine z_rVv (pc := 2) (As := [.int (iI f)]) (rest := []) E hml hown hts (mX7_needFolder lL G o ν σ π δ τ ω f hI (by omega) (by omega)) (cwV 1 hts gX7_heaviest_X7_needFolder rfl rfl rfl vdX7_needFolder ⟨Nat.le_of_ble_eq_true rfl, Nat.le_of_ble_eq_true rfl⟩) (oB.recv hK hQ.ob rfl) hQ hK rfl hl.1 rfl dX7_heaviest_2 hcs (Nat.le_of_ble_eq_true rfl) ?_
  refine lv_aload_n (pc := 5) E.1 E.2 dX7_heaviest_5 rfl (lv_at hl 0 rfl) ?_
  refine g7_0 (pc := 6) E hts hin7 hown hK hQ.ob (hts _ (List.mem_of_getElem? (i := 3) rfl)) dX7_heaviest_6 ?_
  refine lv_iload_n (pc := 9) E.1 E.2 dX7_heaviest_9 rfl (lv_at hl 1 rfl) ?_
  refine z_rVi (pc := 10) (As := [.int (iI f)]) (rest := []) E hml hown hts (mX6_heaviestChild lL G (fun k => o (1 + k)) σ f hI (by omega)) (cwV 1 hts gX7_heaviest_X6_heaviestChild rfl rfl rfl vdX6_heaviestChild ⟨Nat.le_of_ble_eq_true rfl, Nat.le_of_ble_eq_true rfl⟩) (oB.recv hK hQ.nob rfl) hQ.now hK rfl hl.1 rfl dX7_heaviest_10 hcs (Nat.le_of_ble_eq_true rfl) ?_
  have hvb := hvS_b hI f
  have hvi := hvS_i hI f
  refine lv_istore_n (pc := 13) (lv' := [(2, .int (iI (hvS σ f))), (0, .ref (o 0)), (1, .int (iI f))]) E.1 E.2 dX7_heaviest_13 rfl hl (by decide) rfl (fun ls hl => ?_)
  refine lv_iload_n (pc := 14) E.1 E.2 dX7_heaviest_14 rfl (lv_at hl 0 rfl) ?_
  refine z_iconst (pc := 15) E dX7_heaviest_15 ?_
  refine z_icmp_ne (pc := 16) (tgt := 29) E ⟨by omega, by omega⟩ (by decide) dX7_heaviest_16 (by decide) (fun h16 => ?_) (fun h16 => ?_)
  · refine lv_iload_n (pc := 29) E.1 E.2 dX7_heaviest_29 rfl (lv_at hl 0 rfl) ?_
    exact z_retRi E hr rfl hlocks dX7_heaviest_30
  · exact absurd hok (by unfold kxHeav; (repeat' split) <;> first | decide | omega | (exfalso; omega) | grind)
