theorem vdX8_isIn : yX8_isIn.cls = RX8 ∧ yX8_isIn.cls ≠ "java/lang/invoke/MethodHandle" ∧ yX8_isIn.cls ≠ "java/lang/invoke/VarHandle" ∧ (parseMethodDescriptor yX8_isIn.desc).map (fun d => d.parameters.length) = some 3 := by decide +kernel
theorem vdX8_greater : yX8_greater.cls = RX8 ∧ yX8_greater.cls ≠ "java/lang/invoke/MethodHandle" ∧ yX8_greater.cls ≠ "java/lang/invoke/VarHandle" ∧ (parseMethodDescriptor yX8_greater.desc).map (fun d => d.parameters.length) = some 2 := by decide +kernel
theorem vdX8_place : yX8_place.cls = RX8 ∧ yX8_place.cls ≠ "java/lang/invoke/MethodHandle" ∧ yX8_place.cls ≠ "java/lang/invoke/VarHandle" ∧ (parseMethodDescriptor yX8_place.desc).map (fun d => d.parameters.length) = some 2 := by decide +kernel
theorem vdX8_parentOf : yX8_parentOf.cls = RX8 ∧ yX8_parentOf.cls ≠ "java/lang/invoke/MethodHandle" ∧ yX8_parentOf.cls ≠ "java/lang/invoke/VarHandle" ∧ (parseMethodDescriptor yX8_parentOf.desc).map (fun d => d.parameters.length) = some 1 := by decide +kernel
theorem vdX8_tagOf : yX8_tagOf.cls = RX8 ∧ yX8_tagOf.cls ≠ "java/lang/invoke/MethodHandle" ∧ yX8_tagOf.cls ≠ "java/lang/invoke/VarHandle" ∧ (parseMethodDescriptor yX8_tagOf.desc).map (fun d => d.parameters.length) = some 1 := by decide +kernel
theorem vdX8_folderOf : yX8_folderOf.cls = RX8 ∧ yX8_folderOf.cls ≠ "java/lang/invoke/MethodHandle" ∧ yX8_folderOf.cls ≠ "java/lang/invoke/VarHandle" ∧ (parseMethodDescriptor yX8_folderOf.desc).map (fun d => d.parameters.length) = some 1 := by decide +kernel
theorem vdX8_isFolder : yX8_isFolder.cls = RX8 ∧ yX8_isFolder.cls ≠ "java/lang/invoke/MethodHandle" ∧ yX8_isFolder.cls ≠ "java/lang/invoke/VarHandle" ∧ (parseMethodDescriptor yX8_isFolder.desc).map (fun d => d.parameters.length) = some 1 := by decide +kernel
theorem vdX8_isFile : yX8_isFile.cls = RX8 ∧ yX8_isFile.cls ≠ "java/lang/invoke/MethodHandle" ∧ yX8_isFile.cls ≠ "java/lang/invoke/VarHandle" ∧ (parseMethodDescriptor yX8_isFile.desc).map (fun d => d.parameters.length) = some 1 := by decide +kernel
theorem vdX8_isGift : yX8_isGift.cls = RX8 ∧ yX8_isGift.cls ≠ "java/lang/invoke/MethodHandle" ∧ yX8_isGift.cls ≠ "java/lang/invoke/VarHandle" ∧ (parseMethodDescriptor yX8_isGift.desc).map (fun d => d.parameters.length) = some 1 := by decide +kernel
theorem vdX8_isProject : yX8_isProject.cls = RX8 ∧ yX8_isProject.cls ≠ "java/lang/invoke/MethodHandle" ∧ yX8_isProject.cls ≠ "java/lang/invoke/VarHandle" ∧ (parseMethodDescriptor yX8_isProject.desc).map (fun d => d.parameters.length) = some 1 := by decide +kernel
theorem vdX8_isKind : yX8_isKind.cls = RX8 ∧ yX8_isKind.cls ≠ "java/lang/invoke/MethodHandle" ∧ yX8_isKind.cls ≠ "java/lang/invoke/VarHandle" ∧ (parseMethodDescriptor yX8_isKind.desc).map (fun d => d.parameters.length) = some 1 := by decide +kernel
theorem vdX8_projectOf : yX8_projectOf.cls = RX8 ∧ yX8_projectOf.cls ≠ "java/lang/invoke/MethodHandle" ∧ yX8_projectOf.cls ≠ "java/lang/invoke/VarHandle" ∧ (parseMethodDescriptor yX8_projectOf.desc).map (fun d => d.parameters.length) = some 1 := by decide +kernel
theorem vdX8_isBelow : yX8_isBelow.cls = RX8 ∧ yX8_isBelow.cls ≠ "java/lang/invoke/MethodHandle" ∧ yX8_isBelow.cls ≠ "java/lang/invoke/VarHandle" ∧ (parseMethodDescriptor yX8_isBelow.desc).map (fun d => d.parameters.length) = some 2 := by decide +kernel
theorem vdX8_isOpenTo : yX8_isOpenTo.cls = RX8 ∧ yX8_isOpenTo.cls ≠ "java/lang/invoke/MethodHandle" ∧ yX8_isOpenTo.cls ≠ "java/lang/invoke/VarHandle" ∧ (parseMethodDescriptor yX8_isOpenTo.desc).map (fun d => d.parameters.length) = some 2 := by decide +kernel
theorem vdX8_depthOf : yX8_depthOf.cls = RX8 ∧ yX8_depthOf.cls ≠ "java/lang/invoke/MethodHandle" ∧ yX8_depthOf.cls ≠ "java/lang/invoke/VarHandle" ∧ (parseMethodDescriptor yX8_depthOf.desc).map (fun d => d.parameters.length) = some 1 := by decide +kernel
set_option maxHeartbeats 4000000 in
set_option maxRecDepth 100000 in
theorem mX8_isIn (lL : Launch) (G : GG) (v : Int) (a : Int) (b : Int) (hv : -9223372036854775808 ≤ v ∧ v < 9223372036854775808) (ha : -9223372036854775808 ≤ a ∧ a < 9223372036854775808) (hb : -9223372036854775808 ≤ b ∧ b < 9223372036854775808) : Met lL yX8_isIn wsX8_isIn ({ frames := 0, cells := 0, slots := 0, locals := 0 } : Room) (va_Pc [.long (iL v), .long (iL a), .long (iL b)] (fun U => True ∧ KK G U)) (vp_Si (fun r => r = (iI (if a ≤ v ∧ v ≤ b then 1 else 0)))) 0 0 (fun _ => False) := by
  refine z_met (P := (fun H : Heap => True)) (by decide) rfl (Nat.le_of_ble_eq_true rfl) (fun pp ee ss mm below meth cC E hr hml hown hts hlocks hM hK ls hl => ?_)
  have hl : lv_has ls 6 [(0, .long (iL v)), (2, .long (iL a)), (4, .long (iL b))] := hl
  have hcs : 0 ≤ (({ frames := 0, cells := 0, slots := 0, locals := 0 } : Room)).cells ∧ 0 ≤ (({ frames := 0, cells := 0, slots := 0, locals := 0 } : Room)).slots := ⟨Nat.zero_le _, Nat.zero_le _⟩
  refine lv_lload_n (pc := 0) E.1 E.2 dX8_isIn_0 rfl (lv_at hl 0 rfl) ?_
  refine lv_lload_n (pc := 1) E.1 E.2 dX8_isIn_1 rfl (lv_at hl 1 rfl) ?_
  refine z_lcmp_lt (pc := 2) (tgt := 17) E ⟨by omega, by omega⟩ ⟨by omega, by omega⟩ dX8_isIn_2 dX8_isIn_3 (by decide) (fun h2 => ?_) (fun h2 => ?_)
  · refine z_iconst (pc := 17) E dX8_isIn_17 ?_
    exact z_retRz E hr rfl (congrArg iI (by first | omega | (rw [if_pos (by omega)]) | (rw [if_neg (by omega)]))) hlocks dX8_isIn_18
  · refine lv_lload_n (pc := 6) E.1 E.2 dX8_isIn_6 rfl (lv_at hl 0 rfl) ?_
    refine lv_lload (pc := 7) E.1 E.2 dX8_isIn_7 (lv_at hl 2 rfl) ?_
    refine z_lcmp_gt (pc := 9) (tgt := 17) E ⟨by omega, by omega⟩ ⟨by omega, by omega⟩ dX8_isIn_9 dX8_isIn_10 (by decide) (fun h9 => ?_) (fun h9 => ?_)
    · refine z_iconst (pc := 17) E dX8_isIn_17 ?_
      exact z_retRz E hr rfl (congrArg iI (by first | omega | (rw [if_pos (by omega)]) | (rw [if_neg (by omega)]))) hlocks dX8_isIn_18
    · refine z_iconst (pc := 13) E dX8_isIn_13 ?_
      refine lv_goto (pc := 14) (tgt := 18) E.1 E.2 dX8_isIn_14 (by decide) ?_
      exact z_retRz E hr rfl (congrArg iI (by first | omega | (rw [if_pos (by omega)]) | (rw [if_neg (by omega)]))) hlocks dX8_isIn_18
set_option maxHeartbeats 4000000 in
set_option maxRecDepth 100000 in
theorem mX8_greater (lL : Launch) (G : GG) (v : Int) (a : Int) (hv : -9223372036854775808 ≤ v ∧ v < 9223372036854775808) (ha : -9223372036854775808 ≤ a ∧ a < 9223372036854775808) : Met lL yX8_greater wsX8_greater ({ frames := 0, cells := 0, slots := 0, locals := 0 } : Room) (va_Pc [.long (iL v), .long (iL a)] (fun U => True ∧ KK G U)) (vp_Sl (fun r => r = (iL (max v a)))) 0 0 (fun _ => False) := by
  refine z_met (P := (fun H : Heap => True)) (by decide) rfl (Nat.le_of_ble_eq_true rfl) (fun pp ee ss mm below meth cC E hr hml hown hts hlocks hM hK ls hl => ?_)
  have hl : lv_has ls 4 [(0, .long (iL v)), (2, .long (iL a))] := hl
  have hcs : 0 ≤ (({ frames := 0, cells := 0, slots := 0, locals := 0 } : Room)).cells ∧ 0 ≤ (({ frames := 0, cells := 0, slots := 0, locals := 0 } : Room)).slots := ⟨Nat.zero_le _, Nat.zero_le _⟩
  refine lv_lload_n (pc := 0) E.1 E.2 dX8_greater_0 rfl (lv_at hl 0 rfl) ?_
  refine lv_lload_n (pc := 1) E.1 E.2 dX8_greater_1 rfl (lv_at hl 1 rfl) ?_
  refine z_lcmp_le (pc := 2) (tgt := 10) E ⟨by omega, by omega⟩ ⟨by omega, by omega⟩ dX8_greater_2 dX8_greater_3 (by decide) (fun h2 => ?_) (fun h2 => ?_)
  · refine lv_lload_n (pc := 10) E.1 E.2 dX8_greater_10 rfl (lv_at hl 1 rfl) ?_
    exact z_retRl E hr (congrArg iL (by first | omega | (rw [if_pos (by omega)]) | (rw [if_neg (by omega)]))) hlocks dX8_greater_11
  · refine lv_lload_n (pc := 6) E.1 E.2 dX8_greater_6 rfl (lv_at hl 0 rfl) ?_
    refine lv_goto (pc := 7) (tgt := 11) E.1 E.2 dX8_greater_7 (by decide) ?_
    exact z_retRl E hr (congrArg iL (by first | omega | (rw [if_pos (by omega)]) | (rw [if_neg (by omega)]))) hlocks dX8_greater_11
set_option maxHeartbeats 4000000 in
set_option maxRecDepth 100000 in
theorem mX8_place (lL : Launch) (G : GG) (p : Int) (k : Int) : Met lL yX8_place wsX8_place ({ frames := 0, cells := 0, slots := 0, locals := 0 } : Room) (va_Pc [.int (iI p), .int (iI k)] (fun U => True ∧ KK G U)) (vp_Si (fun r => r = (iI (2 * p + k)))) 0 0 (fun _ => False) := by
  refine z_met (P := (fun H : Heap => True)) (by decide) rfl (Nat.le_of_ble_eq_true rfl) (fun pp ee ss mm below meth cC E hr hml hown hts hlocks hM hK ls hl => ?_)
  have hl : lv_has ls 2 [(0, .int (iI p)), (1, .int (iI k))] := hl
  have hcs : 0 ≤ (({ frames := 0, cells := 0, slots := 0, locals := 0 } : Room)).cells ∧ 0 ≤ (({ frames := 0, cells := 0, slots := 0, locals := 0 } : Room)).slots := ⟨Nat.zero_le _, Nat.zero_le _⟩
  refine z_iconst (pc := 0) E dX8_place_0 ?_
  refine lv_iload_n (pc := 1) E.1 E.2 dX8_place_1 rfl (lv_at hl 0 rfl) ?_
  refine z_imul (pc := 2) E dX8_place_2 ?_
  refine lv_iload_n (pc := 3) E.1 E.2 dX8_place_3 rfl (lv_at hl 1 rfl) ?_
  refine z_iadd (pc := 4) E dX8_place_4 ?_
  exact z_retRi E hr (congrArg iI (by first | omega | (rw [if_pos (by omega)]) | (rw [if_neg (by omega)]))) hlocks dX8_place_5
set_option maxHeartbeats 4000000 in
set_option maxRecDepth 100000 in
theorem mX8_parentOf (lL : Launch) (G : GG) (o : Nat → Nat) (μ σ φ κ β ω : Int → Int) (f : Int) (hf : 0 ≤ f ∧ f < 40) : Met lL yX8_parentOf wsX8_parentOf ({ frames := 0, cells := 0, slots := 0, locals := 0 } : Room) (va_Pc [.ref (o 0), .int (iI f)] (fun U => W8 G o (mV o μ) σ φ κ β ω U.heap ∧ KK G U)) (vp_Si (fun r => r = (iI (σ (69 + f))))) 0 0 (fun _ => False) := by
  refine z_met (P := (fun H : Heap => W8 G o (mV o μ) σ φ κ β ω H)) (by decide) rfl (Nat.le_of_ble_eq_true rfl) (fun pp ee ss mm below meth cC E hr hml hown hts hlocks hM hK ls hl => ?_)
  have hl : lv_has ls 2 [(0, .ref (o 0)), (1, .int (iI f))] := hl
  have hcs : 0 ≤ (({ frames := 0, cells := 0, slots := 0, locals := 0 } : Room)).cells ∧ 0 ≤ (({ frames := 0, cells := 0, slots := 0, locals := 0 } : Room)).slots := ⟨Nat.zero_le _, Nat.zero_le _⟩
  have hin8 : ∀ w ∈ wsX80, w ∈ wsX8_parentOf := fun w h => List.mem_cons_of_mem _ (List.mem_append_right _ (h))
  refine lv_aload_n (pc := 0) E.1 E.2 dX8_parentOf_0 rfl (lv_at hl 0 rfl) ?_
  refine g8_0 (pc := 1) E hts hin8 hown hK hM.1 (hts _ (List.mem_of_getElem? (i := 1) rfl)) dX8_parentOf_1 ?_
  refine z_bipush (pc := 4) E (by decide) dX8_parentOf_4 ?_
  refine lv_iload_n (pc := 6) E.1 E.2 dX8_parentOf_6 rfl (lv_at hl 1 rfl) ?_
  refine z_iadd (pc := 7) E dX8_parentOf_7 ?_
  refine z_laload (pc := 8) E hK hM.2.1 ⟨by omega, by omega⟩ (by decide) dX8_parentOf_8 ?_
  refine z_l2i (pc := 9) E dX8_parentOf_9 ?_
  exact z_retRi E hr rfl hlocks dX8_parentOf_10
set_option maxHeartbeats 4000000 in
set_option maxRecDepth 100000 in
theorem mX8_tagOf (lL : Launch) (G : GG) (o : Nat → Nat) (μ σ φ κ β ω : Int → Int) (f : Int) (hf : 0 ≤ f ∧ f < 40) : Met lL yX8_tagOf wsX8_tagOf ({ frames := 0, cells := 0, slots := 0, locals := 0 } : Room) (va_Pc [.ref (o 0), .int (iI f)] (fun U => W8 G o (mV o μ) σ φ κ β ω U.heap ∧ KK G U)) (vp_Si (fun r => r = (iI (σ (109 + f))))) 0 0 (fun _ => False) := by
  refine z_met (P := (fun H : Heap => W8 G o (mV o μ) σ φ κ β ω H)) (by decide) rfl (Nat.le_of_ble_eq_true rfl) (fun pp ee ss mm below meth cC E hr hml hown hts hlocks hM hK ls hl => ?_)
  have hl : lv_has ls 2 [(0, .ref (o 0)), (1, .int (iI f))] := hl
  have hcs : 0 ≤ (({ frames := 0, cells := 0, slots := 0, locals := 0 } : Room)).cells ∧ 0 ≤ (({ frames := 0, cells := 0, slots := 0, locals := 0 } : Room)).slots := ⟨Nat.zero_le _, Nat.zero_le _⟩
  have hin8 : ∀ w ∈ wsX80, w ∈ wsX8_tagOf := fun w h => List.mem_cons_of_mem _ (List.mem_append_right _ (h))
  refine lv_aload_n (pc := 0) E.1 E.2 dX8_tagOf_0 rfl (lv_at hl 0 rfl) ?_
  refine g8_0 (pc := 1) E hts hin8 hown hK hM.1 (hts _ (List.mem_of_getElem? (i := 1) rfl)) dX8_tagOf_1 ?_
  refine z_bipush (pc := 4) E (by decide) dX8_tagOf_4 ?_
  refine lv_iload_n (pc := 6) E.1 E.2 dX8_tagOf_6 rfl (lv_at hl 1 rfl) ?_
  refine z_iadd (pc := 7) E dX8_tagOf_7 ?_
  refine z_laload (pc := 8) E hK hM.2.1 ⟨by omega, by omega⟩ (by decide) dX8_tagOf_8 ?_
  refine z_l2i (pc := 9) E dX8_tagOf_9 ?_
  exact z_retRi E hr rfl hlocks dX8_tagOf_10
set_option maxHeartbeats 4000000 in
set_option maxRecDepth 100000 in
theorem mX8_folderOf (lL : Launch) (G : GG) (o : Nat → Nat) (μ σ φ κ β ω : Int → Int) (f : Int) (hf : 0 ≤ f ∧ f < 60) : Met lL yX8_folderOf wsX8_folderOf ({ frames := 0, cells := 0, slots := 0, locals := 0 } : Room) (va_Pc [.ref (o 0), .int (iI f)] (fun U => W8 G o (mV o μ) σ φ κ β ω U.heap ∧ KK G U)) (vp_Si (fun r => r = (iI (σ (189 + f))))) 0 0 (fun _ => False) := by
  refine z_met (P := (fun H : Heap => W8 G o (mV o μ) σ φ κ β ω H)) (by decide) rfl (Nat.le_of_ble_eq_true rfl) (fun pp ee ss mm below meth cC E hr hml hown hts hlocks hM hK ls hl => ?_)
  have hl : lv_has ls 2 [(0, .ref (o 0)), (1, .int (iI f))] := hl
  have hcs : 0 ≤ (({ frames := 0, cells := 0, slots := 0, locals := 0 } : Room)).cells ∧ 0 ≤ (({ frames := 0, cells := 0, slots := 0, locals := 0 } : Room)).slots := ⟨Nat.zero_le _, Nat.zero_le _⟩
  have hin8 : ∀ w ∈ wsX80, w ∈ wsX8_folderOf := fun w h => List.mem_cons_of_mem _ (List.mem_append_right _ (h))
  refine lv_aload_n (pc := 0) E.1 E.2 dX8_folderOf_0 rfl (lv_at hl 0 rfl) ?_
  refine g8_0 (pc := 1) E hts hin8 hown hK hM.1 (hts _ (List.mem_of_getElem? (i := 1) rfl)) dX8_folderOf_1 ?_
  refine z_sipush (pc := 4) E (by decide) dX8_folderOf_4 ?_
  refine lv_iload_n (pc := 7) E.1 E.2 dX8_folderOf_7 rfl (lv_at hl 1 rfl) ?_
  refine z_iadd (pc := 8) E dX8_folderOf_8 ?_
  refine z_laload (pc := 9) E hK hM.2.1 ⟨by omega, by omega⟩ (by decide) dX8_folderOf_9 ?_
  refine z_l2i (pc := 10) E dX8_folderOf_10 ?_
  exact z_retRi E hr rfl hlocks dX8_folderOf_11
set_option maxHeartbeats 4000000 in
set_option maxRecDepth 100000 in
theorem mX8_isFolder (lL : Launch) (G : GG) (o : Nat → Nat) (μ σ φ κ β ω : Int → Int) (f : Int) (hI : In σ) (hf : -2147483648 ≤ f ∧ f < 2147483648) : Met lL yX8_isFolder wsX8_isFolder ({ frames := 1, cells := 0, slots := 0, locals := 25 } : Room) (va_Pc [.ref (o 0), .int (iI f)] (fun U => W8 G o (mV o μ) σ φ κ β ω U.heap ∧ KK G U)) (vp_Si (fun r => r = (iI (if 0 ≤ f ∧ f ≤ σ 2 - 1 then 1 else 0)))) 0 0 (fun _ => False) := by
  refine z_met (P := (fun H : Heap => W8 G o (mV o μ) σ φ κ β ω H)) (by decide) rfl (Nat.le_of_ble_eq_true rfl) (fun pp ee ss mm below meth cC E hr hml hown hts hlocks hM hK ls hl => ?_)
  have hl : lv_has ls 2 [(0, .ref (o 0)), (1, .int (iI f))] := hl
  have hcs : 0 ≤ (({ frames := 1, cells := 0, slots := 0, locals := 25 } : Room)).cells ∧ 0 ≤ (({ frames := 1, cells := 0, slots := 0, locals := 25 } : Room)).slots := ⟨Nat.zero_le _, Nat.zero_le _⟩
  have hin8 : ∀ w ∈ wsX80, w ∈ wsX8_isFolder := fun w h => List.mem_cons_of_mem _ (List.mem_append_right _ (h))
  have hF := hI.F
  have hMm := hI.M
  have hGn := hI.Gn
  refine lv_iload_n (pc := 0) E.1 E.2 dX8_isFolder_0 rfl (lv_at hl 1 rfl) ?_
  refine z_i2l (pc := 1) E ⟨by omega, by omega⟩ dX8_isFolder_1 ?_
  refine z_lconst (pc := 2) (v := 0) E (by decide) dX8_isFolder_2 ?_
  refine lv_aload_n (pc := 3) E.1 E.2 dX8_isFolder_3 rfl (lv_at hl 0 rfl) ?_
  refine g8_0 (pc := 4) E hts hin8 hown hK hM.1 (hts _ (List.mem_of_getElem? (i := 1) rfl)) dX8_isFolder_4 ?_
  refine z_iconst (pc := 7) E dX8_isFolder_7 ?_
  refine z_laload (pc := 8) E hK hM.2.1 ⟨by omega, by omega⟩ (by decide) dX8_isFolder_8 ?_
  have hb8 := hI.bd 2
  refine z_lconst (pc := 9) (v := 1) E (by decide) dX8_isFolder_9 ?_
  refine z_lsub (pc := 10) E dX8_isFolder_10 ?_
  refine z_rSi (pc := 11) (P := fun _ => True) (As := [.long (iL f), .long (iL 0), .long (iL ((σ 2) - 1))]) (rest := []) E hml hown hts (mX8_isIn lL G f 0 ((σ 2) - 1) ⟨by omega, by omega⟩ ⟨by omega, by omega⟩ ⟨by omega, by omega⟩) (va_cwS 3 hts gX8_isFolder_X8_isIn rfl rfl rfl vdX8_isIn.2 ⟨Nat.le_of_ble_eq_true rfl, Nat.le_of_ble_eq_true rfl⟩) trivial hK rfl hl.1 rfl dX8_isFolder_11 hcs (by decide) ?_
  exact z_retRz E hr (z_nb _) rfl hlocks dX8_isFolder_14
set_option maxHeartbeats 4000000 in
set_option maxRecDepth 100000 in
theorem mX8_isFile (lL : Launch) (G : GG) (o : Nat → Nat) (μ σ φ κ β ω : Int → Int) (f : Int) (hI : In σ) (hf : -2147483648 ≤ f ∧ f < 2147483648) : Met lL yX8_isFile wsX8_isFile ({ frames := 1, cells := 0, slots := 0, locals := 25 } : Room) (va_Pc [.ref (o 0), .int (iI f)] (fun U => W8 G o (mV o μ) σ φ κ β ω U.heap ∧ KK G U)) (vp_Si (fun r => r = (iI (if 0 ≤ f ∧ f ≤ σ 3 - 1 then 1 else 0)))) 0 0 (fun _ => False) := by
  refine z_met (P := (fun H : Heap => W8 G o (mV o μ) σ φ κ β ω H)) (by decide) rfl (Nat.le_of_ble_eq_true rfl) (fun pp ee ss mm below meth cC E hr hml hown hts hlocks hM hK ls hl => ?_)
  have hl : lv_has ls 2 [(0, .ref (o 0)), (1, .int (iI f))] := hl
  have hcs : 0 ≤ (({ frames := 1, cells := 0, slots := 0, locals := 25 } : Room)).cells ∧ 0 ≤ (({ frames := 1, cells := 0, slots := 0, locals := 25 } : Room)).slots := ⟨Nat.zero_le _, Nat.zero_le _⟩
  have hin8 : ∀ w ∈ wsX80, w ∈ wsX8_isFile := fun w h => List.mem_cons_of_mem _ (List.mem_append_right _ (h))
  have hF := hI.F
  have hMm := hI.M
  have hGn := hI.Gn
  refine lv_iload_n (pc := 0) E.1 E.2 dX8_isFile_0 rfl (lv_at hl 1 rfl) ?_
  refine z_i2l (pc := 1) E ⟨by omega, by omega⟩ dX8_isFile_1 ?_
  refine z_lconst (pc := 2) (v := 0) E (by decide) dX8_isFile_2 ?_
  refine lv_aload_n (pc := 3) E.1 E.2 dX8_isFile_3 rfl (lv_at hl 0 rfl) ?_
  refine g8_0 (pc := 4) E hts hin8 hown hK hM.1 (hts _ (List.mem_of_getElem? (i := 1) rfl)) dX8_isFile_4 ?_
  refine z_iconst (pc := 7) E dX8_isFile_7 ?_
  refine z_laload (pc := 8) E hK hM.2.1 ⟨by omega, by omega⟩ (by decide) dX8_isFile_8 ?_
  have hb8 := hI.bd 3
  refine z_lconst (pc := 9) (v := 1) E (by decide) dX8_isFile_9 ?_
  refine z_lsub (pc := 10) E dX8_isFile_10 ?_
  refine z_rSi (pc := 11) (P := fun _ => True) (As := [.long (iL f), .long (iL 0), .long (iL ((σ 3) - 1))]) (rest := []) E hml hown hts (mX8_isIn lL G f 0 ((σ 3) - 1) ⟨by omega, by omega⟩ ⟨by omega, by omega⟩ ⟨by omega, by omega⟩) (va_cwS 3 hts gX8_isFile_X8_isIn rfl rfl rfl vdX8_isIn.2 ⟨Nat.le_of_ble_eq_true rfl, Nat.le_of_ble_eq_true rfl⟩) trivial hK rfl hl.1 rfl dX8_isFile_11 hcs (by decide) ?_
  exact z_retRz E hr (z_nb _) rfl hlocks dX8_isFile_14
set_option maxHeartbeats 4000000 in
set_option maxRecDepth 100000 in
theorem mX8_isGift (lL : Launch) (G : GG) (o : Nat → Nat) (μ σ φ κ β ω : Int → Int) (f : Int) (hI : In σ) (hf : -2147483648 ≤ f ∧ f < 2147483648) : Met lL yX8_isGift wsX8_isGift ({ frames := 1, cells := 0, slots := 0, locals := 25 } : Room) (va_Pc [.ref (o 0), .int (iI f)] (fun U => W8 G o (mV o μ) σ φ κ β ω U.heap ∧ KK G U)) (vp_Si (fun r => r = (iI (if 0 ≤ f ∧ f ≤ σ 4 - 1 then 1 else 0)))) 0 0 (fun _ => False) := by
  refine z_met (P := (fun H : Heap => W8 G o (mV o μ) σ φ κ β ω H)) (by decide) rfl (Nat.le_of_ble_eq_true rfl) (fun pp ee ss mm below meth cC E hr hml hown hts hlocks hM hK ls hl => ?_)
  have hl : lv_has ls 2 [(0, .ref (o 0)), (1, .int (iI f))] := hl
  have hcs : 0 ≤ (({ frames := 1, cells := 0, slots := 0, locals := 25 } : Room)).cells ∧ 0 ≤ (({ frames := 1, cells := 0, slots := 0, locals := 25 } : Room)).slots := ⟨Nat.zero_le _, Nat.zero_le _⟩
  have hin8 : ∀ w ∈ wsX80, w ∈ wsX8_isGift := fun w h => List.mem_cons_of_mem _ (List.mem_append_right _ (h))
  have hF := hI.F
  have hMm := hI.M
  have hGn := hI.Gn
  refine lv_iload_n (pc := 0) E.1 E.2 dX8_isGift_0 rfl (lv_at hl 1 rfl) ?_
  refine z_i2l (pc := 1) E ⟨by omega, by omega⟩ dX8_isGift_1 ?_
  refine z_lconst (pc := 2) (v := 0) E (by decide) dX8_isGift_2 ?_
  refine lv_aload_n (pc := 3) E.1 E.2 dX8_isGift_3 rfl (lv_at hl 0 rfl) ?_
  refine g8_0 (pc := 4) E hts hin8 hown hK hM.1 (hts _ (List.mem_of_getElem? (i := 1) rfl)) dX8_isGift_4 ?_
  refine z_iconst (pc := 7) E dX8_isGift_7 ?_
  refine z_laload (pc := 8) E hK hM.2.1 ⟨by omega, by omega⟩ (by decide) dX8_isGift_8 ?_
  have hb8 := hI.bd 4
  refine z_lconst (pc := 9) (v := 1) E (by decide) dX8_isGift_9 ?_
  refine z_lsub (pc := 10) E dX8_isGift_10 ?_
  refine z_rSi (pc := 11) (P := fun _ => True) (As := [.long (iL f), .long (iL 0), .long (iL ((σ 4) - 1))]) (rest := []) E hml hown hts (mX8_isIn lL G f 0 ((σ 4) - 1) ⟨by omega, by omega⟩ ⟨by omega, by omega⟩ ⟨by omega, by omega⟩) (va_cwS 3 hts gX8_isGift_X8_isIn rfl rfl rfl vdX8_isIn.2 ⟨Nat.le_of_ble_eq_true rfl, Nat.le_of_ble_eq_true rfl⟩) trivial hK rfl hl.1 rfl dX8_isGift_11 hcs (by decide) ?_
  exact z_retRz E hr (z_nb _) rfl hlocks dX8_isGift_14
set_option maxHeartbeats 4000000 in
set_option maxRecDepth 100000 in
theorem mX8_isProject (lL : Launch) (G : GG) (p : Int) (hp : -2147483648 ≤ p ∧ p < 2147483648) : Met lL yX8_isProject wsX8_isProject ({ frames := 1, cells := 0, slots := 0, locals := 25 } : Room) (va_Pc [.int (iI p)] (fun U => True ∧ KK G U)) (vp_Si (fun r => r = (iI (if 0 ≤ p ∧ p ≤ 7 then 1 else 0)))) 0 0 (fun _ => False) := by
  refine z_met (P := (fun H : Heap => True)) (by decide) rfl (Nat.le_of_ble_eq_true rfl) (fun pp ee ss mm below meth cC E hr hml hown hts hlocks hM hK ls hl => ?_)
  have hl : lv_has ls 1 [(0, .int (iI p))] := hl
  have hcs : 0 ≤ (({ frames := 1, cells := 0, slots := 0, locals := 25 } : Room)).cells ∧ 0 ≤ (({ frames := 1, cells := 0, slots := 0, locals := 25 } : Room)).slots := ⟨Nat.zero_le _, Nat.zero_le _⟩
  refine lv_iload_n (pc := 0) E.1 E.2 dX8_isProject_0 rfl (lv_at hl 0 rfl) ?_
  refine z_i2l (pc := 1) E ⟨by omega, by omega⟩ dX8_isProject_1 ?_
  refine z_lconst (pc := 2) (v := 0) E (by decide) dX8_isProject_2 ?_
  refine lv_ldc2 (pc := 3) (v := iL (7)) E.1 E.2 hown (show (Jvm.Cond.constantLong RX8 189 (iL (7))).before _ ss = true from (hts _ (List.mem_of_getElem? (i := 1) rfl))) dX8_isProject_3 ?_
  refine z_rSi (pc := 6) (P := fun _ => True) (As := [.long (iL p), .long (iL 0), .long (iL 7)]) (rest := []) E hml hown hts (mX8_isIn lL G p 0 7 ⟨by omega, by omega⟩ ⟨by omega, by omega⟩ ⟨by omega, by omega⟩) (va_cwS 3 hts gX8_isProject_X8_isIn rfl rfl rfl vdX8_isIn.2 ⟨Nat.le_of_ble_eq_true rfl, Nat.le_of_ble_eq_true rfl⟩) trivial hK rfl hl.1 rfl dX8_isProject_6 hcs (by decide) ?_
  exact z_retRz E hr (z_nb _) rfl hlocks dX8_isProject_9
set_option maxHeartbeats 4000000 in
set_option maxRecDepth 100000 in
theorem mX8_isKind (lL : Launch) (G : GG) (k : Int) (hk : -2147483648 ≤ k ∧ k < 2147483648) : Met lL yX8_isKind wsX8_isKind ({ frames := 1, cells := 0, slots := 0, locals := 25 } : Room) (va_Pc [.int (iI k)] (fun U => True ∧ KK G U)) (vp_Si (fun r => r = (iI (if 0 ≤ k ∧ k ≤ 1 then 1 else 0)))) 0 0 (fun _ => False) := by
  refine z_met (P := (fun H : Heap => True)) (by decide) rfl (Nat.le_of_ble_eq_true rfl) (fun pp ee ss mm below meth cC E hr hml hown hts hlocks hM hK ls hl => ?_)
  have hl : lv_has ls 1 [(0, .int (iI k))] := hl
  have hcs : 0 ≤ (({ frames := 1, cells := 0, slots := 0, locals := 25 } : Room)).cells ∧ 0 ≤ (({ frames := 1, cells := 0, slots := 0, locals := 25 } : Room)).slots := ⟨Nat.zero_le _, Nat.zero_le _⟩
  refine lv_iload_n (pc := 0) E.1 E.2 dX8_isKind_0 rfl (lv_at hl 0 rfl) ?_
  refine z_i2l (pc := 1) E ⟨by omega, by omega⟩ dX8_isKind_1 ?_
  refine z_lconst (pc := 2) (v := 0) E (by decide) dX8_isKind_2 ?_
  refine z_lconst (pc := 3) (v := 1) E (by decide) dX8_isKind_3 ?_
  refine z_rSi (pc := 4) (P := fun _ => True) (As := [.long (iL k), .long (iL 0), .long (iL 1)]) (rest := []) E hml hown hts (mX8_isIn lL G k 0 1 ⟨by omega, by omega⟩ ⟨by omega, by omega⟩ ⟨by omega, by omega⟩) (va_cwS 3 hts gX8_isKind_X8_isIn rfl rfl rfl vdX8_isIn.2 ⟨Nat.le_of_ble_eq_true rfl, Nat.le_of_ble_eq_true rfl⟩) trivial hK rfl hl.1 rfl dX8_isKind_4 hcs (by decide) ?_
  exact z_retRz E hr (z_nb _) rfl hlocks dX8_isKind_7
set_option maxHeartbeats 4000000 in
set_option maxRecDepth 100000 in
theorem mX8_projectOf (lL : Launch) (G : GG) (o : Nat → Nat) (μ σ φ κ β ω : Int → Int) (f : Int) (hI : In σ) (hf : fo σ f) : Met lL yX8_projectOf wsX8_projectOf ({ frames := 1, cells := 0, slots := 0, locals := 21 } : Room) (va_Pc [.ref (o 0), .int (iI f)] (fun U => W8 G o (mV o μ) σ φ κ β ω U.heap ∧ KK G U)) (vp_Si (fun r => r = (iI (pjF σ f)))) 0 0 (fun _ => False) := by
  refine z_met (P := (fun H : Heap => W8 G o (mV o μ) σ φ κ β ω H)) (by decide) rfl (Nat.le_of_ble_eq_true rfl) (fun pp ee ss mm below meth cC E hr hml hown hts hlocks hM hK ls hl => ?_)
  have hl : lv_has ls 3 [(0, .ref (o 0)), (1, .int (iI f))] := hl
  have hcs : 0 ≤ (({ frames := 1, cells := 0, slots := 0, locals := 21 } : Room)).cells ∧ 0 ≤ (({ frames := 1, cells := 0, slots := 0, locals := 21 } : Room)).slots := ⟨Nat.zero_le _, Nat.zero_le _⟩
  have hF := hI.F
  have hMm := hI.M
  have hGn := hI.Gn
  refine lv_iload_n (pc := 0) E.1 E.2 dX8_projectOf_0 rfl (lv_at hl 1 rfl) ?_
  refine lv_istore_n (pc := 1) (lv' := [(2, .int (iI f)), (0, .ref (o 0)), (1, .int (iI f))]) E.1 E.2 dX8_projectOf_1 rfl hl (by decide) rfl (fun ls hl => ?_)
  suffices L2 : ∀ (nf : Nat), ∀ (g : Int), (fo σ g) → (pjF σ g = pjF σ f) → ((dpF σ g).toNat) < nf → ∀ ls : Array Slot, lv_has ls 3 [(2, .int (iI g)), (0, .ref (o 0)), (1, .int (iI f))] → W pp lL ee ({ frames := 1, cells := 0, slots := 0, locals := 21 } : Room) ss mm [.ref (o 0), .int (iI f)].toArray below meth cC ss.heap [] 0 0 (MQ below (vp_Si (fun r => r = (iI (pjF σ f)))) [.ref (o 0), .int (iI f)].toArray ss 0 0 (fun _ => False)) (F0 mm 2 ls []) from L2 _ f hf rfl (Nat.lt_succ_self _) ls (lv_sub hl [0, 1, 2] rfl)
  intro nfL2
  induction nfL2 with
  | zero => intro g hg he hmzL2; exact absurd hmzL2 (Nat.not_lt_zero _)
  | succ nfL2 ihL2 =>
    intro g hg he hmzL2 ls hl
    have hgr : -1 ≤ g ∧ g < σ 2 := by rcases hg with q | q <;> omega
    refine lv_iload_n (pc := 2) E.1 E.2 dX8_projectOf_2 rfl (lv_at hl 0 rfl) ?_
    refine z_iconst (pc := 3) E dX8_projectOf_3 ?_
    refine z_icmp_eq (pc := 4) (tgt := 25) E ⟨by omega, by omega⟩ (by decide) dX8_projectOf_4 (by decide) (fun h4 => ?_) (fun h4 => ?_)
    · refine lv_iload_n (pc := 25) E.1 E.2 dX8_projectOf_25 rfl (lv_at hl 0 rfl) ?_
      refine z_iconst (pc := 26) E dX8_projectOf_26 ?_
      refine z_icmp_ne (pc := 27) (tgt := 34) E ⟨by omega, by omega⟩ (by decide) dX8_projectOf_27 (by decide) (fun h27 => ?_) (fun h27 => ?_)
      · exact absurd h27 (by first | omega | exact h4 | exact fun q => h4 q)
      · refine z_iconst (pc := 30) E dX8_projectOf_30 ?_
        refine lv_goto (pc := 31) (tgt := 39) E.1 E.2 dX8_projectOf_31 (by decide) ?_
        exact z_retRi E hr (congrArg iI (by first | (rw [← he, h4, pjF_n]) | (rw [← he, pjF_s hI.cs hg2.1 hg2.2, if_neg h13]))) hlocks dX8_projectOf_39
    · have hg2 : 0 ≤ g ∧ g < σ 2 := by rcases hg with q | q; exact absurd q h4; exact q
      refine lv_aload_n (pc := 7) E.1 E.2 dX8_projectOf_7 rfl (lv_at hl 1 rfl) ?_
      refine lv_iload_n (pc := 8) E.1 E.2 dX8_projectOf_8 rfl (lv_at hl 0 rfl) ?_
      refine z_rVi (pc := 9) (As := [.int (iI g)]) (rest := []) E hml hown hts (mX8_tagOf lL G o μ σ φ κ β ω g (by omega)) (cwV 1 hts gX8_projectOf_X8_tagOf rfl rfl rfl vdX8_tagOf ⟨Nat.le_of_ble_eq_true rfl, Nat.le_of_ble_eq_true rfl⟩) (oB.recv hK hM.1 rfl) hM hK rfl hl.1 rfl dX8_projectOf_9 hcs (by decide) ?_
      have ht := hI.tag hg2.1 hg2.2
      refine z_iconst (pc := 12) E dX8_projectOf_12 ?_
      refine z_icmp_ne (pc := 13) (tgt := 25) E ⟨by omega, by omega⟩ (by decide) dX8_projectOf_13 (by decide) (fun h13 => ?_) (fun h13 => ?_)
      · refine lv_iload_n (pc := 25) E.1 E.2 dX8_projectOf_25 rfl (lv_at hl 0 rfl) ?_
        refine z_iconst (pc := 26) E dX8_projectOf_26 ?_
        refine z_icmp_ne (pc := 27) (tgt := 34) E ⟨by omega, by omega⟩ (by decide) dX8_projectOf_27 (by decide) (fun h27 => ?_) (fun h27 => ?_)
        · refine lv_aload_n (pc := 34) E.1 E.2 dX8_projectOf_34 rfl (lv_at hl 1 rfl) ?_
          refine lv_iload_n (pc := 35) E.1 E.2 dX8_projectOf_35 rfl (lv_at hl 0 rfl) ?_
          refine z_rVi (pc := 36) (As := [.int (iI g)]) (rest := []) E hml hown hts (mX8_tagOf lL G o μ σ φ κ β ω g (by omega)) (cwV 1 hts gX8_projectOf_X8_tagOf rfl rfl rfl vdX8_tagOf ⟨Nat.le_of_ble_eq_true rfl, Nat.le_of_ble_eq_true rfl⟩) (oB.recv hK hM.1 rfl) hM hK rfl hl.1 rfl dX8_projectOf_36 hcs (by decide) ?_
          exact z_retRi E hr (congrArg iI (by first | (rw [← he, h4, pjF_n]) | (rw [← he, pjF_s hI.cs hg2.1 hg2.2, if_neg h13]))) hlocks dX8_projectOf_39
        · exact absurd h27 (by first | omega | exact h4 | exact fun q => h4 q)
      · refine lv_aload_n (pc := 16) E.1 E.2 dX8_projectOf_16 rfl (lv_at hl 1 rfl) ?_
        refine lv_iload_n (pc := 17) E.1 E.2 dX8_projectOf_17 rfl (lv_at hl 0 rfl) ?_
        refine z_rVi (pc := 18) (As := [.int (iI g)]) (rest := []) E hml hown hts (mX8_parentOf lL G o μ σ φ κ β ω g (by omega)) (cwV 1 hts gX8_projectOf_X8_parentOf rfl rfl rfl vdX8_parentOf ⟨Nat.le_of_ble_eq_true rfl, Nat.le_of_ble_eq_true rfl⟩) (oB.recv hK hM.1 rfl) hM hK rfl hl.1 rfl dX8_projectOf_18 hcs (by decide) ?_
        refine lv_istore_n (pc := 21) (lv' := [(2, .int (iI (σ (69 + g)))), (0, .ref (o 0)), (1, .int (iI f))]) E.1 E.2 dX8_projectOf_21 rfl hl (by decide) rfl (fun ls hl => ?_)
        refine lv_goto (pc := 22) (tgt := 2) E.1 E.2 dX8_projectOf_22 (by decide) ?_
        exact ihL2 (σ (69 + g)) (hI.fp hg2.1 hg2.2) (by rw [← he, pjF_s hI.cs hg2.1 hg2.2, if_pos h13]) (by have h1 := dpF_s hI.cs hg2.1 hg2.2; have h2 := dpF_bd σ (σ (69 + g)); omega) ls (lv_sub hl [0, 1, 2] rfl)
set_option maxHeartbeats 4000000 in
set_option maxRecDepth 100000 in
theorem mX8_isBelow (lL : Launch) (G : GG) (o : Nat → Nat) (μ σ φ κ β ω : Int → Int) (f : Int) (a : Int) (hI : In σ) (hf : fo σ f) (ha : 0 ≤ a ∧ a < σ 2) : Met lL yX8_isBelow wsX8_isBelow ({ frames := 1, cells := 0, slots := 0, locals := 21 } : Room) (va_Pc [.ref (o 0), .int (iI f), .int (iI a)] (fun U => W8 G o (mV o μ) σ φ κ β ω U.heap ∧ KK G U)) (vp_Si (fun r => r = (iI (if blF σ f a = true then 1 else 0)))) 0 0 (fun _ => False) := by
  refine z_met (P := (fun H : Heap => W8 G o (mV o μ) σ φ κ β ω H)) (by decide) rfl (Nat.le_of_ble_eq_true rfl) (fun pp ee ss mm below meth cC E hr hml hown hts hlocks hM hK ls hl => ?_)
  have hl : lv_has ls 4 [(0, .ref (o 0)), (1, .int (iI f)), (2, .int (iI a))] := hl
  have hcs : 0 ≤ (({ frames := 1, cells := 0, slots := 0, locals := 21 } : Room)).cells ∧ 0 ≤ (({ frames := 1, cells := 0, slots := 0, locals := 21 } : Room)).slots := ⟨Nat.zero_le _, Nat.zero_le _⟩
  have hF := hI.F
  have hMm := hI.M
  have hGn := hI.Gn
  refine lv_iload_n (pc := 0) E.1 E.2 dX8_isBelow_0 rfl (lv_at hl 1 rfl) ?_
  refine lv_istore_n (pc := 1) (lv' := [(3, .int (iI f)), (0, .ref (o 0)), (1, .int (iI f)), (2, .int (iI a))]) E.1 E.2 dX8_isBelow_1 rfl hl (by decide) rfl (fun ls hl => ?_)
  suffices L2 : ∀ (nf : Nat), ∀ (g : Int), (fo σ g) → (blF σ g a = blF σ f a) → ((dpF σ g).toNat) < nf → ∀ ls : Array Slot, lv_has ls 4 [(3, .int (iI g)), (0, .ref (o 0)), (1, .int (iI f)), (2, .int (iI a))] → W pp lL ee ({ frames := 1, cells := 0, slots := 0, locals := 21 } : Room) ss mm [.ref (o 0), .int (iI f), .int (iI a)].toArray below meth cC ss.heap [] 0 0 (MQ below (vp_Si (fun r => r = (iI (if blF σ f a = true then 1 else 0)))) [.ref (o 0), .int (iI f), .int (iI a)].toArray ss 0 0 (fun _ => False)) (F0 mm 2 ls []) from L2 _ f hf rfl (Nat.lt_succ_self _) ls (lv_sub hl [0, 1, 2, 3] rfl)
  intro nfL2
  induction nfL2 with
  | zero => intro g hg he hmzL2; exact absurd hmzL2 (Nat.not_lt_zero _)
  | succ nfL2 ihL2 =>
    intro g hg he hmzL2 ls hl
    have hgr : -1 ≤ g ∧ g < σ 2 := by rcases hg with q | q <;> omega
    refine lv_iload_n (pc := 2) E.1 E.2 dX8_isBelow_2 rfl (lv_at hl 0 rfl) ?_
    refine z_iconst (pc := 3) E dX8_isBelow_3 ?_
    refine z_icmp_eq (pc := 4) (tgt := 21) E ⟨by omega, by omega⟩ (by decide) dX8_isBelow_4 (by decide) (fun h4 => ?_) (fun h4 => ?_)
    · refine lv_iload_n (pc := 21) E.1 E.2 dX8_isBelow_21 rfl (lv_at hl 0 rfl) ?_
      refine lv_iload_n (pc := 22) E.1 E.2 dX8_isBelow_22 rfl (lv_at hl 3 rfl) ?_
      refine z_icmp_ne (pc := 23) (tgt := 30) E ⟨by omega, by omega⟩ ⟨by omega, by omega⟩ dX8_isBelow_23 (by decide) (fun h23 => ?_) (fun h23 => ?_)
      · refine z_iconst (pc := 30) E dX8_isBelow_30 ?_
        exact z_retRz E hr rfl (congrArg iI (by first | (rw [← he, h4, blF_n]; rfl) | (rw [← he, blF_s hI.cs hg2.1 hg2.2, if_pos h9]; rfl) | omega)) hlocks dX8_isBelow_31
      · refine z_iconst (pc := 26) E dX8_isBelow_26 ?_
        refine lv_goto (pc := 27) (tgt := 31) E.1 E.2 dX8_isBelow_27 (by decide) ?_
        exact z_retRz E hr rfl (congrArg iI (by first | (rw [← he, h4, blF_n]; rfl) | (rw [← he, blF_s hI.cs hg2.1 hg2.2, if_pos h9]; rfl) | omega)) hlocks dX8_isBelow_31
    · have hg2 : 0 ≤ g ∧ g < σ 2 := by rcases hg with q | q; exact absurd q h4; exact q
      refine lv_iload_n (pc := 7) E.1 E.2 dX8_isBelow_7 rfl (lv_at hl 0 rfl) ?_
      refine lv_iload_n (pc := 8) E.1 E.2 dX8_isBelow_8 rfl (lv_at hl 3 rfl) ?_
      refine z_icmp_eq (pc := 9) (tgt := 21) E ⟨by omega, by omega⟩ ⟨by omega, by omega⟩ dX8_isBelow_9 (by decide) (fun h9 => ?_) (fun h9 => ?_)
      · refine lv_iload_n (pc := 21) E.1 E.2 dX8_isBelow_21 rfl (lv_at hl 0 rfl) ?_
        refine lv_iload_n (pc := 22) E.1 E.2 dX8_isBelow_22 rfl (lv_at hl 3 rfl) ?_
        refine z_icmp_ne (pc := 23) (tgt := 30) E ⟨by omega, by omega⟩ ⟨by omega, by omega⟩ dX8_isBelow_23 (by decide) (fun h23 => ?_) (fun h23 => ?_)
        · exact absurd h23 (by first | omega | exact h9 | exact fun q => h9 q)
        · refine z_iconst (pc := 26) E dX8_isBelow_26 ?_
          refine lv_goto (pc := 27) (tgt := 31) E.1 E.2 dX8_isBelow_27 (by decide) ?_
          exact z_retRz E hr rfl (congrArg iI (by first | (rw [← he, h4, blF_n]; rfl) | (rw [← he, blF_s hI.cs hg2.1 hg2.2, if_pos h9]; rfl) | omega)) hlocks dX8_isBelow_31
      · refine lv_aload_n (pc := 12) E.1 E.2 dX8_isBelow_12 rfl (lv_at hl 1 rfl) ?_
        refine lv_iload_n (pc := 13) E.1 E.2 dX8_isBelow_13 rfl (lv_at hl 0 rfl) ?_
        refine z_rVi (pc := 14) (As := [.int (iI g)]) (rest := []) E hml hown hts (mX8_parentOf lL G o μ σ φ κ β ω g (by omega)) (cwV 1 hts gX8_isBelow_X8_parentOf rfl rfl rfl vdX8_parentOf ⟨Nat.le_of_ble_eq_true rfl, Nat.le_of_ble_eq_true rfl⟩) (oB.recv hK hM.1 rfl) hM hK rfl hl.1 rfl dX8_isBelow_14 hcs (by decide) ?_
        refine lv_istore_n (pc := 17) (lv' := [(3, .int (iI (σ (69 + g)))), (0, .ref (o 0)), (1, .int (iI f)), (2, .int (iI a))]) E.1 E.2 dX8_isBelow_17 rfl hl (by decide) rfl (fun ls hl => ?_)
        refine lv_goto (pc := 18) (tgt := 2) E.1 E.2 dX8_isBelow_18 (by decide) ?_
        exact ihL2 (σ (69 + g)) (hI.fp hg2.1 hg2.2) (by rw [← he, blF_s hI.cs hg2.1 hg2.2, if_neg h9]) (by have h1 := dpF_s hI.cs hg2.1 hg2.2; have h2 := dpF_bd σ (σ (69 + g)); omega) ls (lv_sub hl [0, 1, 2, 3] rfl)
set_option maxHeartbeats 4000000 in
set_option maxRecDepth 100000 in
theorem mX8_isOpenTo (lL : Launch) (G : GG) (o : Nat → Nat) (μ σ φ κ β ω : Int → Int) (f : Int) (a : Int) (hI : In σ) (hf : fo σ f) (ha : 0 ≤ a ∧ a < σ 2) : Met lL yX8_isOpenTo wsX8_isOpenTo ({ frames := 1, cells := 0, slots := 0, locals := 21 } : Room) (va_Pc [.ref (o 0), .int (iI f), .int (iI a)] (fun U => W8 G o (mV o μ) σ φ κ β ω U.heap ∧ KK G U)) (vp_Si (fun r => r = (iI (if olF σ f a = true then 1 else 0)))) 0 0 (fun _ => False) := by
  refine z_met (P := (fun H : Heap => W8 G o (mV o μ) σ φ κ β ω H)) (by decide) rfl (Nat.le_of_ble_eq_true rfl) (fun pp ee ss mm below meth cC E hr hml hown hts hlocks hM hK ls hl => ?_)
  have hl : lv_has ls 4 [(0, .ref (o 0)), (1, .int (iI f)), (2, .int (iI a))] := hl
  have hcs : 0 ≤ (({ frames := 1, cells := 0, slots := 0, locals := 21 } : Room)).cells ∧ 0 ≤ (({ frames := 1, cells := 0, slots := 0, locals := 21 } : Room)).slots := ⟨Nat.zero_le _, Nat.zero_le _⟩
  have hF := hI.F
  have hMm := hI.M
  have hGn := hI.Gn
  refine lv_iload_n (pc := 0) E.1 E.2 dX8_isOpenTo_0 rfl (lv_at hl 1 rfl) ?_
  refine lv_istore_n (pc := 1) (lv' := [(3, .int (iI f)), (0, .ref (o 0)), (1, .int (iI f)), (2, .int (iI a))]) E.1 E.2 dX8_isOpenTo_1 rfl hl (by decide) rfl (fun ls hl => ?_)
  suffices L2 : ∀ (nf : Nat), ∀ (g : Int), (fo σ g) → (olF σ g a = olF σ f a) → ((dpF σ g).toNat) < nf → ∀ ls : Array Slot, lv_has ls 4 [(3, .int (iI g)), (0, .ref (o 0)), (1, .int (iI f)), (2, .int (iI a))] → W pp lL ee ({ frames := 1, cells := 0, slots := 0, locals := 21 } : Room) ss mm [.ref (o 0), .int (iI f), .int (iI a)].toArray below meth cC ss.heap [] 0 0 (MQ below (vp_Si (fun r => r = (iI (if olF σ f a = true then 1 else 0)))) [.ref (o 0), .int (iI f), .int (iI a)].toArray ss 0 0 (fun _ => False)) (F0 mm 2 ls []) from L2 _ f hf rfl (Nat.lt_succ_self _) ls (lv_sub hl [0, 1, 2, 3] rfl)
  intro nfL2
  induction nfL2 with
  | zero => intro g hg he hmzL2; exact absurd hmzL2 (Nat.not_lt_zero _)
  | succ nfL2 ihL2 =>
    intro g hg he hmzL2 ls hl
    have hgr : -1 ≤ g ∧ g < σ 2 := by rcases hg with q | q <;> omega
    refine lv_iload_n (pc := 2) E.1 E.2 dX8_isOpenTo_2 rfl (lv_at hl 0 rfl) ?_
    refine z_iconst (pc := 3) E dX8_isOpenTo_3 ?_
    refine z_icmp_eq (pc := 4) (tgt := 30) E ⟨by omega, by omega⟩ (by decide) dX8_isOpenTo_4 (by decide) (fun h4 => ?_) (fun h4 => ?_)
    · refine lv_iload_n (pc := 30) E.1 E.2 dX8_isOpenTo_30 rfl (lv_at hl 0 rfl) ?_
      refine lv_iload_n (pc := 31) E.1 E.2 dX8_isOpenTo_31 rfl (lv_at hl 3 rfl) ?_
      refine z_icmp_ne (pc := 32) (tgt := 39) E ⟨by omega, by omega⟩ ⟨by omega, by omega⟩ dX8_isOpenTo_32 (by decide) (fun h32 => ?_) (fun h32 => ?_)
      · refine z_iconst (pc := 39) E dX8_isOpenTo_39 ?_
        exact z_retRz E hr rfl (congrArg iI (by first | (rw [← he, h4, olF_n]; rfl) | (rw [← he, olF_s hI.cs hg2.1 hg2.2, if_pos h9]; rfl) | (rw [← he, olF_s hI.cs hg2.1 hg2.2, if_neg h9, if_neg h18]; rfl) | omega)) hlocks dX8_isOpenTo_40
      · refine z_iconst (pc := 35) E dX8_isOpenTo_35 ?_
        refine lv_goto (pc := 36) (tgt := 40) E.1 E.2 dX8_isOpenTo_36 (by decide) ?_
        exact z_retRz E hr rfl (congrArg iI (by first | (rw [← he, h4, olF_n]; rfl) | (rw [← he, olF_s hI.cs hg2.1 hg2.2, if_pos h9]; rfl) | (rw [← he, olF_s hI.cs hg2.1 hg2.2, if_neg h9, if_neg h18]; rfl) | omega)) hlocks dX8_isOpenTo_40
    · have hg2 : 0 ≤ g ∧ g < σ 2 := by rcases hg with q | q; exact absurd q h4; exact q
      refine lv_iload_n (pc := 7) E.1 E.2 dX8_isOpenTo_7 rfl (lv_at hl 0 rfl) ?_
      refine lv_iload_n (pc := 8) E.1 E.2 dX8_isOpenTo_8 rfl (lv_at hl 3 rfl) ?_
      refine z_icmp_eq (pc := 9) (tgt := 30) E ⟨by omega, by omega⟩ ⟨by omega, by omega⟩ dX8_isOpenTo_9 (by decide) (fun h9 => ?_) (fun h9 => ?_)
      · refine lv_iload_n (pc := 30) E.1 E.2 dX8_isOpenTo_30 rfl (lv_at hl 0 rfl) ?_
        refine lv_iload_n (pc := 31) E.1 E.2 dX8_isOpenTo_31 rfl (lv_at hl 3 rfl) ?_
        refine z_icmp_ne (pc := 32) (tgt := 39) E ⟨by omega, by omega⟩ ⟨by omega, by omega⟩ dX8_isOpenTo_32 (by decide) (fun h32 => ?_) (fun h32 => ?_)
        · exact absurd h32 (by first | omega | exact h9 | exact fun q => h9 q)
        · refine z_iconst (pc := 35) E dX8_isOpenTo_35 ?_
          refine lv_goto (pc := 36) (tgt := 40) E.1 E.2 dX8_isOpenTo_36 (by decide) ?_
          exact z_retRz E hr rfl (congrArg iI (by first | (rw [← he, h4, olF_n]; rfl) | (rw [← he, olF_s hI.cs hg2.1 hg2.2, if_pos h9]; rfl) | (rw [← he, olF_s hI.cs hg2.1 hg2.2, if_neg h9, if_neg h18]; rfl) | omega)) hlocks dX8_isOpenTo_40
      · refine lv_aload_n (pc := 12) E.1 E.2 dX8_isOpenTo_12 rfl (lv_at hl 1 rfl) ?_
        refine lv_iload_n (pc := 13) E.1 E.2 dX8_isOpenTo_13 rfl (lv_at hl 0 rfl) ?_
        refine z_rVi (pc := 14) (As := [.int (iI g)]) (rest := []) E hml hown hts (mX8_tagOf lL G o μ σ φ κ β ω g (by omega)) (cwV 1 hts gX8_isOpenTo_X8_tagOf rfl rfl rfl vdX8_tagOf ⟨Nat.le_of_ble_eq_true rfl, Nat.le_of_ble_eq_true rfl⟩) (oB.recv hK hM.1 rfl) hM hK rfl hl.1 rfl dX8_isOpenTo_14 hcs (by decide) ?_
        have ht := hI.tag hg2.1 hg2.2
        refine z_iconst (pc := 17) E dX8_isOpenTo_17 ?_
        refine z_icmp_ne (pc := 18) (tgt := 30) E ⟨by omega, by omega⟩ (by decide) dX8_isOpenTo_18 (by decide) (fun h18 => ?_) (fun h18 => ?_)
        · refine lv_iload_n (pc := 30) E.1 E.2 dX8_isOpenTo_30 rfl (lv_at hl 0 rfl) ?_
          refine lv_iload_n (pc := 31) E.1 E.2 dX8_isOpenTo_31 rfl (lv_at hl 3 rfl) ?_
          refine z_icmp_ne (pc := 32) (tgt := 39) E ⟨by omega, by omega⟩ ⟨by omega, by omega⟩ dX8_isOpenTo_32 (by decide) (fun h32 => ?_) (fun h32 => ?_)
          · refine z_iconst (pc := 39) E dX8_isOpenTo_39 ?_
            exact z_retRz E hr rfl (congrArg iI (by first | (rw [← he, h4, olF_n]; rfl) | (rw [← he, olF_s hI.cs hg2.1 hg2.2, if_pos h9]; rfl) | (rw [← he, olF_s hI.cs hg2.1 hg2.2, if_neg h9, if_neg h18]; rfl) | omega)) hlocks dX8_isOpenTo_40
          · exact absurd h32 (by first | omega | exact h9 | exact fun q => h9 q)
        · refine lv_aload_n (pc := 21) E.1 E.2 dX8_isOpenTo_21 rfl (lv_at hl 1 rfl) ?_
          refine lv_iload_n (pc := 22) E.1 E.2 dX8_isOpenTo_22 rfl (lv_at hl 0 rfl) ?_
          refine z_rVi (pc := 23) (As := [.int (iI g)]) (rest := []) E hml hown hts (mX8_parentOf lL G o μ σ φ κ β ω g (by omega)) (cwV 1 hts gX8_isOpenTo_X8_parentOf rfl rfl rfl vdX8_parentOf ⟨Nat.le_of_ble_eq_true rfl, Nat.le_of_ble_eq_true rfl⟩) (oB.recv hK hM.1 rfl) hM hK rfl hl.1 rfl dX8_isOpenTo_23 hcs (by decide) ?_
          refine lv_istore_n (pc := 26) (lv' := [(3, .int (iI (σ (69 + g)))), (0, .ref (o 0)), (1, .int (iI f)), (2, .int (iI a))]) E.1 E.2 dX8_isOpenTo_26 rfl hl (by decide) rfl (fun ls hl => ?_)
          refine lv_goto (pc := 27) (tgt := 2) E.1 E.2 dX8_isOpenTo_27 (by decide) ?_
          exact ihL2 (σ (69 + g)) (hI.fp hg2.1 hg2.2) (by rw [← he, olF_s hI.cs hg2.1 hg2.2, if_neg h9, if_pos h18]) (by have h1 := dpF_s hI.cs hg2.1 hg2.2; have h2 := dpF_bd σ (σ (69 + g)); omega) ls (lv_sub hl [0, 1, 2, 3] rfl)
set_option maxHeartbeats 4000000 in
set_option maxRecDepth 100000 in
theorem mX8_depthOf (lL : Launch) (G : GG) (o : Nat → Nat) (μ σ φ κ β ω : Int → Int) (f : Int) (hI : In σ) (hf : 0 ≤ f ∧ f < σ 2) : Met lL yX8_depthOf wsX8_depthOf ({ frames := 1, cells := 0, slots := 0, locals := 21 } : Room) (va_Pc [.ref (o 0), .int (iI f)] (fun U => W8 G o (mV o μ) σ φ κ β ω U.heap ∧ KK G U)) (vp_Si (fun r => r = (iI (dpF σ (σ (69 + f)))))) 0 0 (fun _ => False) := by
  refine z_met (P := (fun H : Heap => W8 G o (mV o μ) σ φ κ β ω H)) (by decide) rfl (Nat.le_of_ble_eq_true rfl) (fun pp ee ss mm below meth cC E hr hml hown hts hlocks hM hK ls hl => ?_)
  have hl : lv_has ls 4 [(0, .ref (o 0)), (1, .int (iI f))] := hl
  have hcs : 0 ≤ (({ frames := 1, cells := 0, slots := 0, locals := 21 } : Room)).cells ∧ 0 ≤ (({ frames := 1, cells := 0, slots := 0, locals := 21 } : Room)).slots := ⟨Nat.zero_le _, Nat.zero_le _⟩
  have hF := hI.F
  have hMm := hI.M
  have hGn := hI.Gn
  refine z_iconst (pc := 0) E dX8_depthOf_0 ?_
  refine lv_istore_n (pc := 1) (lv' := [(2, .int (iI 0)), (0, .ref (o 0)), (1, .int (iI f))]) E.1 E.2 dX8_depthOf_1 rfl hl (by decide) rfl (fun ls hl => ?_)
  refine lv_aload_n (pc := 2) E.1 E.2 dX8_depthOf_2 rfl (lv_at hl 1 rfl) ?_
  refine lv_iload_n (pc := 3) E.1 E.2 dX8_depthOf_3 rfl (lv_at hl 2 rfl) ?_
  refine z_rVi (pc := 4) (As := [.int (iI f)]) (rest := []) E hml hown hts (mX8_parentOf lL G o μ σ φ κ β ω f (by omega)) (cwV 1 hts gX8_depthOf_X8_parentOf rfl rfl rfl vdX8_parentOf ⟨Nat.le_of_ble_eq_true rfl, Nat.le_of_ble_eq_true rfl⟩) (oB.recv hK hM.1 rfl) hM hK rfl hl.1 rfl dX8_depthOf_4 hcs (by decide) ?_
  refine lv_istore_n (pc := 7) (lv' := [(3, .int (iI (σ (69 + f)))), (2, .int (iI 0)), (0, .ref (o 0)), (1, .int (iI f))]) E.1 E.2 dX8_depthOf_7 rfl hl (by decide) rfl (fun ls hl => ?_)
  suffices L8 : ∀ (nf : Nat), ∀ (k g : Int), (fo σ g) → (k + dpF σ g = dpF σ (σ (69 + f))) → (0 ≤ k) → ((dpF σ g).toNat) < nf → ∀ ls : Array Slot, lv_has ls 4 [(3, .int (iI g)), (2, .int (iI k)), (0, .ref (o 0)), (1, .int (iI f))] → W pp lL ee ({ frames := 1, cells := 0, slots := 0, locals := 21 } : Room) ss mm [.ref (o 0), .int (iI f)].toArray below meth cC ss.heap [] 0 0 (MQ below (vp_Si (fun r => r = (iI (dpF σ (σ (69 + f)))))) [.ref (o 0), .int (iI f)].toArray ss 0 0 (fun _ => False)) (F0 mm 8 ls []) from L8 _ 0 (σ (69 + f)) (hI.fp hf.1 hf.2) (by omega) (by omega) (Nat.lt_succ_self _) ls (lv_sub hl [0, 1, 2, 3] rfl)
  intro nfL8
  induction nfL8 with
  | zero => intro k g hg he hk hmzL8; exact absurd hmzL8 (Nat.not_lt_zero _)
  | succ nfL8 ihL8 =>
    intro k g hg he hk hmzL8 ls hl
    have hgr : -1 ≤ g ∧ g < σ 2 := by rcases hg with q | q <;> omega
    refine lv_iload_n (pc := 8) E.1 E.2 dX8_depthOf_8 rfl (lv_at hl 0 rfl) ?_
    refine z_iconst (pc := 9) E dX8_depthOf_9 ?_
    refine z_icmp_eq (pc := 10) (tgt := 25) E ⟨by omega, by omega⟩ (by decide) dX8_depthOf_10 (by decide) (fun h10 => ?_) (fun h10 => ?_)
    · refine lv_iload_n (pc := 25) E.1 E.2 dX8_depthOf_25 rfl (lv_at hl 1 rfl) ?_
      exact z_retRi E hr (congrArg iI (by (rw [← he, h10, dpF_n]; omega))) hlocks dX8_depthOf_26
    · have hg2 : 0 ≤ g ∧ g < σ 2 := by rcases hg with q | q; exact absurd q h10; exact q
      refine lv_iinc (pc := 13) (v := iI (k + 1)) (lv' := [(2, .int (iI (k + 1))), (3, .int (iI g)), (0, .ref (o 0)), (1, .int (iI f))]) E.1 E.2 dX8_depthOf_13 hl (k := 1) rfl (iI_add _ _) (by decide) rfl (fun ls hl => ?_)
      refine lv_aload_n (pc := 16) E.1 E.2 dX8_depthOf_16 rfl (lv_at hl 2 rfl) ?_
      refine lv_iload_n (pc := 17) E.1 E.2 dX8_depthOf_17 rfl (lv_at hl 1 rfl) ?_
      refine z_rVi (pc := 18) (As := [.int (iI g)]) (rest := []) E hml hown hts (mX8_parentOf lL G o μ σ φ κ β ω g (by omega)) (cwV 1 hts gX8_depthOf_X8_parentOf rfl rfl rfl vdX8_parentOf ⟨Nat.le_of_ble_eq_true rfl, Nat.le_of_ble_eq_true rfl⟩) (oB.recv hK hM.1 rfl) hM hK rfl hl.1 rfl dX8_depthOf_18 hcs (by decide) ?_
      refine lv_istore_n (pc := 21) (lv' := [(3, .int (iI (σ (69 + g)))), (2, .int (iI (k + 1))), (0, .ref (o 0)), (1, .int (iI f))]) E.1 E.2 dX8_depthOf_21 rfl hl (by decide) rfl (fun ls hl => ?_)
      refine lv_goto (pc := 22) (tgt := 8) E.1 E.2 dX8_depthOf_22 (by decide) ?_
      exact ihL8 (k + 1) (σ (69 + g)) (hI.fp hg2.1 hg2.2) (by have h1 := dpF_s hI.cs hg2.1 hg2.2; omega) (by omega) (by have h1 := dpF_s hI.cs hg2.1 hg2.2; have h2 := dpF_bd σ (σ (69 + g)); omega) ls (lv_sub hl [0, 1, 2, 3] rfl)
