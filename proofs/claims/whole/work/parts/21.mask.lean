theorem vdX8_childrenOf : yX8_childrenOf.cls = RX8 ∧ yX8_childrenOf.cls ≠ "java/lang/invoke/MethodHandle" ∧ yX8_childrenOf.cls ≠ "java/lang/invoke/VarHandle" ∧ (parseMethodDescriptor yX8_childrenOf.desc).map (fun d => d.parameters.length) = some 1 := by decide +kernel
theorem vdX8_filesIn : yX8_filesIn.cls = RX8 ∧ yX8_filesIn.cls ≠ "java/lang/invoke/MethodHandle" ∧ yX8_filesIn.cls ≠ "java/lang/invoke/VarHandle" ∧ (parseMethodDescriptor yX8_filesIn.desc).map (fun d => d.parameters.length) = some 1 := by decide +kernel
theorem vdX8_foldersBelow : yX8_foldersBelow.cls = RX8 ∧ yX8_foldersBelow.cls ≠ "java/lang/invoke/MethodHandle" ∧ yX8_foldersBelow.cls ≠ "java/lang/invoke/VarHandle" ∧ (parseMethodDescriptor yX8_foldersBelow.desc).map (fun d => d.parameters.length) = some 1 := by decide +kernel
theorem vdX8_taggedNow : yX8_taggedNow.cls = RX8 ∧ yX8_taggedNow.cls ≠ "java/lang/invoke/MethodHandle" ∧ yX8_taggedNow.cls ≠ "java/lang/invoke/VarHandle" ∧ (parseMethodDescriptor yX8_taggedNow.desc).map (fun d => d.parameters.length) = some 0 := by decide +kernel
theorem vdX8_withoutProject : yX8_withoutProject.cls = RX8 ∧ yX8_withoutProject.cls ≠ "java/lang/invoke/MethodHandle" ∧ yX8_withoutProject.cls ≠ "java/lang/invoke/VarHandle" ∧ (parseMethodDescriptor yX8_withoutProject.desc).map (fun d => d.parameters.length) = some 0 := by decide +kernel
theorem vdX8_countedOf : yX8_countedOf.cls = RX8 ∧ yX8_countedOf.cls ≠ "java/lang/invoke/MethodHandle" ∧ yX8_countedOf.cls ≠ "java/lang/invoke/VarHandle" ∧ (parseMethodDescriptor yX8_countedOf.desc).map (fun d => d.parameters.length) = some 2 := by decide +kernel
theorem vdX8_filesBelow : yX8_filesBelow.cls = RX8 ∧ yX8_filesBelow.cls ≠ "java/lang/invoke/MethodHandle" ∧ yX8_filesBelow.cls ≠ "java/lang/invoke/VarHandle" ∧ (parseMethodDescriptor yX8_filesBelow.desc).map (fun d => d.parameters.length) = some 2 := by decide +kernel
theorem vdX8_openOf : yX8_openOf.cls = RX8 ∧ yX8_openOf.cls ≠ "java/lang/invoke/MethodHandle" ∧ yX8_openOf.cls ≠ "java/lang/invoke/VarHandle" ∧ (parseMethodDescriptor yX8_openOf.desc).map (fun d => d.parameters.length) = some 2 := by decide +kernel
theorem vdX8_giftsOf : yX8_giftsOf.cls = RX8 ∧ yX8_giftsOf.cls ≠ "java/lang/invoke/MethodHandle" ∧ yX8_giftsOf.cls ≠ "java/lang/invoke/VarHandle" ∧ (parseMethodDescriptor yX8_giftsOf.desc).map (fun d => d.parameters.length) = some 1 := by decide +kernel
theorem vdX8_limitOf : yX8_limitOf.cls = RX8 ∧ yX8_limitOf.cls ≠ "java/lang/invoke/MethodHandle" ∧ yX8_limitOf.cls ≠ "java/lang/invoke/VarHandle" ∧ (parseMethodDescriptor yX8_limitOf.desc).map (fun d => d.parameters.length) = some 3 := by decide +kernel
theorem vdX8_usedOf : yX8_usedOf.cls = RX8 ∧ yX8_usedOf.cls ≠ "java/lang/invoke/MethodHandle" ∧ yX8_usedOf.cls ≠ "java/lang/invoke/VarHandle" ∧ (parseMethodDescriptor yX8_usedOf.desc).map (fun d => d.parameters.length) = some 2 := by decide +kernel
theorem vdX8_doesRun : yX8_doesRun.cls = RX8 ∧ yX8_doesRun.cls ≠ "java/lang/invoke/MethodHandle" ∧ yX8_doesRun.cls ≠ "java/lang/invoke/VarHandle" ∧ (parseMethodDescriptor yX8_doesRun.desc).map (fun d => d.parameters.length) = some 2 := by decide +kernel
theorem vdX8_isOver : yX8_isOver.cls = RX8 ∧ yX8_isOver.cls ≠ "java/lang/invoke/MethodHandle" ∧ yX8_isOver.cls ≠ "java/lang/invoke/VarHandle" ∧ (parseMethodDescriptor yX8_isOver.desc).map (fun d => d.parameters.length) = some 2 := by decide +kernel
theorem vdX8_isTooMuch : yX8_isTooMuch.cls = RX8 ∧ yX8_isTooMuch.cls ≠ "java/lang/invoke/MethodHandle" ∧ yX8_isTooMuch.cls ≠ "java/lang/invoke/VarHandle" ∧ (parseMethodDescriptor yX8_isTooMuch.desc).map (fun d => d.parameters.length) = some 3 := by decide +kernel
theorem vdX8_reasonFor : yX8_reasonFor.cls = RX8 ∧ yX8_reasonFor.cls ≠ "java/lang/invoke/MethodHandle" ∧ yX8_reasonFor.cls ≠ "java/lang/invoke/VarHandle" ∧ (parseMethodDescriptor yX8_reasonFor.desc).map (fun d => d.parameters.length) = some 3 := by decide +kernel
theorem vdX8_stateOf : yX8_stateOf.cls = RX8 ∧ yX8_stateOf.cls ≠ "java/lang/invoke/MethodHandle" ∧ yX8_stateOf.cls ≠ "java/lang/invoke/VarHandle" ∧ (parseMethodDescriptor yX8_stateOf.desc).map (fun d => d.parameters.length) = some 2 := by decide +kernel
set_option maxHeartbeats 4000000 in
set_option maxRecDepth 100000 in
theorem mX8_childrenOf (lL : Launch) (G : GG) (o : Nat → Nat) (μ σ φ κ β ω : Int → Int) (f : Int) (hI : In σ) (hf : -2147483648 ≤ f ∧ f < 2147483648) : Met lL yX8_childrenOf wsX8_childrenOf ({ frames := 1, cells := 0, slots := 0, locals := 21 } : Room) (va_Pc [.ref (o 0), .int (iI f)] (fun U => W8 G o (mV o μ) σ φ κ β ω U.heap ∧ KK G U)) (vp_Si (fun r => r = (iI (biS σ f)))) 0 0 (fun _ => False) := by
  refine z_met (P := (fun H : Heap => W8 G o (mV o μ) σ φ κ β ω H)) (by decide) rfl (Nat.le_of_ble_eq_true rfl) (fun pp ee ss mm below meth cC E hr hml hown hts hlocks hM hK ls hl => ?_)
  have hl : lv_has ls 4 [(0, .ref (o 0)), (1, .int (iI f))] := hl
  have hcs : 0 ≤ (({ frames := 1, cells := 0, slots := 0, locals := 21 } : Room)).cells ∧ 0 ≤ (({ frames := 1, cells := 0, slots := 0, locals := 21 } : Room)).slots := ⟨Nat.zero_le _, Nat.zero_le _⟩
  have hin8 : ∀ w ∈ wsX80, w ∈ wsX8_childrenOf := fun w h => List.mem_cons_of_mem _ (List.mem_append_right _ (h))
  have hF := hI.F
  have hMm := hI.M
  have hGn := hI.Gn
  refine z_iconst (pc := 0) E dX8_childrenOf_0 ?_
  refine lv_istore_n (pc := 1) (lv' := [(2, .int (iI 0)), (0, .ref (o 0)), (1, .int (iI f))]) E.1 E.2 dX8_childrenOf_1 rfl hl (by decide) rfl (fun ls hl => ?_)
  refine z_iconst (pc := 2) E dX8_childrenOf_2 ?_
  refine lv_istore_n (pc := 3) (lv' := [(3, .int (iI 0)), (2, .int (iI 0)), (0, .ref (o 0)), (1, .int (iI f))]) E.1 E.2 dX8_childrenOf_3 rfl hl (by decide) rfl (fun ls hl => ?_)
  suffices L4 : ∀ (nf : Nat), ∀ (a k : Int), (0 ≤ k ∧ k ≤ σ 2) → (a = cn (biP σ f) k.toNat) → ((σ 2 - k).toNat) < nf → ∀ ls : Array Slot, lv_has ls 4 [(3, .int (iI k)), (2, .int (iI a)), (0, .ref (o 0)), (1, .int (iI f))] → W pp lL ee ({ frames := 1, cells := 0, slots := 0, locals := 21 } : Room) ss mm [.ref (o 0), .int (iI f)].toArray below meth cC ss.heap [] 0 0 (MQ below (vp_Si (fun r => r = (iI (biS σ f)))) [.ref (o 0), .int (iI f)].toArray ss 0 0 (fun _ => False)) (F0 mm 4 ls []) from L4 _ 0 0 (by omega) rfl (Nat.lt_succ_self _) ls (lv_sub hl [0, 1, 2, 3] rfl)
  intro nfL4
  induction nfL4 with
  | zero => intro a k hk hn hmzL4; exact absurd hmzL4 (Nat.not_lt_zero _)
  | succ nfL4 ihL4 =>
    intro a k hk hn hmzL4 ls hl
    refine lv_iload_n (pc := 4) E.1 E.2 dX8_childrenOf_4 rfl (lv_at hl 0 rfl) ?_
    refine z_i2l (pc := 5) E ⟨by omega, by omega⟩ dX8_childrenOf_5 ?_
    refine lv_aload_n (pc := 6) E.1 E.2 dX8_childrenOf_6 rfl (lv_at hl 2 rfl) ?_
    refine g8_0 (pc := 7) E hts hin8 hown hK hM.1 (hts _ (List.mem_of_getElem? (i := 1) rfl)) dX8_childrenOf_7 ?_
    refine z_iconst (pc := 10) E dX8_childrenOf_10 ?_
    refine z_laload (pc := 11) E hK hM.2.1 ⟨by omega, by omega⟩ (by decide) dX8_childrenOf_11 ?_
    have hb11 := hI.bd 2
    refine z_lcmp_ge (pc := 12) (tgt := 39) E ⟨by omega, by omega⟩ ⟨by omega, by omega⟩ dX8_childrenOf_12 dX8_childrenOf_13 (by decide) (fun h12 => ?_) (fun h12 => ?_)
    · refine lv_iload_n (pc := 39) E.1 E.2 dX8_childrenOf_39 rfl (lv_at hl 1 rfl) ?_
      exact z_retRi E hr (congrArg iI (by (rw [hn]; unfold biS; congr 2; omega))) hlocks dX8_childrenOf_40
    · refine lv_iload_n (pc := 16) E.1 E.2 dX8_childrenOf_16 rfl (lv_at hl 1 rfl) ?_
      refine lv_aload_n (pc := 17) E.1 E.2 dX8_childrenOf_17 rfl (lv_at hl 2 rfl) ?_
      refine lv_iload_n (pc := 18) E.1 E.2 dX8_childrenOf_18 rfl (lv_at hl 0 rfl) ?_
      refine z_rVi (pc := 19) (As := [.int (iI k)]) (rest := [.int (iI a)]) E hml hown hts (mX8_parentOf lL G o μ σ φ κ β ω k (by omega)) (cwV 1 hts gX8_childrenOf_X8_parentOf rfl rfl rfl vdX8_parentOf ⟨Nat.le_of_ble_eq_true rfl, Nat.le_of_ble_eq_true rfl⟩) (oB.recv hK hM.1 rfl) hM hK rfl hl.1 rfl dX8_childrenOf_19 hcs (Nat.le_of_ble_eq_true rfl) ?_
      have hpk := hI.par (f := k) hk.1 (by omega)
      refine lv_iload_n (pc := 22) E.1 E.2 dX8_childrenOf_22 rfl (lv_at hl 3 rfl) ?_
      refine z_icmp_ne (pc := 23) (tgt := 30) E ⟨by omega, by omega⟩ ⟨by omega, by omega⟩ dX8_childrenOf_23 (by decide) (fun h23 => ?_) (fun h23 => ?_)
      · refine z_iconst (pc := 30) E dX8_childrenOf_30 ?_
        refine z_iadd (pc := 31) E dX8_childrenOf_31 ?_
        refine lv_istore_n (pc := 32) (lv' := [(2, .int (iI (a + 0))), (3, .int (iI k)), (0, .ref (o 0)), (1, .int (iI f))]) E.1 E.2 dX8_childrenOf_32 rfl hl (by decide) rfl (fun ls hl => ?_)
        refine lv_iinc (pc := 33) (v := iI (k + 1)) (lv' := [(3, .int (iI (k + 1))), (2, .int (iI (a + 0))), (0, .ref (o 0)), (1, .int (iI f))]) E.1 E.2 dX8_childrenOf_33 hl (k := 1) rfl (iI_add _ _) (by decide) rfl (fun ls hl => ?_)
        refine lv_goto (pc := 36) (tgt := 4) E.1 E.2 dX8_childrenOf_36 (by decide) ?_
        exact ihL4 (a + 0) (k + 1) (by omega) (by rw [cn_s _ hk.1, ← hn]; unfold biP; first | rw [if_pos h23] | rw [if_neg h23]) (by omega) ls (lv_sub hl [0, 1, 2, 3] rfl)
      · refine z_iconst (pc := 26) E dX8_childrenOf_26 ?_
        refine lv_goto (pc := 27) (tgt := 31) E.1 E.2 dX8_childrenOf_27 (by decide) ?_
        refine z_iadd (pc := 31) E dX8_childrenOf_31 ?_
        refine lv_istore_n (pc := 32) (lv' := [(2, .int (iI (a + 1))), (3, .int (iI k)), (0, .ref (o 0)), (1, .int (iI f))]) E.1 E.2 dX8_childrenOf_32 rfl hl (by decide) rfl (fun ls hl => ?_)
        refine lv_iinc (pc := 33) (v := iI (k + 1)) (lv' := [(3, .int (iI (k + 1))), (2, .int (iI (a + 1))), (0, .ref (o 0)), (1, .int (iI f))]) E.1 E.2 dX8_childrenOf_33 hl (k := 1) rfl (iI_add _ _) (by decide) rfl (fun ls hl => ?_)
        refine lv_goto (pc := 36) (tgt := 4) E.1 E.2 dX8_childrenOf_36 (by decide) ?_
        exact ihL4 (a + 1) (k + 1) (by omega) (by rw [cn_s _ hk.1, ← hn]; unfold biP; first | rw [if_pos h23] | rw [if_neg h23]) (by omega) ls (lv_sub hl [0, 1, 2, 3] rfl)
set_option maxHeartbeats 4000000 in
set_option maxRecDepth 100000 in
theorem mX8_filesIn (lL : Launch) (G : GG) (o : Nat → Nat) (μ σ φ κ β ω : Int → Int) (f : Int) (hI : In σ) (hf : -2147483648 ≤ f ∧ f < 2147483648) : Met lL yX8_filesIn wsX8_filesIn ({ frames := 1, cells := 0, slots := 0, locals := 21 } : Room) (va_Pc [.ref (o 0), .int (iI f)] (fun U => W8 G o (mV o μ) σ φ κ β ω U.heap ∧ KK G U)) (vp_Si (fun r => r = (iI (fiS σ f)))) 0 0 (fun _ => False) := by
  refine z_met (P := (fun H : Heap => W8 G o (mV o μ) σ φ κ β ω H)) (by decide) rfl (Nat.le_of_ble_eq_true rfl) (fun pp ee ss mm below meth cC E hr hml hown hts hlocks hM hK ls hl => ?_)
  have hl : lv_has ls 4 [(0, .ref (o 0)), (1, .int (iI f))] := hl
  have hcs : 0 ≤ (({ frames := 1, cells := 0, slots := 0, locals := 21 } : Room)).cells ∧ 0 ≤ (({ frames := 1, cells := 0, slots := 0, locals := 21 } : Room)).slots := ⟨Nat.zero_le _, Nat.zero_le _⟩
  have hin8 : ∀ w ∈ wsX80, w ∈ wsX8_filesIn := fun w h => List.mem_cons_of_mem _ (List.mem_append_right _ (h))
  have hF := hI.F
  have hMm := hI.M
  have hGn := hI.Gn
  refine z_iconst (pc := 0) E dX8_filesIn_0 ?_
  refine lv_istore_n (pc := 1) (lv' := [(2, .int (iI 0)), (0, .ref (o 0)), (1, .int (iI f))]) E.1 E.2 dX8_filesIn_1 rfl hl (by decide) rfl (fun ls hl => ?_)
  refine z_iconst (pc := 2) E dX8_filesIn_2 ?_
  refine lv_istore_n (pc := 3) (lv' := [(3, .int (iI 0)), (2, .int (iI 0)), (0, .ref (o 0)), (1, .int (iI f))]) E.1 E.2 dX8_filesIn_3 rfl hl (by decide) rfl (fun ls hl => ?_)
  suffices L4 : ∀ (nf : Nat), ∀ (a k : Int), (0 ≤ k ∧ k ≤ σ 3) → (a = cn (fiP σ f) k.toNat) → ((σ 3 - k).toNat) < nf → ∀ ls : Array Slot, lv_has ls 4 [(3, .int (iI k)), (2, .int (iI a)), (0, .ref (o 0)), (1, .int (iI f))] → W pp lL ee ({ frames := 1, cells := 0, slots := 0, locals := 21 } : Room) ss mm [.ref (o 0), .int (iI f)].toArray below meth cC ss.heap [] 0 0 (MQ below (vp_Si (fun r => r = (iI (fiS σ f)))) [.ref (o 0), .int (iI f)].toArray ss 0 0 (fun _ => False)) (F0 mm 4 ls []) from L4 _ 0 0 (by omega) rfl (Nat.lt_succ_self _) ls (lv_sub hl [0, 1, 2, 3] rfl)
  intro nfL4
  induction nfL4 with
  | zero => intro a k hk hn hmzL4; exact absurd hmzL4 (Nat.not_lt_zero _)
  | succ nfL4 ihL4 =>
    intro a k hk hn hmzL4 ls hl
    refine lv_iload_n (pc := 4) E.1 E.2 dX8_filesIn_4 rfl (lv_at hl 0 rfl) ?_
    refine z_i2l (pc := 5) E ⟨by omega, by omega⟩ dX8_filesIn_5 ?_
    refine lv_aload_n (pc := 6) E.1 E.2 dX8_filesIn_6 rfl (lv_at hl 2 rfl) ?_
    refine g8_0 (pc := 7) E hts hin8 hown hK hM.1 (hts _ (List.mem_of_getElem? (i := 1) rfl)) dX8_filesIn_7 ?_
    refine z_iconst (pc := 10) E dX8_filesIn_10 ?_
    refine z_laload (pc := 11) E hK hM.2.1 ⟨by omega, by omega⟩ (by decide) dX8_filesIn_11 ?_
    have hb11 := hI.bd 3
    refine z_lcmp_ge (pc := 12) (tgt := 39) E ⟨by omega, by omega⟩ ⟨by omega, by omega⟩ dX8_filesIn_12 dX8_filesIn_13 (by decide) (fun h12 => ?_) (fun h12 => ?_)
    · refine lv_iload_n (pc := 39) E.1 E.2 dX8_filesIn_39 rfl (lv_at hl 1 rfl) ?_
      exact z_retRi E hr (congrArg iI (by (rw [hn]; unfold fiS; congr 2; omega))) hlocks dX8_filesIn_40
    · refine lv_iload_n (pc := 16) E.1 E.2 dX8_filesIn_16 rfl (lv_at hl 1 rfl) ?_
      refine lv_aload_n (pc := 17) E.1 E.2 dX8_filesIn_17 rfl (lv_at hl 2 rfl) ?_
      refine lv_iload_n (pc := 18) E.1 E.2 dX8_filesIn_18 rfl (lv_at hl 0 rfl) ?_
      refine z_rVi (pc := 19) (As := [.int (iI k)]) (rest := [.int (iI a)]) E hml hown hts (mX8_folderOf lL G o μ σ φ κ β ω k (by omega)) (cwV 1 hts gX8_filesIn_X8_folderOf rfl rfl rfl vdX8_folderOf ⟨Nat.le_of_ble_eq_true rfl, Nat.le_of_ble_eq_true rfl⟩) (oB.recv hK hM.1 rfl) hM hK rfl hl.1 rfl dX8_filesIn_19 hcs (Nat.le_of_ble_eq_true rfl) ?_
      have hfk := hI.fil (k := k) hk.1 (by omega)
      refine lv_iload_n (pc := 22) E.1 E.2 dX8_filesIn_22 rfl (lv_at hl 3 rfl) ?_
      refine z_icmp_ne (pc := 23) (tgt := 30) E ⟨by omega, by omega⟩ ⟨by omega, by omega⟩ dX8_filesIn_23 (by decide) (fun h23 => ?_) (fun h23 => ?_)
      · refine z_iconst (pc := 30) E dX8_filesIn_30 ?_
        refine z_iadd (pc := 31) E dX8_filesIn_31 ?_
        refine lv_istore_n (pc := 32) (lv' := [(2, .int (iI (a + 0))), (3, .int (iI k)), (0, .ref (o 0)), (1, .int (iI f))]) E.1 E.2 dX8_filesIn_32 rfl hl (by decide) rfl (fun ls hl => ?_)
        refine lv_iinc (pc := 33) (v := iI (k + 1)) (lv' := [(3, .int (iI (k + 1))), (2, .int (iI (a + 0))), (0, .ref (o 0)), (1, .int (iI f))]) E.1 E.2 dX8_filesIn_33 hl (k := 1) rfl (iI_add _ _) (by decide) rfl (fun ls hl => ?_)
        refine lv_goto (pc := 36) (tgt := 4) E.1 E.2 dX8_filesIn_36 (by decide) ?_
        exact ihL4 (a + 0) (k + 1) (by omega) (by rw [cn_s _ hk.1, ← hn]; unfold fiP; first | rw [if_pos h23] | rw [if_neg h23]) (by omega) ls (lv_sub hl [0, 1, 2, 3] rfl)
      · refine z_iconst (pc := 26) E dX8_filesIn_26 ?_
        refine lv_goto (pc := 27) (tgt := 31) E.1 E.2 dX8_filesIn_27 (by decide) ?_
        refine z_iadd (pc := 31) E dX8_filesIn_31 ?_
        refine lv_istore_n (pc := 32) (lv' := [(2, .int (iI (a + 1))), (3, .int (iI k)), (0, .ref (o 0)), (1, .int (iI f))]) E.1 E.2 dX8_filesIn_32 rfl hl (by decide) rfl (fun ls hl => ?_)
        refine lv_iinc (pc := 33) (v := iI (k + 1)) (lv' := [(3, .int (iI (k + 1))), (2, .int (iI (a + 1))), (0, .ref (o 0)), (1, .int (iI f))]) E.1 E.2 dX8_filesIn_33 hl (k := 1) rfl (iI_add _ _) (by decide) rfl (fun ls hl => ?_)
        refine lv_goto (pc := 36) (tgt := 4) E.1 E.2 dX8_filesIn_36 (by decide) ?_
        exact ihL4 (a + 1) (k + 1) (by omega) (by rw [cn_s _ hk.1, ← hn]; unfold fiP; first | rw [if_pos h23] | rw [if_neg h23]) (by omega) ls (lv_sub hl [0, 1, 2, 3] rfl)
set_option maxHeartbeats 4000000 in
set_option maxRecDepth 100000 in
theorem mX8_foldersBelow (lL : Launch) (G : GG) (o : Nat → Nat) (μ σ φ κ β ω : Int → Int) (f : Int) (hI : In σ) (hf : 0 ≤ f ∧ f < σ 2) : Met lL yX8_foldersBelow wsX8_foldersBelow ({ frames := 2, cells := 0, slots := 0, locals := 44 } : Room) (va_Pc [.ref (o 0), .int (iI f)] (fun U => W8 G o (mV o μ) σ φ κ β ω U.heap ∧ KK G U)) (vp_Si (fun r => r = (iI (fbS σ f)))) 0 0 (fun _ => False) := by
  refine z_met (P := (fun H : Heap => W8 G o (mV o μ) σ φ κ β ω H)) (by decide) rfl (Nat.le_of_ble_eq_true rfl) (fun pp ee ss mm below meth cC E hr hml hown hts hlocks hM hK ls hl => ?_)
  have hl : lv_has ls 4 [(0, .ref (o 0)), (1, .int (iI f))] := hl
  have hcs : 0 ≤ (({ frames := 2, cells := 0, slots := 0, locals := 44 } : Room)).cells ∧ 0 ≤ (({ frames := 2, cells := 0, slots := 0, locals := 44 } : Room)).slots := ⟨Nat.zero_le _, Nat.zero_le _⟩
  have hin8 : ∀ w ∈ wsX80, w ∈ wsX8_foldersBelow := fun w h => List.mem_cons_of_mem _ (List.mem_append_right _ (h))
  have hF := hI.F
  have hMm := hI.M
  have hGn := hI.Gn
  refine z_iconst (pc := 0) E dX8_foldersBelow_0 ?_
  refine lv_istore_n (pc := 1) (lv' := [(2, .int (iI 0)), (0, .ref (o 0)), (1, .int (iI f))]) E.1 E.2 dX8_foldersBelow_1 rfl hl (by decide) rfl (fun ls hl => ?_)
  refine z_iconst (pc := 2) E dX8_foldersBelow_2 ?_
  refine lv_istore_n (pc := 3) (lv' := [(3, .int (iI 0)), (2, .int (iI 0)), (0, .ref (o 0)), (1, .int (iI f))]) E.1 E.2 dX8_foldersBelow_3 rfl hl (by decide) rfl (fun ls hl => ?_)
  suffices L4 : ∀ (nf : Nat), ∀ (a k : Int), (0 ≤ k ∧ k ≤ σ 2) → (a = cn (fbP σ f) k.toNat) → ((σ 2 - k).toNat) < nf → ∀ ls : Array Slot, lv_has ls 4 [(3, .int (iI k)), (2, .int (iI a)), (0, .ref (o 0)), (1, .int (iI f))] → W pp lL ee ({ frames := 2, cells := 0, slots := 0, locals := 44 } : Room) ss mm [.ref (o 0), .int (iI f)].toArray below meth cC ss.heap [] 0 0 (MQ below (vp_Si (fun r => r = (iI (fbS σ f)))) [.ref (o 0), .int (iI f)].toArray ss 0 0 (fun _ => False)) (F0 mm 4 ls []) from L4 _ 0 0 (by omega) rfl (Nat.lt_succ_self _) ls (lv_sub hl [0, 1, 2, 3] rfl)
  intro nfL4
  induction nfL4 with
  | zero => intro a k hk hn hmzL4; exact absurd hmzL4 (Nat.not_lt_zero _)
  | succ nfL4 ihL4 =>
    intro a k hk hn hmzL4 ls hl
    refine lv_iload_n (pc := 4) E.1 E.2 dX8_foldersBelow_4 rfl (lv_at hl 0 rfl) ?_
    refine z_i2l (pc := 5) E ⟨by omega, by omega⟩ dX8_foldersBelow_5 ?_
    refine lv_aload_n (pc := 6) E.1 E.2 dX8_foldersBelow_6 rfl (lv_at hl 2 rfl) ?_
    refine g8_0 (pc := 7) E hts hin8 hown hK hM.1 (hts _ (List.mem_of_getElem? (i := 1) rfl)) dX8_foldersBelow_7 ?_
    refine z_iconst (pc := 10) E dX8_foldersBelow_10 ?_
    refine z_laload (pc := 11) E hK hM.2.1 ⟨by omega, by omega⟩ (by decide) dX8_foldersBelow_11 ?_
    have hb11 := hI.bd 2
    refine z_lcmp_ge (pc := 12) (tgt := 39) E ⟨by omega, by omega⟩ ⟨by omega, by omega⟩ dX8_foldersBelow_12 dX8_foldersBelow_13 (by decide) (fun h12 => ?_) (fun h12 => ?_)
    · refine lv_iload_n (pc := 39) E.1 E.2 dX8_foldersBelow_39 rfl (lv_at hl 1 rfl) ?_
      exact z_retRi E hr (congrArg iI (by (rw [hn]; unfold fbS; congr 2; omega))) hlocks dX8_foldersBelow_40
    · refine lv_iload_n (pc := 16) E.1 E.2 dX8_foldersBelow_16 rfl (lv_at hl 1 rfl) ?_
      refine lv_aload_n (pc := 17) E.1 E.2 dX8_foldersBelow_17 rfl (lv_at hl 2 rfl) ?_
      refine lv_iload_n (pc := 18) E.1 E.2 dX8_foldersBelow_18 rfl (lv_at hl 0 rfl) ?_
      refine lv_iload_n (pc := 19) E.1 E.2 dX8_foldersBelow_19 rfl (lv_at hl 3 rfl) ?_
      refine z_rVi (pc := 20) (As := [.int (iI k), .int (iI f)]) (rest := [.int (iI a)]) E hml hown hts (mX8_isBelow lL G o μ σ φ κ β ω k f hI (Or.inr ⟨hk.1, by omega⟩) (by omega)) (cwV 2 hts gX8_foldersBelow_X8_isBelow rfl rfl rfl vdX8_isBelow ⟨Nat.le_of_ble_eq_true rfl, Nat.le_of_ble_eq_true rfl⟩) (oB.recv hK hM.1 rfl) hM hK rfl hl.1 rfl dX8_foldersBelow_20 hcs (Nat.le_of_ble_eq_true rfl) ?_
      refine z_ifb_eq (pc := 23) (tgt := 30) E dX8_foldersBelow_23 (by decide) (fun h23 => ?_) (fun h23 => ?_)
      · refine z_iconst (pc := 30) E dX8_foldersBelow_30 ?_
        refine z_iadd (pc := 31) E dX8_foldersBelow_31 ?_
        refine lv_istore_n (pc := 32) (lv' := [(2, .int (iI (a + 0))), (3, .int (iI k)), (0, .ref (o 0)), (1, .int (iI f))]) E.1 E.2 dX8_foldersBelow_32 rfl hl (by decide) rfl (fun ls hl => ?_)
        refine lv_iinc (pc := 33) (v := iI (k + 1)) (lv' := [(3, .int (iI (k + 1))), (2, .int (iI (a + 0))), (0, .ref (o 0)), (1, .int (iI f))]) E.1 E.2 dX8_foldersBelow_33 hl (k := 1) rfl (iI_add _ _) (by decide) rfl (fun ls hl => ?_)
        refine lv_goto (pc := 36) (tgt := 4) E.1 E.2 dX8_foldersBelow_36 (by decide) ?_
        exact ihL4 (a + 0) (k + 1) (by omega) (by rw [cn_s _ hk.1, ← hn]; unfold fbP; first | rw [if_pos h23] | rw [if_neg h23]) (by omega) ls (lv_sub hl [0, 1, 2, 3] rfl)
      · refine z_iconst (pc := 26) E dX8_foldersBelow_26 ?_
        refine lv_goto (pc := 27) (tgt := 31) E.1 E.2 dX8_foldersBelow_27 (by decide) ?_
        refine z_iadd (pc := 31) E dX8_foldersBelow_31 ?_
        refine lv_istore_n (pc := 32) (lv' := [(2, .int (iI (a + 1))), (3, .int (iI k)), (0, .ref (o 0)), (1, .int (iI f))]) E.1 E.2 dX8_foldersBelow_32 rfl hl (by decide) rfl (fun ls hl => ?_)
        refine lv_iinc (pc := 33) (v := iI (k + 1)) (lv' := [(3, .int (iI (k + 1))), (2, .int (iI (a + 1))), (0, .ref (o 0)), (1, .int (iI f))]) E.1 E.2 dX8_foldersBelow_33 hl (k := 1) rfl (iI_add _ _) (by decide) rfl (fun ls hl => ?_)
        refine lv_goto (pc := 36) (tgt := 4) E.1 E.2 dX8_foldersBelow_36 (by decide) ?_
        exact ihL4 (a + 1) (k + 1) (by omega) (by rw [cn_s _ hk.1, ← hn]; unfold fbP; first | rw [if_pos h23] | rw [if_neg h23]) (by omega) ls (lv_sub hl [0, 1, 2, 3] rfl)
set_option maxHeartbeats 4000000 in
set_option maxRecDepth 100000 in
theorem mX8_taggedNow (lL : Launch) (G : GG) (o : Nat → Nat) (μ σ φ κ β ω : Int → Int) (hI : In σ) : Met lL yX8_taggedNow wsX8_taggedNow ({ frames := 1, cells := 0, slots := 0, locals := 21 } : Room) (va_Pc [.ref (o 0)] (fun U => W8 G o (mV o μ) σ φ κ β ω U.heap ∧ KK G U)) (vp_Si (fun r => r = (iI (tgS σ)))) 0 0 (fun _ => False) := by
  refine z_met (P := (fun H : Heap => W8 G o (mV o μ) σ φ κ β ω H)) (by decide) rfl (Nat.le_of_ble_eq_true rfl) (fun pp ee ss mm below meth cC E hr hml hown hts hlocks hM hK ls hl => ?_)
  have hl : lv_has ls 3 [(0, .ref (o 0))] := hl
  have hcs : 0 ≤ (({ frames := 1, cells := 0, slots := 0, locals := 21 } : Room)).cells ∧ 0 ≤ (({ frames := 1, cells := 0, slots := 0, locals := 21 } : Room)).slots := ⟨Nat.zero_le _, Nat.zero_le _⟩
  have hin8 : ∀ w ∈ wsX80, w ∈ wsX8_taggedNow := fun w h => List.mem_cons_of_mem _ (List.mem_append_right _ (h))
  have hF := hI.F
  have hMm := hI.M
  have hGn := hI.Gn
  refine z_iconst (pc := 0) E dX8_taggedNow_0 ?_
  refine lv_istore_n (pc := 1) (lv' := [(1, .int (iI 0)), (0, .ref (o 0))]) E.1 E.2 dX8_taggedNow_1 rfl hl (by decide) rfl (fun ls hl => ?_)
  refine z_iconst (pc := 2) E dX8_taggedNow_2 ?_
  refine lv_istore_n (pc := 3) (lv' := [(2, .int (iI 0)), (1, .int (iI 0)), (0, .ref (o 0))]) E.1 E.2 dX8_taggedNow_3 rfl hl (by decide) rfl (fun ls hl => ?_)
  suffices L4 : ∀ (nf : Nat), ∀ (a k : Int), (0 ≤ k ∧ k ≤ σ 2) → (a = cn (tgP σ) k.toNat) → ((σ 2 - k).toNat) < nf → ∀ ls : Array Slot, lv_has ls 3 [(2, .int (iI k)), (1, .int (iI a)), (0, .ref (o 0))] → W pp lL ee ({ frames := 1, cells := 0, slots := 0, locals := 21 } : Room) ss mm [.ref (o 0)].toArray below meth cC ss.heap [] 0 0 (MQ below (vp_Si (fun r => r = (iI (tgS σ)))) [.ref (o 0)].toArray ss 0 0 (fun _ => False)) (F0 mm 4 ls []) from L4 _ 0 0 (by omega) rfl (Nat.lt_succ_self _) ls (lv_sub hl [0, 1, 2] rfl)
  intro nfL4
  induction nfL4 with
  | zero => intro a k hk hn hmzL4; exact absurd hmzL4 (Nat.not_lt_zero _)
  | succ nfL4 ihL4 =>
    intro a k hk hn hmzL4 ls hl
    refine lv_iload_n (pc := 4) E.1 E.2 dX8_taggedNow_4 rfl (lv_at hl 0 rfl) ?_
    refine z_i2l (pc := 5) E ⟨by omega, by omega⟩ dX8_taggedNow_5 ?_
    refine lv_aload_n (pc := 6) E.1 E.2 dX8_taggedNow_6 rfl (lv_at hl 2 rfl) ?_
    refine g8_0 (pc := 7) E hts hin8 hown hK hM.1 (hts _ (List.mem_of_getElem? (i := 1) rfl)) dX8_taggedNow_7 ?_
    refine z_iconst (pc := 10) E dX8_taggedNow_10 ?_
    refine z_laload (pc := 11) E hK hM.2.1 ⟨by omega, by omega⟩ (by decide) dX8_taggedNow_11 ?_
    have hb11 := hI.bd 2
    refine z_lcmp_ge (pc := 12) (tgt := 39) E ⟨by omega, by omega⟩ ⟨by omega, by omega⟩ dX8_taggedNow_12 dX8_taggedNow_13 (by decide) (fun h12 => ?_) (fun h12 => ?_)
    · refine lv_iload_n (pc := 39) E.1 E.2 dX8_taggedNow_39 rfl (lv_at hl 1 rfl) ?_
      exact z_retRi E hr (congrArg iI (by (rw [hn]; unfold tgS; congr 2; omega))) hlocks dX8_taggedNow_40
    · refine lv_iload_n (pc := 16) E.1 E.2 dX8_taggedNow_16 rfl (lv_at hl 1 rfl) ?_
      refine lv_aload_n (pc := 17) E.1 E.2 dX8_taggedNow_17 rfl (lv_at hl 2 rfl) ?_
      refine lv_iload_n (pc := 18) E.1 E.2 dX8_taggedNow_18 rfl (lv_at hl 0 rfl) ?_
      refine z_rVi (pc := 19) (As := [.int (iI k)]) (rest := [.int (iI a)]) E hml hown hts (mX8_tagOf lL G o μ σ φ κ β ω k (by omega)) (cwV 1 hts gX8_taggedNow_X8_tagOf rfl rfl rfl vdX8_tagOf ⟨Nat.le_of_ble_eq_true rfl, Nat.le_of_ble_eq_true rfl⟩) (oB.recv hK hM.1 rfl) hM hK rfl hl.1 rfl dX8_taggedNow_19 hcs (Nat.le_of_ble_eq_true rfl) ?_
      have htk := hI.tag (f := k) hk.1 (by omega)
      refine z_iconst (pc := 22) E dX8_taggedNow_22 ?_
      refine z_icmp_ne (pc := 23) (tgt := 30) E ⟨by omega, by omega⟩ (by decide) dX8_taggedNow_23 (by decide) (fun h23 => ?_) (fun h23 => ?_)
      · refine z_iconst (pc := 30) E dX8_taggedNow_30 ?_
        refine z_iadd (pc := 31) E dX8_taggedNow_31 ?_
        refine lv_istore_n (pc := 32) (lv' := [(1, .int (iI (a + 1))), (2, .int (iI k)), (0, .ref (o 0))]) E.1 E.2 dX8_taggedNow_32 rfl hl (by decide) rfl (fun ls hl => ?_)
        refine lv_iinc (pc := 33) (v := iI (k + 1)) (lv' := [(2, .int (iI (k + 1))), (1, .int (iI (a + 1))), (0, .ref (o 0))]) E.1 E.2 dX8_taggedNow_33 hl (k := 1) rfl (iI_add _ _) (by decide) rfl (fun ls hl => ?_)
        refine lv_goto (pc := 36) (tgt := 4) E.1 E.2 dX8_taggedNow_36 (by decide) ?_
        exact ihL4 (a + 1) (k + 1) (by omega) (by rw [cn_s _ hk.1, ← hn]; unfold tgP; first | rw [if_pos h23] | rw [if_neg h23]) (by omega) ls (lv_sub hl [0, 1, 2] rfl)
      · refine z_iconst (pc := 26) E dX8_taggedNow_26 ?_
        refine lv_goto (pc := 27) (tgt := 31) E.1 E.2 dX8_taggedNow_27 (by decide) ?_
        refine z_iadd (pc := 31) E dX8_taggedNow_31 ?_
        refine lv_istore_n (pc := 32) (lv' := [(1, .int (iI (a + 0))), (2, .int (iI k)), (0, .ref (o 0))]) E.1 E.2 dX8_taggedNow_32 rfl hl (by decide) rfl (fun ls hl => ?_)
        refine lv_iinc (pc := 33) (v := iI (k + 1)) (lv' := [(2, .int (iI (k + 1))), (1, .int (iI (a + 0))), (0, .ref (o 0))]) E.1 E.2 dX8_taggedNow_33 hl (k := 1) rfl (iI_add _ _) (by decide) rfl (fun ls hl => ?_)
        refine lv_goto (pc := 36) (tgt := 4) E.1 E.2 dX8_taggedNow_36 (by decide) ?_
        exact ihL4 (a + 0) (k + 1) (by omega) (by rw [cn_s _ hk.1, ← hn]; unfold tgP; first | rw [if_pos h23] | rw [if_neg h23]) (by omega) ls (lv_sub hl [0, 1, 2] rfl)
set_option maxHeartbeats 4000000 in
set_option maxRecDepth 100000 in
theorem mX8_withoutProject (lL : Launch) (G : GG) (o : Nat → Nat) (μ σ φ κ β ω : Int → Int) (hI : In σ) : Met lL yX8_withoutProject wsX8_withoutProject ({ frames := 2, cells := 0, slots := 0, locals := 43 } : Room) (va_Pc [.ref (o 0)] (fun U => W8 G o (mV o μ) σ φ κ β ω U.heap ∧ KK G U)) (vp_Si (fun r => r = (iI (coS σ (-1) 1)))) 0 0 (fun _ => False) := by
  refine z_met (P := (fun H : Heap => W8 G o (mV o μ) σ φ κ β ω H)) (by decide) rfl (Nat.le_of_ble_eq_true rfl) (fun pp ee ss mm below meth cC E hr hml hown hts hlocks hM hK ls hl => ?_)
  have hl : lv_has ls 3 [(0, .ref (o 0))] := hl
  have hcs : 0 ≤ (({ frames := 2, cells := 0, slots := 0, locals := 43 } : Room)).cells ∧ 0 ≤ (({ frames := 2, cells := 0, slots := 0, locals := 43 } : Room)).slots := ⟨Nat.zero_le _, Nat.zero_le _⟩
  have hin8 : ∀ w ∈ wsX80, w ∈ wsX8_withoutProject := fun w h => List.mem_cons_of_mem _ (List.mem_append_right _ (h))
  have hF := hI.F
  have hMm := hI.M
  have hGn := hI.Gn
  refine z_iconst (pc := 0) E dX8_withoutProject_0 ?_
  refine lv_istore_n (pc := 1) (lv' := [(1, .int (iI 0)), (0, .ref (o 0))]) E.1 E.2 dX8_withoutProject_1 rfl hl (by decide) rfl (fun ls hl => ?_)
  refine z_iconst (pc := 2) E dX8_withoutProject_2 ?_
  refine lv_istore_n (pc := 3) (lv' := [(2, .int (iI 0)), (1, .int (iI 0)), (0, .ref (o 0))]) E.1 E.2 dX8_withoutProject_3 rfl hl (by decide) rfl (fun ls hl => ?_)
  suffices L4 : ∀ (nf : Nat), ∀ (a k : Int), (0 ≤ k ∧ k ≤ σ 3) → (a = cn (coP σ (-1) 1) k.toNat) → ((σ 3 - k).toNat) < nf → ∀ ls : Array Slot, lv_has ls 3 [(2, .int (iI k)), (1, .int (iI a)), (0, .ref (o 0))] → W pp lL ee ({ frames := 2, cells := 0, slots := 0, locals := 43 } : Room) ss mm [.ref (o 0)].toArray below meth cC ss.heap [] 0 0 (MQ below (vp_Si (fun r => r = (iI (coS σ (-1) 1)))) [.ref (o 0)].toArray ss 0 0 (fun _ => False)) (F0 mm 4 ls []) from L4 _ 0 0 (by omega) rfl (Nat.lt_succ_self _) ls (lv_sub hl [0, 1, 2] rfl)
  intro nfL4
  induction nfL4 with
  | zero => intro a k hk hn hmzL4; exact absurd hmzL4 (Nat.not_lt_zero _)
  | succ nfL4 ihL4 =>
    intro a k hk hn hmzL4 ls hl
    refine lv_iload_n (pc := 4) E.1 E.2 dX8_withoutProject_4 rfl (lv_at hl 0 rfl) ?_
    refine z_i2l (pc := 5) E ⟨by omega, by omega⟩ dX8_withoutProject_5 ?_
    refine lv_aload_n (pc := 6) E.1 E.2 dX8_withoutProject_6 rfl (lv_at hl 2 rfl) ?_
    refine g8_0 (pc := 7) E hts hin8 hown hK hM.1 (hts _ (List.mem_of_getElem? (i := 1) rfl)) dX8_withoutProject_7 ?_
    refine z_iconst (pc := 10) E dX8_withoutProject_10 ?_
    refine z_laload (pc := 11) E hK hM.2.1 ⟨by omega, by omega⟩ (by decide) dX8_withoutProject_11 ?_
    have hb11 := hI.bd 3
    refine z_lcmp_ge (pc := 12) (tgt := 43) E ⟨by omega, by omega⟩ ⟨by omega, by omega⟩ dX8_withoutProject_12 dX8_withoutProject_13 (by decide) (fun h12 => ?_) (fun h12 => ?_)
    · refine lv_iload_n (pc := 43) E.1 E.2 dX8_withoutProject_43 rfl (lv_at hl 1 rfl) ?_
      exact z_retRi E hr (congrArg iI (by (rw [hn]; unfold coS; congr 2; omega))) hlocks dX8_withoutProject_44
    · refine lv_iload_n (pc := 16) E.1 E.2 dX8_withoutProject_16 rfl (lv_at hl 1 rfl) ?_
      refine lv_aload_n (pc := 17) E.1 E.2 dX8_withoutProject_17 rfl (lv_at hl 2 rfl) ?_
      refine lv_aload_n (pc := 18) E.1 E.2 dX8_withoutProject_18 rfl (lv_at hl 2 rfl) ?_
      refine lv_iload_n (pc := 19) E.1 E.2 dX8_withoutProject_19 rfl (lv_at hl 0 rfl) ?_
      refine z_rVi (pc := 20) (As := [.int (iI k)]) (rest := [.ref (o 0), .int (iI a)]) E hml hown hts (mX8_folderOf lL G o μ σ φ κ β ω k (by omega)) (cwV 1 hts gX8_withoutProject_X8_folderOf rfl rfl rfl vdX8_folderOf ⟨Nat.le_of_ble_eq_true rfl, Nat.le_of_ble_eq_true rfl⟩) (oB.recv hK hM.1 rfl) hM hK rfl hl.1 rfl dX8_withoutProject_20 hcs (Nat.le_of_ble_eq_true rfl) ?_
      have hfk := hI.fil (k := k) hk.1 (by omega)
      refine z_rVi (pc := 23) (As := [.int (iI (σ (189 + k)))]) (rest := [.int (iI a)]) E hml hown hts (mX8_projectOf lL G o μ σ φ κ β ω (σ (189 + k)) hI (Or.inr hfk.1)) (cwV 1 hts gX8_withoutProject_X8_projectOf rfl rfl rfl vdX8_projectOf ⟨Nat.le_of_ble_eq_true rfl, Nat.le_of_ble_eq_true rfl⟩) (oB.recv hK hM.1 rfl) hM hK rfl hl.1 rfl dX8_withoutProject_23 hcs (Nat.le_of_ble_eq_true rfl) ?_
      have hpk := hI.pjr (f := σ (189 + k)) (Or.inr hfk.1)
      refine z_iconst (pc := 26) E dX8_withoutProject_26 ?_
      refine z_icmp_ne (pc := 27) (tgt := 34) E ⟨by omega, by omega⟩ (by decide) dX8_withoutProject_27 (by decide) (fun h27 => ?_) (fun h27 => ?_)
      · refine z_iconst (pc := 34) E dX8_withoutProject_34 ?_
        refine z_iadd (pc := 35) E dX8_withoutProject_35 ?_
        refine lv_istore_n (pc := 36) (lv' := [(1, .int (iI (a + 0))), (2, .int (iI k)), (0, .ref (o 0))]) E.1 E.2 dX8_withoutProject_36 rfl hl (by decide) rfl (fun ls hl => ?_)
        refine lv_iinc (pc := 37) (v := iI (k + 1)) (lv' := [(2, .int (iI (k + 1))), (1, .int (iI (a + 0))), (0, .ref (o 0))]) E.1 E.2 dX8_withoutProject_37 hl (k := 1) rfl (iI_add _ _) (by decide) rfl (fun ls hl => ?_)
        refine lv_goto (pc := 40) (tgt := 4) E.1 E.2 dX8_withoutProject_40 (by decide) ?_
        exact ihL4 (a + 0) (k + 1) (by omega) (by rw [cn_s _ hk.1, ← hn]; unfold coP; first | rw [if_pos h27, if_neg (by decide)] | rw [if_neg h27]) (by omega) ls (lv_sub hl [0, 1, 2] rfl)
      · refine z_iconst (pc := 30) E dX8_withoutProject_30 ?_
        refine lv_goto (pc := 31) (tgt := 35) E.1 E.2 dX8_withoutProject_31 (by decide) ?_
        refine z_iadd (pc := 35) E dX8_withoutProject_35 ?_
        refine lv_istore_n (pc := 36) (lv' := [(1, .int (iI (a + 1))), (2, .int (iI k)), (0, .ref (o 0))]) E.1 E.2 dX8_withoutProject_36 rfl hl (by decide) rfl (fun ls hl => ?_)
        refine lv_iinc (pc := 37) (v := iI (k + 1)) (lv' := [(2, .int (iI (k + 1))), (1, .int (iI (a + 1))), (0, .ref (o 0))]) E.1 E.2 dX8_withoutProject_37 hl (k := 1) rfl (iI_add _ _) (by decide) rfl (fun ls hl => ?_)
        refine lv_goto (pc := 40) (tgt := 4) E.1 E.2 dX8_withoutProject_40 (by decide) ?_
        exact ihL4 (a + 1) (k + 1) (by omega) (by rw [cn_s _ hk.1, ← hn]; unfold coP; first | rw [if_pos h27, if_neg (by decide)] | rw [if_neg h27]) (by omega) ls (lv_sub hl [0, 1, 2] rfl)
set_option maxHeartbeats 4000000 in
set_option maxRecDepth 100000 in
theorem mX8_countedOf (lL : Launch) (G : GG) (o : Nat → Nat) (μ σ φ κ β ω : Int → Int) (p : Int) (b : Int) (hI : In σ) (hp : -2147483648 ≤ p ∧ p < 2147483648) (hb : b = 0 ∨ b = 1) : Met lL yX8_countedOf wsX8_countedOf ({ frames := 2, cells := 0, slots := 0, locals := 43 } : Room) (va_Pc [.ref (o 0), .int (iI p), .int (iI b)] (fun U => W8 G o (mV o μ) σ φ κ β ω U.heap ∧ KK G U)) (vp_Sl (fun r => r = (iL (coS σ p b)))) 0 0 (fun _ => False) := by
  refine z_met (P := (fun H : Heap => W8 G o (mV o μ) σ φ κ β ω H)) (by decide) rfl (Nat.le_of_ble_eq_true rfl) (fun pp ee ss mm below meth cC E hr hml hown hts hlocks hM hK ls hl => ?_)
  have hl : lv_has ls 6 [(0, .ref (o 0)), (1, .int (iI p)), (2, .int (iI b))] := hl
  have hcs : 0 ≤ (({ frames := 2, cells := 0, slots := 0, locals := 43 } : Room)).cells ∧ 0 ≤ (({ frames := 2, cells := 0, slots := 0, locals := 43 } : Room)).slots := ⟨Nat.zero_le _, Nat.zero_le _⟩
  have hin8 : ∀ w ∈ wsX80, w ∈ wsX8_countedOf := fun w h => List.mem_cons_of_mem _ (List.mem_append_right _ (h))
  have hF := hI.F
  have hMm := hI.M
  have hGn := hI.Gn
  refine z_lconst (pc := 0) (v := 0) E (by decide) dX8_countedOf_0 ?_
  refine lv_lstore_n (pc := 1) (lv' := [(3, .long (iL 0)), (0, .ref (o 0)), (1, .int (iI p)), (2, .int (iI b))]) E.1 E.2 dX8_countedOf_1 rfl hl (by decide) rfl (fun ls hl => ?_)
  refine z_iconst (pc := 2) E dX8_countedOf_2 ?_
  refine lv_istore (pc := 3) (lv' := [(5, .int (iI 0)), (3, .long (iL 0)), (0, .ref (o 0)), (1, .int (iI p)), (2, .int (iI b))]) E.1 E.2 dX8_countedOf_3 hl (by decide) rfl (fun ls hl => ?_)
  suffices L5 : ∀ (nf : Nat), ∀ (a k : Int), (0 ≤ k ∧ k ≤ σ 3) → (a = cn (coP σ p b) k.toNat) → ((σ 3 - k).toNat) < nf → ∀ ls : Array Slot, lv_has ls 6 [(5, .int (iI k)), (3, .long (iL a)), (0, .ref (o 0)), (1, .int (iI p)), (2, .int (iI b))] → W pp lL ee ({ frames := 2, cells := 0, slots := 0, locals := 43 } : Room) ss mm [.ref (o 0), .int (iI p), .int (iI b)].toArray below meth cC ss.heap [] 0 0 (MQ below (vp_Sl (fun r => r = (iL (coS σ p b)))) [.ref (o 0), .int (iI p), .int (iI b)].toArray ss 0 0 (fun _ => False)) (F0 mm 5 ls []) from L5 _ 0 0 (by omega) rfl (Nat.lt_succ_self _) ls (lv_sub hl [0, 1, 2, 3, 4] rfl)
  intro nfL5
  induction nfL5 with
  | zero => intro a k hk hn hmzL5; exact absurd hmzL5 (Nat.not_lt_zero _)
  | succ nfL5 ihL5 =>
    intro a k hk hn hmzL5 ls hl
    refine lv_iload (pc := 5) E.1 E.2 dX8_countedOf_5 (lv_at hl 0 rfl) ?_
    refine z_i2l (pc := 7) E ⟨by omega, by omega⟩ dX8_countedOf_7 ?_
    refine lv_aload_n (pc := 8) E.1 E.2 dX8_countedOf_8 rfl (lv_at hl 2 rfl) ?_
    refine g8_0 (pc := 9) E hts hin8 hown hK hM.1 (hts _ (List.mem_of_getElem? (i := 1) rfl)) dX8_countedOf_9 ?_
    refine z_iconst (pc := 12) E dX8_countedOf_12 ?_
    refine z_laload (pc := 13) E hK hM.2.1 ⟨by omega, by omega⟩ (by decide) dX8_countedOf_13 ?_
    have hb13 := hI.bd 3
    refine z_lcmp_ge (pc := 14) (tgt := 64) E ⟨by omega, by omega⟩ ⟨by omega, by omega⟩ dX8_countedOf_14 dX8_countedOf_15 (by decide) (fun h14 => ?_) (fun h14 => ?_)
    · refine lv_lload_n (pc := 64) E.1 E.2 dX8_countedOf_64 rfl (lv_at hl 1 rfl) ?_
      exact z_retRl E hr (congrArg iL (by (rw [hn]; unfold coS; congr 2; omega))) hlocks dX8_countedOf_65
    · refine lv_lload_n (pc := 18) E.1 E.2 dX8_countedOf_18 rfl (lv_at hl 1 rfl) ?_
      refine lv_aload_n (pc := 19) E.1 E.2 dX8_countedOf_19 rfl (lv_at hl 2 rfl) ?_
      refine lv_aload_n (pc := 20) E.1 E.2 dX8_countedOf_20 rfl (lv_at hl 2 rfl) ?_
      refine lv_iload (pc := 21) E.1 E.2 dX8_countedOf_21 (lv_at hl 0 rfl) ?_
      refine z_rVi (pc := 23) (As := [.int (iI k)]) (rest := [.ref (o 0), .long (iL a)]) E hml hown hts (mX8_folderOf lL G o μ σ φ κ β ω k (by omega)) (cwV 1 hts gX8_countedOf_X8_folderOf rfl rfl rfl vdX8_folderOf ⟨Nat.le_of_ble_eq_true rfl, Nat.le_of_ble_eq_true rfl⟩) (oB.recv hK hM.1 rfl) hM hK rfl hl.1 rfl dX8_countedOf_23 hcs (Nat.le_of_ble_eq_true rfl) ?_
      have hfk := hI.fil (k := k) hk.1 (by omega)
      refine z_rVi (pc := 26) (As := [.int (iI (σ (189 + k)))]) (rest := [.long (iL a)]) E hml hown hts (mX8_projectOf lL G o μ σ φ κ β ω (σ (189 + k)) hI (Or.inr hfk.1)) (cwV 1 hts gX8_countedOf_X8_projectOf rfl rfl rfl vdX8_projectOf ⟨Nat.le_of_ble_eq_true rfl, Nat.le_of_ble_eq_true rfl⟩) (oB.recv hK hM.1 rfl) hM hK rfl hl.1 rfl dX8_countedOf_26 hcs (Nat.le_of_ble_eq_true rfl) ?_
      have hpk := hI.pjr (f := σ (189 + k)) (Or.inr hfk.1)
      refine lv_iload_n (pc := 29) E.1 E.2 dX8_countedOf_29 rfl (lv_at hl 3 rfl) ?_
      refine z_icmp_ne (pc := 30) (tgt := 55) E ⟨by omega, by omega⟩ ⟨by omega, by omega⟩ dX8_countedOf_30 (by decide) (fun h30 => ?_) (fun h30 => ?_)
      · refine z_lconst (pc := 55) (v := 0) E (by decide) dX8_countedOf_55 ?_
        refine z_ladd (pc := 56) E dX8_countedOf_56 ?_
        refine lv_lstore_n (pc := 57) (lv' := [(3, .long (iL (a + 0))), (5, .int (iI k)), (0, .ref (o 0)), (1, .int (iI p)), (2, .int (iI b))]) E.1 E.2 dX8_countedOf_57 rfl hl (by decide) rfl (fun ls hl => ?_)
        refine lv_iinc (pc := 58) (v := iI (k + 1)) (lv' := [(5, .int (iI (k + 1))), (3, .long (iL (a + 0))), (0, .ref (o 0)), (1, .int (iI p)), (2, .int (iI b))]) E.1 E.2 dX8_countedOf_58 hl (k := 1) rfl (iI_add _ _) (by decide) rfl (fun ls hl => ?_)
        refine lv_goto (pc := 61) (tgt := 5) E.1 E.2 dX8_countedOf_61 (by decide) ?_
        exact ihL5 (a + 0) (k + 1) (by omega) (by rw [cn_s _ hk.1, ← hn]; unfold coP; first | rw [if_neg h30] | rw [if_pos h30, if_pos h34] | rw [if_pos h30, if_neg h34]) (by omega) ls (lv_sub hl [0, 1, 2, 3, 4] rfl)
      · refine lv_iload_n (pc := 33) E.1 E.2 dX8_countedOf_33 rfl (lv_at hl 4 rfl) ?_
        refine z_if_ne (pc := 34) (tgt := 51) E (by omega) dX8_countedOf_34 (by decide) (fun h34 => ?_) (fun h34 => ?_)
        · refine z_lconst (pc := 51) (v := 1) E (by decide) dX8_countedOf_51 ?_
          refine lv_goto (pc := 52) (tgt := 56) E.1 E.2 dX8_countedOf_52 (by decide) ?_
          refine z_ladd (pc := 56) E dX8_countedOf_56 ?_
          refine lv_lstore_n (pc := 57) (lv' := [(3, .long (iL (a + 1))), (5, .int (iI k)), (0, .ref (o 0)), (1, .int (iI p)), (2, .int (iI b))]) E.1 E.2 dX8_countedOf_57 rfl hl (by decide) rfl (fun ls hl => ?_)
          refine lv_iinc (pc := 58) (v := iI (k + 1)) (lv' := [(5, .int (iI (k + 1))), (3, .long (iL (a + 1))), (0, .ref (o 0)), (1, .int (iI p)), (2, .int (iI b))]) E.1 E.2 dX8_countedOf_58 hl (k := 1) rfl (iI_add _ _) (by decide) rfl (fun ls hl => ?_)
          refine lv_goto (pc := 61) (tgt := 5) E.1 E.2 dX8_countedOf_61 (by decide) ?_
          exact ihL5 (a + 1) (k + 1) (by omega) (by rw [cn_s _ hk.1, ← hn]; unfold coP; first | rw [if_neg h30] | rw [if_pos h30, if_pos h34] | rw [if_pos h30, if_neg h34]) (by omega) ls (lv_sub hl [0, 1, 2, 3, 4] rfl)
        · refine lv_aload_n (pc := 37) E.1 E.2 dX8_countedOf_37 rfl (lv_at hl 2 rfl) ?_
          refine g8_0 (pc := 38) E hts hin8 hown hK hM.1 (hts _ (List.mem_of_getElem? (i := 1) rfl)) dX8_countedOf_38 ?_
          refine z_sipush (pc := 41) E (by decide) dX8_countedOf_41 ?_
          refine lv_iload (pc := 44) E.1 E.2 dX8_countedOf_44 (lv_at hl 0 rfl) ?_
          refine z_iadd (pc := 46) E dX8_countedOf_46 ?_
          refine z_laload (pc := 47) E hK hM.2.1 ⟨by omega, by omega⟩ (by decide) dX8_countedOf_47 ?_
          have hb47 := hI.bd (249 + k)
          refine lv_goto (pc := 48) (tgt := 56) E.1 E.2 dX8_countedOf_48 (by decide) ?_
          refine z_ladd (pc := 56) E dX8_countedOf_56 ?_
          refine lv_lstore_n (pc := 57) (lv' := [(3, .long (iL (a + (σ (249 + k))))), (5, .int (iI k)), (0, .ref (o 0)), (1, .int (iI p)), (2, .int (iI b))]) E.1 E.2 dX8_countedOf_57 rfl hl (by decide) rfl (fun ls hl => ?_)
          refine lv_iinc (pc := 58) (v := iI (k + 1)) (lv' := [(5, .int (iI (k + 1))), (3, .long (iL (a + (σ (249 + k))))), (0, .ref (o 0)), (1, .int (iI p)), (2, .int (iI b))]) E.1 E.2 dX8_countedOf_58 hl (k := 1) rfl (iI_add _ _) (by decide) rfl (fun ls hl => ?_)
          refine lv_goto (pc := 61) (tgt := 5) E.1 E.2 dX8_countedOf_61 (by decide) ?_
          exact ihL5 (a + (σ (249 + k))) (k + 1) (by omega) (by rw [cn_s _ hk.1, ← hn]; unfold coP; first | rw [if_neg h30] | rw [if_pos h30, if_pos h34] | rw [if_pos h30, if_neg h34]) (by omega) ls (lv_sub hl [0, 1, 2, 3, 4] rfl)
set_option maxHeartbeats 4000000 in
set_option maxRecDepth 100000 in
theorem mX8_filesBelow (lL : Launch) (G : GG) (o : Nat → Nat) (μ σ φ κ β ω : Int → Int) (f : Int) (b : Int) (hI : In σ) (hf : 0 ≤ f ∧ f < σ 2) (hb : b = 0 ∨ b = 1) : Met lL yX8_filesBelow wsX8_filesBelow ({ frames := 2, cells := 0, slots := 0, locals := 44 } : Room) (va_Pc [.ref (o 0), .int (iI f), .int (iI b)] (fun U => W8 G o (mV o μ) σ φ κ β ω U.heap ∧ KK G U)) (vp_Sl (fun r => r = (iL (mbS σ f b)))) 0 0 (fun _ => False) := by
  refine z_met (P := (fun H : Heap => W8 G o (mV o μ) σ φ κ β ω H)) (by decide) rfl (Nat.le_of_ble_eq_true rfl) (fun pp ee ss mm below meth cC E hr hml hown hts hlocks hM hK ls hl => ?_)
  have hl : lv_has ls 6 [(0, .ref (o 0)), (1, .int (iI f)), (2, .int (iI b))] := hl
  have hcs : 0 ≤ (({ frames := 2, cells := 0, slots := 0, locals := 44 } : Room)).cells ∧ 0 ≤ (({ frames := 2, cells := 0, slots := 0, locals := 44 } : Room)).slots := ⟨Nat.zero_le _, Nat.zero_le _⟩
  have hin8 : ∀ w ∈ wsX80, w ∈ wsX8_filesBelow := fun w h => List.mem_cons_of_mem _ (List.mem_append_right _ (h))
  have hF := hI.F
  have hMm := hI.M
  have hGn := hI.Gn
  refine z_lconst (pc := 0) (v := 0) E (by decide) dX8_filesBelow_0 ?_
  refine lv_lstore_n (pc := 1) (lv' := [(3, .long (iL 0)), (0, .ref (o 0)), (1, .int (iI f)), (2, .int (iI b))]) E.1 E.2 dX8_filesBelow_1 rfl hl (by decide) rfl (fun ls hl => ?_)
  refine z_iconst (pc := 2) E dX8_filesBelow_2 ?_
  refine lv_istore (pc := 3) (lv' := [(5, .int (iI 0)), (3, .long (iL 0)), (0, .ref (o 0)), (1, .int (iI f)), (2, .int (iI b))]) E.1 E.2 dX8_filesBelow_3 hl (by decide) rfl (fun ls hl => ?_)
  suffices L5 : ∀ (nf : Nat), ∀ (a k : Int), (0 ≤ k ∧ k ≤ σ 3) → (a = cn (mbP σ f b) k.toNat) → ((σ 3 - k).toNat) < nf → ∀ ls : Array Slot, lv_has ls 6 [(5, .int (iI k)), (3, .long (iL a)), (0, .ref (o 0)), (1, .int (iI f)), (2, .int (iI b))] → W pp lL ee ({ frames := 2, cells := 0, slots := 0, locals := 44 } : Room) ss mm [.ref (o 0), .int (iI f), .int (iI b)].toArray below meth cC ss.heap [] 0 0 (MQ below (vp_Sl (fun r => r = (iL (mbS σ f b)))) [.ref (o 0), .int (iI f), .int (iI b)].toArray ss 0 0 (fun _ => False)) (F0 mm 5 ls []) from L5 _ 0 0 (by omega) rfl (Nat.lt_succ_self _) ls (lv_sub hl [0, 1, 2, 3, 4] rfl)
  intro nfL5
  induction nfL5 with
  | zero => intro a k hk hn hmzL5; exact absurd hmzL5 (Nat.not_lt_zero _)
  | succ nfL5 ihL5 =>
    intro a k hk hn hmzL5 ls hl
    refine lv_iload (pc := 5) E.1 E.2 dX8_filesBelow_5 (lv_at hl 0 rfl) ?_
    refine z_i2l (pc := 7) E ⟨by omega, by omega⟩ dX8_filesBelow_7 ?_
    refine lv_aload_n (pc := 8) E.1 E.2 dX8_filesBelow_8 rfl (lv_at hl 2 rfl) ?_
    refine g8_0 (pc := 9) E hts hin8 hown hK hM.1 (hts _ (List.mem_of_getElem? (i := 1) rfl)) dX8_filesBelow_9 ?_
    refine z_iconst (pc := 12) E dX8_filesBelow_12 ?_
    refine z_laload (pc := 13) E hK hM.2.1 ⟨by omega, by omega⟩ (by decide) dX8_filesBelow_13 ?_
    have hb13 := hI.bd 3
    refine z_lcmp_ge (pc := 14) (tgt := 64) E ⟨by omega, by omega⟩ ⟨by omega, by omega⟩ dX8_filesBelow_14 dX8_filesBelow_15 (by decide) (fun h14 => ?_) (fun h14 => ?_)
    · refine lv_lload_n (pc := 64) E.1 E.2 dX8_filesBelow_64 rfl (lv_at hl 1 rfl) ?_
      exact z_retRl E hr (congrArg iL (by (rw [hn]; unfold mbS; congr 2; omega))) hlocks dX8_filesBelow_65
    · refine lv_lload_n (pc := 18) E.1 E.2 dX8_filesBelow_18 rfl (lv_at hl 1 rfl) ?_
      refine lv_aload_n (pc := 19) E.1 E.2 dX8_filesBelow_19 rfl (lv_at hl 2 rfl) ?_
      refine lv_aload_n (pc := 20) E.1 E.2 dX8_filesBelow_20 rfl (lv_at hl 2 rfl) ?_
      refine lv_iload (pc := 21) E.1 E.2 dX8_filesBelow_21 (lv_at hl 0 rfl) ?_
      refine z_rVi (pc := 23) (As := [.int (iI k)]) (rest := [.ref (o 0), .long (iL a)]) E hml hown hts (mX8_folderOf lL G o μ σ φ κ β ω k (by omega)) (cwV 1 hts gX8_filesBelow_X8_folderOf rfl rfl rfl vdX8_folderOf ⟨Nat.le_of_ble_eq_true rfl, Nat.le_of_ble_eq_true rfl⟩) (oB.recv hK hM.1 rfl) hM hK rfl hl.1 rfl dX8_filesBelow_23 hcs (Nat.le_of_ble_eq_true rfl) ?_
      have hfk := hI.fil (k := k) hk.1 (by omega)
      refine lv_iload_n (pc := 26) E.1 E.2 dX8_filesBelow_26 rfl (lv_at hl 3 rfl) ?_
      refine z_rVi (pc := 27) (As := [.int (iI (σ (189 + k))), .int (iI f)]) (rest := [.long (iL a)]) E hml hown hts (mX8_isBelow lL G o μ σ φ κ β ω (σ (189 + k)) f hI (Or.inr hfk.1) (by omega)) (cwV 2 hts gX8_filesBelow_X8_isBelow rfl rfl rfl vdX8_isBelow ⟨Nat.le_of_ble_eq_true rfl, Nat.le_of_ble_eq_true rfl⟩) (oB.recv hK hM.1 rfl) hM hK rfl hl.1 rfl dX8_filesBelow_27 hcs (Nat.le_of_ble_eq_true rfl) ?_
      refine z_ifb_eq (pc := 30) (tgt := 55) E dX8_filesBelow_30 (by decide) (fun h30 => ?_) (fun h30 => ?_)
      · refine z_lconst (pc := 55) (v := 0) E (by decide) dX8_filesBelow_55 ?_
        refine z_ladd (pc := 56) E dX8_filesBelow_56 ?_
        refine lv_lstore_n (pc := 57) (lv' := [(3, .long (iL (a + 0))), (5, .int (iI k)), (0, .ref (o 0)), (1, .int (iI f)), (2, .int (iI b))]) E.1 E.2 dX8_filesBelow_57 rfl hl (by decide) rfl (fun ls hl => ?_)
        refine lv_iinc (pc := 58) (v := iI (k + 1)) (lv' := [(5, .int (iI (k + 1))), (3, .long (iL (a + 0))), (0, .ref (o 0)), (1, .int (iI f)), (2, .int (iI b))]) E.1 E.2 dX8_filesBelow_58 hl (k := 1) rfl (iI_add _ _) (by decide) rfl (fun ls hl => ?_)
        refine lv_goto (pc := 61) (tgt := 5) E.1 E.2 dX8_filesBelow_61 (by decide) ?_
        exact ihL5 (a + 0) (k + 1) (by omega) (by rw [cn_s _ hk.1, ← hn]; unfold mbP; first | rw [if_neg h30] | rw [if_pos h30, if_pos h34] | rw [if_pos h30, if_neg h34]) (by omega) ls (lv_sub hl [0, 1, 2, 3, 4] rfl)
      · refine lv_iload_n (pc := 33) E.1 E.2 dX8_filesBelow_33 rfl (lv_at hl 4 rfl) ?_
        refine z_if_eq (pc := 34) (tgt := 51) E (by omega) dX8_filesBelow_34 (by decide) (fun h34 => ?_) (fun h34 => ?_)
        · refine z_lconst (pc := 51) (v := 1) E (by decide) dX8_filesBelow_51 ?_
          refine lv_goto (pc := 52) (tgt := 56) E.1 E.2 dX8_filesBelow_52 (by decide) ?_
          refine z_ladd (pc := 56) E dX8_filesBelow_56 ?_
          refine lv_lstore_n (pc := 57) (lv' := [(3, .long (iL (a + 1))), (5, .int (iI k)), (0, .ref (o 0)), (1, .int (iI f)), (2, .int (iI b))]) E.1 E.2 dX8_filesBelow_57 rfl hl (by decide) rfl (fun ls hl => ?_)
          refine lv_iinc (pc := 58) (v := iI (k + 1)) (lv' := [(5, .int (iI (k + 1))), (3, .long (iL (a + 1))), (0, .ref (o 0)), (1, .int (iI f)), (2, .int (iI b))]) E.1 E.2 dX8_filesBelow_58 hl (k := 1) rfl (iI_add _ _) (by decide) rfl (fun ls hl => ?_)
          refine lv_goto (pc := 61) (tgt := 5) E.1 E.2 dX8_filesBelow_61 (by decide) ?_
          exact ihL5 (a + 1) (k + 1) (by omega) (by rw [cn_s _ hk.1, ← hn]; unfold mbP; first | rw [if_neg h30] | rw [if_pos h30, if_pos h34] | rw [if_pos h30, if_neg h34]) (by omega) ls (lv_sub hl [0, 1, 2, 3, 4] rfl)
        · refine lv_aload_n (pc := 37) E.1 E.2 dX8_filesBelow_37 rfl (lv_at hl 2 rfl) ?_
          refine g8_0 (pc := 38) E hts hin8 hown hK hM.1 (hts _ (List.mem_of_getElem? (i := 1) rfl)) dX8_filesBelow_38 ?_
          refine z_sipush (pc := 41) E (by decide) dX8_filesBelow_41 ?_
          refine lv_iload (pc := 44) E.1 E.2 dX8_filesBelow_44 (lv_at hl 0 rfl) ?_
          refine z_iadd (pc := 46) E dX8_filesBelow_46 ?_
          refine z_laload (pc := 47) E hK hM.2.1 ⟨by omega, by omega⟩ (by decide) dX8_filesBelow_47 ?_
          have hb47 := hI.bd (249 + k)
          refine lv_goto (pc := 48) (tgt := 56) E.1 E.2 dX8_filesBelow_48 (by decide) ?_
          refine z_ladd (pc := 56) E dX8_filesBelow_56 ?_
          refine lv_lstore_n (pc := 57) (lv' := [(3, .long (iL (a + (σ (249 + k))))), (5, .int (iI k)), (0, .ref (o 0)), (1, .int (iI f)), (2, .int (iI b))]) E.1 E.2 dX8_filesBelow_57 rfl hl (by decide) rfl (fun ls hl => ?_)
          refine lv_iinc (pc := 58) (v := iI (k + 1)) (lv' := [(5, .int (iI (k + 1))), (3, .long (iL (a + (σ (249 + k))))), (0, .ref (o 0)), (1, .int (iI f)), (2, .int (iI b))]) E.1 E.2 dX8_filesBelow_58 hl (k := 1) rfl (iI_add _ _) (by decide) rfl (fun ls hl => ?_)
          refine lv_goto (pc := 61) (tgt := 5) E.1 E.2 dX8_filesBelow_61 (by decide) ?_
          exact ihL5 (a + (σ (249 + k))) (k + 1) (by omega) (by rw [cn_s _ hk.1, ← hn]; unfold mbP; first | rw [if_neg h30] | rw [if_pos h30, if_pos h34] | rw [if_pos h30, if_neg h34]) (by omega) ls (lv_sub hl [0, 1, 2, 3, 4] rfl)
set_option maxHeartbeats 4000000 in
set_option maxRecDepth 100000 in
theorem mX8_openOf (lL : Launch) (G : GG) (o : Nat → Nat) (μ σ φ κ β ω : Int → Int) (f : Int) (b : Int) (hI : In σ) (hf : 0 ≤ f ∧ f < σ 2) (hb : b = 0 ∨ b = 1) : Met lL yX8_openOf wsX8_openOf ({ frames := 2, cells := 0, slots := 0, locals := 44 } : Room) (va_Pc [.ref (o 0), .int (iI f), .int (iI b)] (fun U => W8 G o (mV o μ) σ φ κ β ω U.heap ∧ KK G U)) (vp_Sl (fun r => r = (iL (opS σ f b)))) 0 0 (fun _ => False) := by
  refine z_met (P := (fun H : Heap => W8 G o (mV o μ) σ φ κ β ω H)) (by decide) rfl (Nat.le_of_ble_eq_true rfl) (fun pp ee ss mm below meth cC E hr hml hown hts hlocks hM hK ls hl => ?_)
  have hl : lv_has ls 6 [(0, .ref (o 0)), (1, .int (iI f)), (2, .int (iI b))] := hl
  have hcs : 0 ≤ (({ frames := 2, cells := 0, slots := 0, locals := 44 } : Room)).cells ∧ 0 ≤ (({ frames := 2, cells := 0, slots := 0, locals := 44 } : Room)).slots := ⟨Nat.zero_le _, Nat.zero_le _⟩
  have hin8 : ∀ w ∈ wsX80, w ∈ wsX8_openOf := fun w h => List.mem_cons_of_mem _ (List.mem_append_right _ (h))
  have hF := hI.F
  have hMm := hI.M
  have hGn := hI.Gn
  refine z_lconst (pc := 0) (v := 0) E (by decide) dX8_openOf_0 ?_
  refine lv_lstore_n (pc := 1) (lv' := [(3, .long (iL 0)), (0, .ref (o 0)), (1, .int (iI f)), (2, .int (iI b))]) E.1 E.2 dX8_openOf_1 rfl hl (by decide) rfl (fun ls hl => ?_)
  refine z_iconst (pc := 2) E dX8_openOf_2 ?_
  refine lv_istore (pc := 3) (lv' := [(5, .int (iI 0)), (3, .long (iL 0)), (0, .ref (o 0)), (1, .int (iI f)), (2, .int (iI b))]) E.1 E.2 dX8_openOf_3 hl (by decide) rfl (fun ls hl => ?_)
  suffices L5 : ∀ (nf : Nat), ∀ (a k : Int), (0 ≤ k ∧ k ≤ σ 3) → (a = cn (opP σ f b) k.toNat) → ((σ 3 - k).toNat) < nf → ∀ ls : Array Slot, lv_has ls 6 [(5, .int (iI k)), (3, .long (iL a)), (0, .ref (o 0)), (1, .int (iI f)), (2, .int (iI b))] → W pp lL ee ({ frames := 2, cells := 0, slots := 0, locals := 44 } : Room) ss mm [.ref (o 0), .int (iI f), .int (iI b)].toArray below meth cC ss.heap [] 0 0 (MQ below (vp_Sl (fun r => r = (iL (opS σ f b)))) [.ref (o 0), .int (iI f), .int (iI b)].toArray ss 0 0 (fun _ => False)) (F0 mm 5 ls []) from L5 _ 0 0 (by omega) rfl (Nat.lt_succ_self _) ls (lv_sub hl [0, 1, 2, 3, 4] rfl)
  intro nfL5
  induction nfL5 with
  | zero => intro a k hk hn hmzL5; exact absurd hmzL5 (Nat.not_lt_zero _)
  | succ nfL5 ihL5 =>
    intro a k hk hn hmzL5 ls hl
    refine lv_iload (pc := 5) E.1 E.2 dX8_openOf_5 (lv_at hl 0 rfl) ?_
    refine z_i2l (pc := 7) E ⟨by omega, by omega⟩ dX8_openOf_7 ?_
    refine lv_aload_n (pc := 8) E.1 E.2 dX8_openOf_8 rfl (lv_at hl 2 rfl) ?_
    refine g8_0 (pc := 9) E hts hin8 hown hK hM.1 (hts _ (List.mem_of_getElem? (i := 1) rfl)) dX8_openOf_9 ?_
    refine z_iconst (pc := 12) E dX8_openOf_12 ?_
    refine z_laload (pc := 13) E hK hM.2.1 ⟨by omega, by omega⟩ (by decide) dX8_openOf_13 ?_
    have hb13 := hI.bd 3
    refine z_lcmp_ge (pc := 14) (tgt := 64) E ⟨by omega, by omega⟩ ⟨by omega, by omega⟩ dX8_openOf_14 dX8_openOf_15 (by decide) (fun h14 => ?_) (fun h14 => ?_)
    · refine lv_lload_n (pc := 64) E.1 E.2 dX8_openOf_64 rfl (lv_at hl 1 rfl) ?_
      exact z_retRl E hr (congrArg iL (by (rw [hn]; unfold opS; congr 2; omega))) hlocks dX8_openOf_65
    · refine lv_lload_n (pc := 18) E.1 E.2 dX8_openOf_18 rfl (lv_at hl 1 rfl) ?_
      refine lv_aload_n (pc := 19) E.1 E.2 dX8_openOf_19 rfl (lv_at hl 2 rfl) ?_
      refine lv_aload_n (pc := 20) E.1 E.2 dX8_openOf_20 rfl (lv_at hl 2 rfl) ?_
      refine lv_iload (pc := 21) E.1 E.2 dX8_openOf_21 (lv_at hl 0 rfl) ?_
      refine z_rVi (pc := 23) (As := [.int (iI k)]) (rest := [.ref (o 0), .long (iL a)]) E hml hown hts (mX8_folderOf lL G o μ σ φ κ β ω k (by omega)) (cwV 1 hts gX8_openOf_X8_folderOf rfl rfl rfl vdX8_folderOf ⟨Nat.le_of_ble_eq_true rfl, Nat.le_of_ble_eq_true rfl⟩) (oB.recv hK hM.1 rfl) hM hK rfl hl.1 rfl dX8_openOf_23 hcs (Nat.le_of_ble_eq_true rfl) ?_
      have hfk := hI.fil (k := k) hk.1 (by omega)
      refine lv_iload_n (pc := 26) E.1 E.2 dX8_openOf_26 rfl (lv_at hl 3 rfl) ?_
      refine z_rVi (pc := 27) (As := [.int (iI (σ (189 + k))), .int (iI f)]) (rest := [.long (iL a)]) E hml hown hts (mX8_isOpenTo lL G o μ σ φ κ β ω (σ (189 + k)) f hI (Or.inr hfk.1) (by omega)) (cwV 2 hts gX8_openOf_X8_isOpenTo rfl rfl rfl vdX8_isOpenTo ⟨Nat.le_of_ble_eq_true rfl, Nat.le_of_ble_eq_true rfl⟩) (oB.recv hK hM.1 rfl) hM hK rfl hl.1 rfl dX8_openOf_27 hcs (Nat.le_of_ble_eq_true rfl) ?_
      refine z_ifb_eq (pc := 30) (tgt := 55) E dX8_openOf_30 (by decide) (fun h30 => ?_) (fun h30 => ?_)
      · refine z_lconst (pc := 55) (v := 0) E (by decide) dX8_openOf_55 ?_
        refine z_ladd (pc := 56) E dX8_openOf_56 ?_
        refine lv_lstore_n (pc := 57) (lv' := [(3, .long (iL (a + 0))), (5, .int (iI k)), (0, .ref (o 0)), (1, .int (iI f)), (2, .int (iI b))]) E.1 E.2 dX8_openOf_57 rfl hl (by decide) rfl (fun ls hl => ?_)
        refine lv_iinc (pc := 58) (v := iI (k + 1)) (lv' := [(5, .int (iI (k + 1))), (3, .long (iL (a + 0))), (0, .ref (o 0)), (1, .int (iI f)), (2, .int (iI b))]) E.1 E.2 dX8_openOf_58 hl (k := 1) rfl (iI_add _ _) (by decide) rfl (fun ls hl => ?_)
        refine lv_goto (pc := 61) (tgt := 5) E.1 E.2 dX8_openOf_61 (by decide) ?_
        exact ihL5 (a + 0) (k + 1) (by omega) (by rw [cn_s _ hk.1, ← hn]; unfold opP; first | rw [if_neg h30] | rw [if_pos h30, if_pos h34] | rw [if_pos h30, if_neg h34]) (by omega) ls (lv_sub hl [0, 1, 2, 3, 4] rfl)
      · refine lv_iload_n (pc := 33) E.1 E.2 dX8_openOf_33 rfl (lv_at hl 4 rfl) ?_
        refine z_if_eq (pc := 34) (tgt := 51) E (by omega) dX8_openOf_34 (by decide) (fun h34 => ?_) (fun h34 => ?_)
        · refine z_lconst (pc := 51) (v := 1) E (by decide) dX8_openOf_51 ?_
          refine lv_goto (pc := 52) (tgt := 56) E.1 E.2 dX8_openOf_52 (by decide) ?_
          refine z_ladd (pc := 56) E dX8_openOf_56 ?_
          refine lv_lstore_n (pc := 57) (lv' := [(3, .long (iL (a + 1))), (5, .int (iI k)), (0, .ref (o 0)), (1, .int (iI f)), (2, .int (iI b))]) E.1 E.2 dX8_openOf_57 rfl hl (by decide) rfl (fun ls hl => ?_)
          refine lv_iinc (pc := 58) (v := iI (k + 1)) (lv' := [(5, .int (iI (k + 1))), (3, .long (iL (a + 1))), (0, .ref (o 0)), (1, .int (iI f)), (2, .int (iI b))]) E.1 E.2 dX8_openOf_58 hl (k := 1) rfl (iI_add _ _) (by decide) rfl (fun ls hl => ?_)
          refine lv_goto (pc := 61) (tgt := 5) E.1 E.2 dX8_openOf_61 (by decide) ?_
          exact ihL5 (a + 1) (k + 1) (by omega) (by rw [cn_s _ hk.1, ← hn]; unfold opP; first | rw [if_neg h30] | rw [if_pos h30, if_pos h34] | rw [if_pos h30, if_neg h34]) (by omega) ls (lv_sub hl [0, 1, 2, 3, 4] rfl)
        · refine lv_aload_n (pc := 37) E.1 E.2 dX8_openOf_37 rfl (lv_at hl 2 rfl) ?_
          refine g8_0 (pc := 38) E hts hin8 hown hK hM.1 (hts _ (List.mem_of_getElem? (i := 1) rfl)) dX8_openOf_38 ?_
          refine z_sipush (pc := 41) E (by decide) dX8_openOf_41 ?_
          refine lv_iload (pc := 44) E.1 E.2 dX8_openOf_44 (lv_at hl 0 rfl) ?_
          refine z_iadd (pc := 46) E dX8_openOf_46 ?_
          refine z_laload (pc := 47) E hK hM.2.1 ⟨by omega, by omega⟩ (by decide) dX8_openOf_47 ?_
          have hb47 := hI.bd (249 + k)
          refine lv_goto (pc := 48) (tgt := 56) E.1 E.2 dX8_openOf_48 (by decide) ?_
          refine z_ladd (pc := 56) E dX8_openOf_56 ?_
          refine lv_lstore_n (pc := 57) (lv' := [(3, .long (iL (a + (σ (249 + k))))), (5, .int (iI k)), (0, .ref (o 0)), (1, .int (iI f)), (2, .int (iI b))]) E.1 E.2 dX8_openOf_57 rfl hl (by decide) rfl (fun ls hl => ?_)
          refine lv_iinc (pc := 58) (v := iI (k + 1)) (lv' := [(5, .int (iI (k + 1))), (3, .long (iL (a + (σ (249 + k))))), (0, .ref (o 0)), (1, .int (iI f)), (2, .int (iI b))]) E.1 E.2 dX8_openOf_58 hl (k := 1) rfl (iI_add _ _) (by decide) rfl (fun ls hl => ?_)
          refine lv_goto (pc := 61) (tgt := 5) E.1 E.2 dX8_openOf_61 (by decide) ?_
          exact ihL5 (a + (σ (249 + k))) (k + 1) (by omega) (by rw [cn_s _ hk.1, ← hn]; unfold opP; first | rw [if_neg h30] | rw [if_pos h30, if_pos h34] | rw [if_pos h30, if_neg h34]) (by omega) ls (lv_sub hl [0, 1, 2, 3, 4] rfl)
set_option maxHeartbeats 4000000 in
set_option maxRecDepth 100000 in
theorem mX8_giftsOf (lL : Launch) (G : GG) (o : Nat → Nat) (μ σ φ κ β ω : Int → Int) (p : Int) (hI : In σ) (hp : -2147483648 ≤ p ∧ p < 2147483648) : Met lL yX8_giftsOf wsX8_giftsOf ({ frames := 0, cells := 0, slots := 0, locals := 0 } : Room) (va_Pc [.ref (o 0), .int (iI p)] (fun U => W8 G o (mV o μ) σ φ κ β ω U.heap ∧ KK G U)) (vp_Sl (fun r => r = (iL (giS σ p)))) 0 0 (fun _ => False) := by
  refine z_met (P := (fun H : Heap => W8 G o (mV o μ) σ φ κ β ω H)) (by decide) rfl (Nat.le_of_ble_eq_true rfl) (fun pp ee ss mm below meth cC E hr hml hown hts hlocks hM hK ls hl => ?_)
  have hl : lv_has ls 6 [(0, .ref (o 0)), (1, .int (iI p))] := hl
  have hcs : 0 ≤ (({ frames := 0, cells := 0, slots := 0, locals := 0 } : Room)).cells ∧ 0 ≤ (({ frames := 0, cells := 0, slots := 0, locals := 0 } : Room)).slots := ⟨Nat.zero_le _, Nat.zero_le _⟩
  have hin8 : ∀ w ∈ wsX80, w ∈ wsX8_giftsOf := fun w h => List.mem_cons_of_mem _ (List.mem_append_right _ (h))
  have hF := hI.F
  have hMm := hI.M
  have hGn := hI.Gn
  refine z_lconst (pc := 0) (v := 0) E (by decide) dX8_giftsOf_0 ?_
  refine lv_lstore_n (pc := 1) (lv' := [(2, .long (iL 0)), (0, .ref (o 0)), (1, .int (iI p))]) E.1 E.2 dX8_giftsOf_1 rfl hl (by decide) rfl (fun ls hl => ?_)
  refine z_iconst (pc := 2) E dX8_giftsOf_2 ?_
  refine lv_istore (pc := 3) (lv' := [(4, .int (iI 0)), (2, .long (iL 0)), (0, .ref (o 0)), (1, .int (iI p))]) E.1 E.2 dX8_giftsOf_3 hl (by decide) rfl (fun ls hl => ?_)
  suffices L5 : ∀ (nf : Nat), ∀ (a k : Int), (0 ≤ k ∧ k ≤ σ 4) → (a = cn (giP σ p) k.toNat) → ((σ 4 - k).toNat) < nf → ∀ ls : Array Slot, lv_has ls 6 [(4, .int (iI k)), (2, .long (iL a)), (0, .ref (o 0)), (1, .int (iI p))] → W pp lL ee ({ frames := 0, cells := 0, slots := 0, locals := 0 } : Room) ss mm [.ref (o 0), .int (iI p)].toArray below meth cC ss.heap [] 0 0 (MQ below (vp_Sl (fun r => r = (iL (giS σ p)))) [.ref (o 0), .int (iI p)].toArray ss 0 0 (fun _ => False)) (F0 mm 5 ls []) from L5 _ 0 0 (by omega) rfl (Nat.lt_succ_self _) ls (lv_sub hl [0, 1, 2, 3] rfl)
  intro nfL5
  induction nfL5 with
  | zero => intro a k hk hn hmzL5; exact absurd hmzL5 (Nat.not_lt_zero _)
  | succ nfL5 ihL5 =>
    intro a k hk hn hmzL5 ls hl
    refine lv_iload (pc := 5) E.1 E.2 dX8_giftsOf_5 (lv_at hl 0 rfl) ?_
    refine z_i2l (pc := 7) E ⟨by omega, by omega⟩ dX8_giftsOf_7 ?_
    refine lv_aload_n (pc := 8) E.1 E.2 dX8_giftsOf_8 rfl (lv_at hl 2 rfl) ?_
    refine g8_0 (pc := 9) E hts hin8 hown hK hM.1 (hts _ (List.mem_of_getElem? (i := 1) rfl)) dX8_giftsOf_9 ?_
    refine z_iconst (pc := 12) E dX8_giftsOf_12 ?_
    refine z_laload (pc := 13) E hK hM.2.1 ⟨by omega, by omega⟩ (by decide) dX8_giftsOf_13 ?_
    have hb13 := hI.bd 4
    refine z_lcmp_ge (pc := 14) (tgt := 96) E ⟨by omega, by omega⟩ ⟨by omega, by omega⟩ dX8_giftsOf_14 dX8_giftsOf_15 (by decide) (fun h14 => ?_) (fun h14 => ?_)
    · refine lv_lload_n (pc := 96) E.1 E.2 dX8_giftsOf_96 rfl (lv_at hl 1 rfl) ?_
      exact z_retRl E hr (congrArg iL (by (rw [hn]; unfold giS; congr 2; omega))) hlocks dX8_giftsOf_97
    · refine z_sipush (pc := 18) E (by decide) dX8_giftsOf_18 ?_
      refine z_iconst (pc := 21) E dX8_giftsOf_21 ?_
      refine lv_iload (pc := 22) E.1 E.2 dX8_giftsOf_22 (lv_at hl 0 rfl) ?_
      refine z_imul (pc := 24) E dX8_giftsOf_24 ?_
      refine z_iadd (pc := 25) E dX8_giftsOf_25 ?_
      refine lv_istore (pc := 26) (lv' := [(5, .int (iI (309 + (4 * k)))), (4, .int (iI k)), (2, .long (iL a)), (0, .ref (o 0)), (1, .int (iI p))]) E.1 E.2 dX8_giftsOf_26 hl (by decide) rfl (fun ls hl => ?_)
      refine lv_lload_n (pc := 28) E.1 E.2 dX8_giftsOf_28 rfl (lv_at hl 2 rfl) ?_
      refine lv_aload_n (pc := 29) E.1 E.2 dX8_giftsOf_29 rfl (lv_at hl 3 rfl) ?_
      refine g8_0 (pc := 30) E hts hin8 hown hK hM.1 (hts _ (List.mem_of_getElem? (i := 1) rfl)) dX8_giftsOf_30 ?_
      refine lv_iload (pc := 33) E.1 E.2 dX8_giftsOf_33 (lv_at hl 0 rfl) ?_
      refine z_iconst (pc := 35) E dX8_giftsOf_35 ?_
      refine z_iadd (pc := 36) E dX8_giftsOf_36 ?_
      refine z_laload (pc := 37) E hK hM.2.1 ⟨by omega, by omega⟩ (by decide) dX8_giftsOf_37 ?_
      have hb37 := hI.bd ((309 + (4 * k)) + 1)
      refine lv_iload_n (pc := 38) E.1 E.2 dX8_giftsOf_38 rfl (lv_at hl 4 rfl) ?_
      refine z_i2l (pc := 39) E ⟨by omega, by omega⟩ dX8_giftsOf_39 ?_
      refine z_lcmp_ne (pc := 40) (tgt := 56) E ⟨by omega, by omega⟩ ⟨by omega, by omega⟩ dX8_giftsOf_40 dX8_giftsOf_41 (by decide) (fun h40 => ?_) (fun h40 => ?_)
      · have h41f : ¬ σ (309 + 4 * k + 1) = p := h40
        refine z_lconst (pc := 56) (v := 0) E (by decide) dX8_giftsOf_56 ?_
        refine z_ladd (pc := 57) E dX8_giftsOf_57 ?_
        refine lv_lstore_n (pc := 58) (lv' := [(2, .long (iL (a + 0))), (5, .int (iI (309 + (4 * k)))), (4, .int (iI k)), (0, .ref (o 0)), (1, .int (iI p))]) E.1 E.2 dX8_giftsOf_58 rfl hl (by decide) rfl (fun ls hl => ?_)
        refine lv_lload_n (pc := 59) E.1 E.2 dX8_giftsOf_59 rfl (lv_at hl 0 rfl) ?_
        refine lv_aload_n (pc := 60) E.1 E.2 dX8_giftsOf_60 rfl (lv_at hl 3 rfl) ?_
        refine g8_0 (pc := 61) E hts hin8 hown hK hM.1 (hts _ (List.mem_of_getElem? (i := 1) rfl)) dX8_giftsOf_61 ?_
        refine lv_iload (pc := 64) E.1 E.2 dX8_giftsOf_64 (lv_at hl 1 rfl) ?_
        refine z_iconst (pc := 66) E dX8_giftsOf_66 ?_
        refine z_iadd (pc := 67) E dX8_giftsOf_67 ?_
        refine z_laload (pc := 68) E hK hM.2.1 ⟨by omega, by omega⟩ (by decide) dX8_giftsOf_68 ?_
        have hb68 := hI.bd ((309 + (4 * k)) + 0)
        refine lv_iload_n (pc := 69) E.1 E.2 dX8_giftsOf_69 rfl (lv_at hl 4 rfl) ?_
        refine z_i2l (pc := 70) E ⟨by omega, by omega⟩ dX8_giftsOf_70 ?_
        refine z_lcmp_ne (pc := 71) (tgt := 87) E ⟨by omega, by omega⟩ ⟨by omega, by omega⟩ dX8_giftsOf_71 dX8_giftsOf_72 (by decide) (fun h71 => ?_) (fun h71 => ?_)
        · have h72f : ¬ σ (309 + 4 * k) = p := by rw [show (309 + 4 * k : Int) = 309 + 4 * k + 0 by omega]; exact h71
          refine z_lconst (pc := 87) (v := 0) E (by decide) dX8_giftsOf_87 ?_
          refine z_lsub (pc := 88) E dX8_giftsOf_88 ?_
          refine lv_lstore_n (pc := 89) (lv' := [(2, .long (iL ((a + 0) - 0))), (5, .int (iI (309 + (4 * k)))), (4, .int (iI k)), (0, .ref (o 0)), (1, .int (iI p))]) E.1 E.2 dX8_giftsOf_89 rfl hl (by decide) rfl (fun ls hl => ?_)
          refine lv_iinc (pc := 90) (v := iI (k + 1)) (lv' := [(4, .int (iI (k + 1))), (2, .long (iL ((a + 0) - 0))), (5, .int (iI (309 + (4 * k)))), (0, .ref (o 0)), (1, .int (iI p))]) E.1 E.2 dX8_giftsOf_90 hl (k := 2) rfl (iI_add _ _) (by decide) rfl (fun ls hl => ?_)
          refine lv_goto (pc := 93) (tgt := 5) E.1 E.2 dX8_giftsOf_93 (by decide) ?_
          exact ihL5 ((a + 0) - 0) (k + 1) (by omega) (by rw [cn_s _ hk.1, ← hn]; unfold giP; first | (rw [if_pos h41f, if_pos h72f]; omega) | (rw [if_pos h41f, if_neg h72f]; omega) | (rw [if_neg h41f, if_pos h72f]; omega) | (rw [if_neg h41f, if_neg h72f]; omega)) (by omega) ls (lv_sub hl [0, 1, 3, 4] rfl)
        · have h72f : σ (309 + 4 * k) = p := by rw [show (309 + 4 * k : Int) = 309 + 4 * k + 0 by omega]; exact h71
          refine lv_aload_n (pc := 75) E.1 E.2 dX8_giftsOf_75 rfl (lv_at hl 3 rfl) ?_
          refine g8_0 (pc := 76) E hts hin8 hown hK hM.1 (hts _ (List.mem_of_getElem? (i := 1) rfl)) dX8_giftsOf_76 ?_
          refine lv_iload (pc := 79) E.1 E.2 dX8_giftsOf_79 (lv_at hl 1 rfl) ?_
          refine z_iconst (pc := 81) E dX8_giftsOf_81 ?_
          refine z_iadd (pc := 82) E dX8_giftsOf_82 ?_
          refine z_laload (pc := 83) E hK hM.2.1 ⟨by omega, by omega⟩ (by decide) dX8_giftsOf_83 ?_
          have hb83 := hI.bd ((309 + (4 * k)) + 2)
          refine lv_goto (pc := 84) (tgt := 88) E.1 E.2 dX8_giftsOf_84 (by decide) ?_
          refine z_lsub (pc := 88) E dX8_giftsOf_88 ?_
          refine lv_lstore_n (pc := 89) (lv' := [(2, .long (iL ((a + 0) - (σ ((309 + (4 * k)) + 2))))), (5, .int (iI (309 + (4 * k)))), (4, .int (iI k)), (0, .ref (o 0)), (1, .int (iI p))]) E.1 E.2 dX8_giftsOf_89 rfl hl (by decide) rfl (fun ls hl => ?_)
          refine lv_iinc (pc := 90) (v := iI (k + 1)) (lv' := [(4, .int (iI (k + 1))), (2, .long (iL ((a + 0) - (σ ((309 + (4 * k)) + 2))))), (5, .int (iI (309 + (4 * k)))), (0, .ref (o 0)), (1, .int (iI p))]) E.1 E.2 dX8_giftsOf_90 hl (k := 2) rfl (iI_add _ _) (by decide) rfl (fun ls hl => ?_)
          refine lv_goto (pc := 93) (tgt := 5) E.1 E.2 dX8_giftsOf_93 (by decide) ?_
          exact ihL5 ((a + 0) - (σ ((309 + (4 * k)) + 2))) (k + 1) (by omega) (by rw [cn_s _ hk.1, ← hn]; unfold giP; first | (rw [if_pos h41f, if_pos h72f]; omega) | (rw [if_pos h41f, if_neg h72f]; omega) | (rw [if_neg h41f, if_pos h72f]; omega) | (rw [if_neg h41f, if_neg h72f]; omega)) (by omega) ls (lv_sub hl [0, 1, 3, 4] rfl)
      · have h41f : σ (309 + 4 * k + 1) = p := h40
        refine lv_aload_n (pc := 44) E.1 E.2 dX8_giftsOf_44 rfl (lv_at hl 3 rfl) ?_
        refine g8_0 (pc := 45) E hts hin8 hown hK hM.1 (hts _ (List.mem_of_getElem? (i := 1) rfl)) dX8_giftsOf_45 ?_
        refine lv_iload (pc := 48) E.1 E.2 dX8_giftsOf_48 (lv_at hl 0 rfl) ?_
        refine z_iconst (pc := 50) E dX8_giftsOf_50 ?_
        refine z_iadd (pc := 51) E dX8_giftsOf_51 ?_
        refine z_laload (pc := 52) E hK hM.2.1 ⟨by omega, by omega⟩ (by decide) dX8_giftsOf_52 ?_
        have hb52 := hI.bd ((309 + (4 * k)) + 2)
        refine lv_goto (pc := 53) (tgt := 57) E.1 E.2 dX8_giftsOf_53 (by decide) ?_
        refine z_ladd (pc := 57) E dX8_giftsOf_57 ?_
        refine lv_lstore_n (pc := 58) (lv' := [(2, .long (iL (a + (σ ((309 + (4 * k)) + 2))))), (5, .int (iI (309 + (4 * k)))), (4, .int (iI k)), (0, .ref (o 0)), (1, .int (iI p))]) E.1 E.2 dX8_giftsOf_58 rfl hl (by decide) rfl (fun ls hl => ?_)
        refine lv_lload_n (pc := 59) E.1 E.2 dX8_giftsOf_59 rfl (lv_at hl 0 rfl) ?_
        refine lv_aload_n (pc := 60) E.1 E.2 dX8_giftsOf_60 rfl (lv_at hl 3 rfl) ?_
        refine g8_0 (pc := 61) E hts hin8 hown hK hM.1 (hts _ (List.mem_of_getElem? (i := 1) rfl)) dX8_giftsOf_61 ?_
        refine lv_iload (pc := 64) E.1 E.2 dX8_giftsOf_64 (lv_at hl 1 rfl) ?_
        refine z_iconst (pc := 66) E dX8_giftsOf_66 ?_
        refine z_iadd (pc := 67) E dX8_giftsOf_67 ?_
        refine z_laload (pc := 68) E hK hM.2.1 ⟨by omega, by omega⟩ (by decide) dX8_giftsOf_68 ?_
        have hb68 := hI.bd ((309 + (4 * k)) + 0)
        refine lv_iload_n (pc := 69) E.1 E.2 dX8_giftsOf_69 rfl (lv_at hl 4 rfl) ?_
        refine z_i2l (pc := 70) E ⟨by omega, by omega⟩ dX8_giftsOf_70 ?_
        refine z_lcmp_ne (pc := 71) (tgt := 87) E ⟨by omega, by omega⟩ ⟨by omega, by omega⟩ dX8_giftsOf_71 dX8_giftsOf_72 (by decide) (fun h71 => ?_) (fun h71 => ?_)
        · have h72f : ¬ σ (309 + 4 * k) = p := by rw [show (309 + 4 * k : Int) = 309 + 4 * k + 0 by omega]; exact h71
          refine z_lconst (pc := 87) (v := 0) E (by decide) dX8_giftsOf_87 ?_
          refine z_lsub (pc := 88) E dX8_giftsOf_88 ?_
          refine lv_lstore_n (pc := 89) (lv' := [(2, .long (iL ((a + (σ ((309 + (4 * k)) + 2))) - 0))), (5, .int (iI (309 + (4 * k)))), (4, .int (iI k)), (0, .ref (o 0)), (1, .int (iI p))]) E.1 E.2 dX8_giftsOf_89 rfl hl (by decide) rfl (fun ls hl => ?_)
          refine lv_iinc (pc := 90) (v := iI (k + 1)) (lv' := [(4, .int (iI (k + 1))), (2, .long (iL ((a + (σ ((309 + (4 * k)) + 2))) - 0))), (5, .int (iI (309 + (4 * k)))), (0, .ref (o 0)), (1, .int (iI p))]) E.1 E.2 dX8_giftsOf_90 hl (k := 2) rfl (iI_add _ _) (by decide) rfl (fun ls hl => ?_)
          refine lv_goto (pc := 93) (tgt := 5) E.1 E.2 dX8_giftsOf_93 (by decide) ?_
          exact ihL5 ((a + (σ ((309 + (4 * k)) + 2))) - 0) (k + 1) (by omega) (by rw [cn_s _ hk.1, ← hn]; unfold giP; first | (rw [if_pos h41f, if_pos h72f]; omega) | (rw [if_pos h41f, if_neg h72f]; omega) | (rw [if_neg h41f, if_pos h72f]; omega) | (rw [if_neg h41f, if_neg h72f]; omega)) (by omega) ls (lv_sub hl [0, 1, 3, 4] rfl)
        · have h72f : σ (309 + 4 * k) = p := by rw [show (309 + 4 * k : Int) = 309 + 4 * k + 0 by omega]; exact h71
          refine lv_aload_n (pc := 75) E.1 E.2 dX8_giftsOf_75 rfl (lv_at hl 3 rfl) ?_
          refine g8_0 (pc := 76) E hts hin8 hown hK hM.1 (hts _ (List.mem_of_getElem? (i := 1) rfl)) dX8_giftsOf_76 ?_
          refine lv_iload (pc := 79) E.1 E.2 dX8_giftsOf_79 (lv_at hl 1 rfl) ?_
          refine z_iconst (pc := 81) E dX8_giftsOf_81 ?_
          refine z_iadd (pc := 82) E dX8_giftsOf_82 ?_
          refine z_laload (pc := 83) E hK hM.2.1 ⟨by omega, by omega⟩ (by decide) dX8_giftsOf_83 ?_
          have hb83 := hI.bd ((309 + (4 * k)) + 2)
          refine lv_goto (pc := 84) (tgt := 88) E.1 E.2 dX8_giftsOf_84 (by decide) ?_
          refine z_lsub (pc := 88) E dX8_giftsOf_88 ?_
          refine lv_lstore_n (pc := 89) (lv' := [(2, .long (iL ((a + (σ ((309 + (4 * k)) + 2))) - (σ ((309 + (4 * k)) + 2))))), (5, .int (iI (309 + (4 * k)))), (4, .int (iI k)), (0, .ref (o 0)), (1, .int (iI p))]) E.1 E.2 dX8_giftsOf_89 rfl hl (by decide) rfl (fun ls hl => ?_)
          refine lv_iinc (pc := 90) (v := iI (k + 1)) (lv' := [(4, .int (iI (k + 1))), (2, .long (iL ((a + (σ ((309 + (4 * k)) + 2))) - (σ ((309 + (4 * k)) + 2))))), (5, .int (iI (309 + (4 * k)))), (0, .ref (o 0)), (1, .int (iI p))]) E.1 E.2 dX8_giftsOf_90 hl (k := 2) rfl (iI_add _ _) (by decide) rfl (fun ls hl => ?_)
          refine lv_goto (pc := 93) (tgt := 5) E.1 E.2 dX8_giftsOf_93 (by decide) ?_
          exact ihL5 ((a + (σ ((309 + (4 * k)) + 2))) - (σ ((309 + (4 * k)) + 2))) (k + 1) (by omega) (by rw [cn_s _ hk.1, ← hn]; unfold giP; first | (rw [if_pos h41f, if_pos h72f]; omega) | (rw [if_pos h41f, if_neg h72f]; omega) | (rw [if_neg h41f, if_pos h72f]; omega) | (rw [if_neg h41f, if_neg h72f]; omega)) (by omega) ls (lv_sub hl [0, 1, 3, 4] rfl)
set_option maxHeartbeats 4000000 in
set_option maxRecDepth 100000 in
theorem mX8_limitOf (lL : Launch) (G : GG) (o : Nat → Nat) (μ σ φ κ β ω : Int → Int) (p : Int) (k : Int) (b : Int) (hI : In σ) (hp : 0 ≤ p ∧ p ≤ 7) (hk : k = 0 ∨ k = 1) (hb : b = 0 ∨ b = 1) : Met lL yX8_limitOf wsX8_limitOf ({ frames := 1, cells := 0, slots := 0, locals := 25 } : Room) (va_Pc [.ref (o 0), .int (iI p), .int (iI k), .int (iI b)] (fun U => W8 G o (mV o μ) σ φ κ β ω U.heap ∧ KK G U)) (vp_Sl (fun r => r = (iL (lmS σ (if b = 0 then 5 else 21) p k)))) 0 0 (fun _ => False) := by
  refine z_met (P := (fun H : Heap => W8 G o (mV o μ) σ φ κ β ω H)) (by decide) rfl (Nat.le_of_ble_eq_true rfl) (fun pp ee ss mm below meth cC E hr hml hown hts hlocks hM hK ls hl => ?_)
  have hl : lv_has ls 6 [(0, .ref (o 0)), (1, .int (iI p)), (2, .int (iI k)), (3, .int (iI b))] := hl
  have hcs : 0 ≤ (({ frames := 1, cells := 0, slots := 0, locals := 25 } : Room)).cells ∧ 0 ≤ (({ frames := 1, cells := 0, slots := 0, locals := 25 } : Room)).slots := ⟨Nat.zero_le _, Nat.zero_le _⟩
  have hin8 : ∀ w ∈ wsX80, w ∈ wsX8_limitOf := fun w h => List.mem_cons_of_mem _ (List.mem_append_right _ (h))
  have hF := hI.F
  have hMm := hI.M
  have hGn := hI.Gn
  refine lv_aload_n (pc := 0) E.1 E.2 dX8_limitOf_0 rfl (lv_at hl 0 rfl) ?_
  refine g8_0 (pc := 1) E hts hin8 hown hK hM.1 (hts _ (List.mem_of_getElem? (i := 1) rfl)) dX8_limitOf_1 ?_
  refine lv_iload_n (pc := 4) E.1 E.2 dX8_limitOf_4 rfl (lv_at hl 3 rfl) ?_
  refine z_if_eq (pc := 5) (tgt := 13) E ⟨by omega, by omega⟩ dX8_limitOf_5 (by decide) (fun h5 => ?_) (fun h5 => ?_)
  · refine z_iconst (pc := 13) E dX8_limitOf_13 ?_
    refine lv_iload_n (pc := 14) E.1 E.2 dX8_limitOf_14 rfl (lv_at hl 1 rfl) ?_
    refine lv_iload_n (pc := 15) E.1 E.2 dX8_limitOf_15 rfl (lv_at hl 2 rfl) ?_
    refine z_rSi (pc := 16) (P := fun _ => True) (As := [.int (iI p), .int (iI k)]) (rest := [.int (iI 5), .ref (o 1)]) E hml hown hts (mX8_place lL G p k) (va_cwS 2 hts gX8_limitOf_X8_place rfl rfl rfl vdX8_place.2 ⟨Nat.le_of_ble_eq_true rfl, Nat.le_of_ble_eq_true rfl⟩) trivial hK rfl hl.1 rfl dX8_limitOf_16 hcs (Nat.le_of_ble_eq_true rfl) ?_
    refine z_iadd (pc := 19) E dX8_limitOf_19 ?_
    refine z_laload (pc := 20) E hK hM.2.1 ⟨by omega, by omega⟩ (by decide) dX8_limitOf_20 ?_
    have hb20 := hI.bd (5 + (2 * p + k))
    refine lv_lstore (pc := 21) (lv' := [(4, .long (iL (σ (5 + (2 * p + k))))), (0, .ref (o 0)), (1, .int (iI p)), (2, .int (iI k)), (3, .int (iI b))]) E.1 E.2 dX8_limitOf_21 hl (by decide) rfl (fun ls hl => ?_)
    refine lv_lload (pc := 23) E.1 E.2 dX8_limitOf_23 (lv_at hl 0 rfl) ?_
    refine z_lconst (pc := 25) (v := 0) E (by decide) dX8_limitOf_25 ?_
    refine z_lcmp_ne (pc := 26) (tgt := 36) E ⟨by omega, by omega⟩ (by decide) dX8_limitOf_26 dX8_limitOf_27 (by decide) (fun h26 => ?_) (fun h26 => ?_)
    · refine lv_iload_n (pc := 36) E.1 E.2 dX8_limitOf_36 rfl (lv_at hl 3 rfl) ?_
      refine z_iconst (pc := 37) E dX8_limitOf_37 ?_
      refine z_icmp_ne (pc := 38) (tgt := 46) E ⟨by omega, by omega⟩ (by decide) dX8_limitOf_38 (by decide) (fun h38 => ?_) (fun h38 => ?_)
      · refine z_lconst (pc := 46) (v := 0) E (by decide) dX8_limitOf_46 ?_
        refine lv_lload (pc := 47) E.1 E.2 dX8_limitOf_47 (lv_at hl 0 rfl) ?_
        refine lv_aload_n (pc := 49) E.1 E.2 dX8_limitOf_49 rfl (lv_at hl 1 rfl) ?_
        refine lv_iload_n (pc := 50) E.1 E.2 dX8_limitOf_50 rfl (lv_at hl 2 rfl) ?_
        refine z_rVl (pc := 51) (As := [.int (iI p)]) (rest := [.long (iL (σ (5 + (2 * p + k)))), .long (iL 0)]) E hml hown hts (mX8_giftsOf lL G o μ σ φ κ β ω p hI (by omega)) (cwV 1 hts gX8_limitOf_X8_giftsOf rfl rfl rfl vdX8_giftsOf ⟨Nat.le_of_ble_eq_true rfl, Nat.le_of_ble_eq_true rfl⟩) (oB.recv hK hM.1 rfl) hM hK rfl hl.1 rfl dX8_limitOf_51 hcs (Nat.le_of_ble_eq_true rfl) ?_
        have hgs := hI.gib p
        refine z_ladd (pc := 54) E dX8_limitOf_54 ?_
        refine z_rSl (pc := 55) (P := fun _ => True) (As := [.long (iL 0), .long (iL ((σ (5 + (2 * p + k))) + (giS σ p)))]) (rest := []) E hml hown hts (mX8_greater lL G 0 ((σ (5 + (2 * p + k))) + (giS σ p)) ⟨by omega, by omega⟩ ⟨by omega, by omega⟩) (va_cwS 2 hts gX8_limitOf_X8_greater rfl rfl rfl vdX8_greater.2 ⟨Nat.le_of_ble_eq_true rfl, Nat.le_of_ble_eq_true rfl⟩) trivial hK rfl hl.1 rfl dX8_limitOf_55 hcs (Nat.le_of_ble_eq_true rfl) ?_
        exact z_retRl E hr (congrArg iL (by first | (unfold lmS; rw [if_pos h5, if_pos h26]) | (unfold lmS; rw [if_neg h5, if_pos h26]) | (unfold lmS; rw [if_pos h5, if_neg h26, if_pos h38]) | (unfold lmS; rw [if_neg h5, if_neg h26, if_pos h38]) | (unfold lmS; rw [if_pos h5, if_neg h26, if_neg h38]; exact Int.max_comm _ _) | (unfold lmS; rw [if_neg h5, if_neg h26, if_neg h38]; exact Int.max_comm _ _) | (unfold lmS; rw [if_pos h5, if_neg h26, if_neg h38]) | (unfold lmS; rw [if_neg h5, if_neg h26, if_neg h38]))) hlocks dX8_limitOf_58
      · refine lv_lload (pc := 41) E.1 E.2 dX8_limitOf_41 (lv_at hl 0 rfl) ?_
        refine lv_goto (pc := 43) (tgt := 58) E.1 E.2 dX8_limitOf_43 (by decide) ?_
        exact z_retRl E hr (congrArg iL (by first | (unfold lmS; rw [if_pos h5, if_pos h26]) | (unfold lmS; rw [if_neg h5, if_pos h26]) | (unfold lmS; rw [if_pos h5, if_neg h26, if_pos h38]) | (unfold lmS; rw [if_neg h5, if_neg h26, if_pos h38]) | (unfold lmS; rw [if_pos h5, if_neg h26, if_neg h38]; exact Int.max_comm _ _) | (unfold lmS; rw [if_neg h5, if_neg h26, if_neg h38]; exact Int.max_comm _ _) | (unfold lmS; rw [if_pos h5, if_neg h26, if_neg h38]) | (unfold lmS; rw [if_neg h5, if_neg h26, if_neg h38]))) hlocks dX8_limitOf_58
    · refine lv_ldc2 (pc := 30) (v := iL (-1)) E.1 E.2 hown (show (Jvm.Cond.constantLong RX8 37 (iL (-1))).before _ ss = true from (hts _ (List.mem_of_getElem? (i := 2) rfl))) dX8_limitOf_30 ?_
      refine lv_goto (pc := 33) (tgt := 58) E.1 E.2 dX8_limitOf_33 (by decide) ?_
      exact z_retRl E hr (congrArg iL (by first | (unfold lmS; rw [if_pos h5, if_pos h26]) | (unfold lmS; rw [if_neg h5, if_pos h26]) | (unfold lmS; rw [if_pos h5, if_neg h26, if_pos h38]) | (unfold lmS; rw [if_neg h5, if_neg h26, if_pos h38]) | (unfold lmS; rw [if_pos h5, if_neg h26, if_neg h38]; exact Int.max_comm _ _) | (unfold lmS; rw [if_neg h5, if_neg h26, if_neg h38]; exact Int.max_comm _ _) | (unfold lmS; rw [if_pos h5, if_neg h26, if_neg h38]) | (unfold lmS; rw [if_neg h5, if_neg h26, if_neg h38]))) hlocks dX8_limitOf_58
  · refine z_bipush (pc := 8) E (by decide) dX8_limitOf_8 ?_
    refine lv_goto (pc := 10) (tgt := 14) E.1 E.2 dX8_limitOf_10 (by decide) ?_
    refine lv_iload_n (pc := 14) E.1 E.2 dX8_limitOf_14 rfl (lv_at hl 1 rfl) ?_
    refine lv_iload_n (pc := 15) E.1 E.2 dX8_limitOf_15 rfl (lv_at hl 2 rfl) ?_
    refine z_rSi (pc := 16) (P := fun _ => True) (As := [.int (iI p), .int (iI k)]) (rest := [.int (iI 21), .ref (o 1)]) E hml hown hts (mX8_place lL G p k) (va_cwS 2 hts gX8_limitOf_X8_place rfl rfl rfl vdX8_place.2 ⟨Nat.le_of_ble_eq_true rfl, Nat.le_of_ble_eq_true rfl⟩) trivial hK rfl hl.1 rfl dX8_limitOf_16 hcs (Nat.le_of_ble_eq_true rfl) ?_
    refine z_iadd (pc := 19) E dX8_limitOf_19 ?_
    refine z_laload (pc := 20) E hK hM.2.1 ⟨by omega, by omega⟩ (by decide) dX8_limitOf_20 ?_
    have hb20 := hI.bd (21 + (2 * p + k))
    refine lv_lstore (pc := 21) (lv' := [(4, .long (iL (σ (21 + (2 * p + k))))), (0, .ref (o 0)), (1, .int (iI p)), (2, .int (iI k)), (3, .int (iI b))]) E.1 E.2 dX8_limitOf_21 hl (by decide) rfl (fun ls hl => ?_)
    refine lv_lload (pc := 23) E.1 E.2 dX8_limitOf_23 (lv_at hl 0 rfl) ?_
    refine z_lconst (pc := 25) (v := 0) E (by decide) dX8_limitOf_25 ?_
    refine z_lcmp_ne (pc := 26) (tgt := 36) E ⟨by omega, by omega⟩ (by decide) dX8_limitOf_26 dX8_limitOf_27 (by decide) (fun h26 => ?_) (fun h26 => ?_)
    · refine lv_iload_n (pc := 36) E.1 E.2 dX8_limitOf_36 rfl (lv_at hl 3 rfl) ?_
      refine z_iconst (pc := 37) E dX8_limitOf_37 ?_
      refine z_icmp_ne (pc := 38) (tgt := 46) E ⟨by omega, by omega⟩ (by decide) dX8_limitOf_38 (by decide) (fun h38 => ?_) (fun h38 => ?_)
      · refine z_lconst (pc := 46) (v := 0) E (by decide) dX8_limitOf_46 ?_
        refine lv_lload (pc := 47) E.1 E.2 dX8_limitOf_47 (lv_at hl 0 rfl) ?_
        refine lv_aload_n (pc := 49) E.1 E.2 dX8_limitOf_49 rfl (lv_at hl 1 rfl) ?_
        refine lv_iload_n (pc := 50) E.1 E.2 dX8_limitOf_50 rfl (lv_at hl 2 rfl) ?_
        refine z_rVl (pc := 51) (As := [.int (iI p)]) (rest := [.long (iL (σ (21 + (2 * p + k)))), .long (iL 0)]) E hml hown hts (mX8_giftsOf lL G o μ σ φ κ β ω p hI (by omega)) (cwV 1 hts gX8_limitOf_X8_giftsOf rfl rfl rfl vdX8_giftsOf ⟨Nat.le_of_ble_eq_true rfl, Nat.le_of_ble_eq_true rfl⟩) (oB.recv hK hM.1 rfl) hM hK rfl hl.1 rfl dX8_limitOf_51 hcs (Nat.le_of_ble_eq_true rfl) ?_
        have hgs := hI.gib p
        refine z_ladd (pc := 54) E dX8_limitOf_54 ?_
        refine z_rSl (pc := 55) (P := fun _ => True) (As := [.long (iL 0), .long (iL ((σ (21 + (2 * p + k))) + (giS σ p)))]) (rest := []) E hml hown hts (mX8_greater lL G 0 ((σ (21 + (2 * p + k))) + (giS σ p)) ⟨by omega, by omega⟩ ⟨by omega, by omega⟩) (va_cwS 2 hts gX8_limitOf_X8_greater rfl rfl rfl vdX8_greater.2 ⟨Nat.le_of_ble_eq_true rfl, Nat.le_of_ble_eq_true rfl⟩) trivial hK rfl hl.1 rfl dX8_limitOf_55 hcs (Nat.le_of_ble_eq_true rfl) ?_
        exact z_retRl E hr (congrArg iL (by first | (unfold lmS; rw [if_pos h5, if_pos h26]) | (unfold lmS; rw [if_neg h5, if_pos h26]) | (unfold lmS; rw [if_pos h5, if_neg h26, if_pos h38]) | (unfold lmS; rw [if_neg h5, if_neg h26, if_pos h38]) | (unfold lmS; rw [if_pos h5, if_neg h26, if_neg h38]; exact Int.max_comm _ _) | (unfold lmS; rw [if_neg h5, if_neg h26, if_neg h38]; exact Int.max_comm _ _) | (unfold lmS; rw [if_pos h5, if_neg h26, if_neg h38]) | (unfold lmS; rw [if_neg h5, if_neg h26, if_neg h38]))) hlocks dX8_limitOf_58
      · refine lv_lload (pc := 41) E.1 E.2 dX8_limitOf_41 (lv_at hl 0 rfl) ?_
        refine lv_goto (pc := 43) (tgt := 58) E.1 E.2 dX8_limitOf_43 (by decide) ?_
        exact z_retRl E hr (congrArg iL (by first | (unfold lmS; rw [if_pos h5, if_pos h26]) | (unfold lmS; rw [if_neg h5, if_pos h26]) | (unfold lmS; rw [if_pos h5, if_neg h26, if_pos h38]) | (unfold lmS; rw [if_neg h5, if_neg h26, if_pos h38]) | (unfold lmS; rw [if_pos h5, if_neg h26, if_neg h38]; exact Int.max_comm _ _) | (unfold lmS; rw [if_neg h5, if_neg h26, if_neg h38]; exact Int.max_comm _ _) | (unfold lmS; rw [if_pos h5, if_neg h26, if_neg h38]) | (unfold lmS; rw [if_neg h5, if_neg h26, if_neg h38]))) hlocks dX8_limitOf_58
    · refine lv_ldc2 (pc := 30) (v := iL (-1)) E.1 E.2 hown (show (Jvm.Cond.constantLong RX8 37 (iL (-1))).before _ ss = true from (hts _ (List.mem_of_getElem? (i := 2) rfl))) dX8_limitOf_30 ?_
      refine lv_goto (pc := 33) (tgt := 58) E.1 E.2 dX8_limitOf_33 (by decide) ?_
      exact z_retRl E hr (congrArg iL (by first | (unfold lmS; rw [if_pos h5, if_pos h26]) | (unfold lmS; rw [if_neg h5, if_pos h26]) | (unfold lmS; rw [if_pos h5, if_neg h26, if_pos h38]) | (unfold lmS; rw [if_neg h5, if_neg h26, if_pos h38]) | (unfold lmS; rw [if_pos h5, if_neg h26, if_neg h38]; exact Int.max_comm _ _) | (unfold lmS; rw [if_neg h5, if_neg h26, if_neg h38]; exact Int.max_comm _ _) | (unfold lmS; rw [if_pos h5, if_neg h26, if_neg h38]) | (unfold lmS; rw [if_neg h5, if_neg h26, if_neg h38]))) hlocks dX8_limitOf_58
set_option maxHeartbeats 4000000 in
set_option maxRecDepth 100000 in
theorem mX8_usedOf (lL : Launch) (G : GG) (o : Nat → Nat) (μ σ φ κ β ω : Int → Int) (p : Int) (k : Int) (hp : 0 ≤ p ∧ p ≤ 7) (hk : k = 0 ∨ k = 1) : Met lL yX8_usedOf wsX8_usedOf ({ frames := 1, cells := 0, slots := 0, locals := 21 } : Room) (va_Pc [.ref (o 0), .int (iI p), .int (iI k)] (fun U => W8 G o (mV o μ) σ φ κ β ω U.heap ∧ KK G U)) (vp_Sl (fun r => r = (iL (σ (37 + (2 * p + k)))))) 0 0 (fun _ => False) := by
  refine z_met (P := (fun H : Heap => W8 G o (mV o μ) σ φ κ β ω H)) (by decide) rfl (Nat.le_of_ble_eq_true rfl) (fun pp ee ss mm below meth cC E hr hml hown hts hlocks hM hK ls hl => ?_)
  have hl : lv_has ls 3 [(0, .ref (o 0)), (1, .int (iI p)), (2, .int (iI k))] := hl
  have hcs : 0 ≤ (({ frames := 1, cells := 0, slots := 0, locals := 21 } : Room)).cells ∧ 0 ≤ (({ frames := 1, cells := 0, slots := 0, locals := 21 } : Room)).slots := ⟨Nat.zero_le _, Nat.zero_le _⟩
  have hin8 : ∀ w ∈ wsX80, w ∈ wsX8_usedOf := fun w h => List.mem_cons_of_mem _ (List.mem_append_right _ (h))
  refine lv_aload_n (pc := 0) E.1 E.2 dX8_usedOf_0 rfl (lv_at hl 0 rfl) ?_
  refine g8_0 (pc := 1) E hts hin8 hown hK hM.1 (hts _ (List.mem_of_getElem? (i := 1) rfl)) dX8_usedOf_1 ?_
  refine z_bipush (pc := 4) E (by decide) dX8_usedOf_4 ?_
  refine lv_iload_n (pc := 6) E.1 E.2 dX8_usedOf_6 rfl (lv_at hl 1 rfl) ?_
  refine lv_iload_n (pc := 7) E.1 E.2 dX8_usedOf_7 rfl (lv_at hl 2 rfl) ?_
  refine z_rSi (pc := 8) (P := fun _ => True) (As := [.int (iI p), .int (iI k)]) (rest := [.int (iI 37), .ref (o 1)]) E hml hown hts (mX8_place lL G p k) (va_cwS 2 hts gX8_usedOf_X8_place rfl rfl rfl vdX8_place.2 ⟨Nat.le_of_ble_eq_true rfl, Nat.le_of_ble_eq_true rfl⟩) trivial hK rfl hl.1 rfl dX8_usedOf_8 hcs (Nat.le_of_ble_eq_true rfl) ?_
  refine z_iadd (pc := 11) E dX8_usedOf_11 ?_
  refine z_laload (pc := 12) E hK hM.2.1 ⟨by omega, by omega⟩ (by decide) dX8_usedOf_12 ?_
  exact z_retRl E hr rfl hlocks dX8_usedOf_13
set_option maxHeartbeats 4000000 in
set_option maxRecDepth 100000 in
theorem mX8_doesRun (lL : Launch) (G : GG) (o : Nat → Nat) (μ σ φ κ β ω : Int → Int) (p : Int) (k : Int) (hI : In σ) (hp : 0 ≤ p ∧ p ≤ 7) (hk : k = 0 ∨ k = 1) : Met lL yX8_doesRun wsX8_doesRun ({ frames := 1, cells := 0, slots := 0, locals := 21 } : Room) (va_Pc [.ref (o 0), .int (iI p), .int (iI k)] (fun U => W8 G o (mV o μ) σ φ κ β ω U.heap ∧ KK G U)) (vp_Si (fun r => r = (iI (if drS σ p k then 1 else 0)))) 0 0 (fun _ => False) := by
  refine z_met (P := (fun H : Heap => W8 G o (mV o μ) σ φ κ β ω H)) (by decide) rfl (Nat.le_of_ble_eq_true rfl) (fun pp ee ss mm below meth cC E hr hml hown hts hlocks hM hK ls hl => ?_)
  have hl : lv_has ls 3 [(0, .ref (o 0)), (1, .int (iI p)), (2, .int (iI k))] := hl
  have hcs : 0 ≤ (({ frames := 1, cells := 0, slots := 0, locals := 21 } : Room)).cells ∧ 0 ≤ (({ frames := 1, cells := 0, slots := 0, locals := 21 } : Room)).slots := ⟨Nat.zero_le _, Nat.zero_le _⟩
  have hin8 : ∀ w ∈ wsX80, w ∈ wsX8_doesRun := fun w h => List.mem_cons_of_mem _ (List.mem_append_right _ (h))
  have hF := hI.F
  have hMm := hI.M
  have hGn := hI.Gn
  refine lv_aload_n (pc := 0) E.1 E.2 dX8_doesRun_0 rfl (lv_at hl 0 rfl) ?_
  refine g8_0 (pc := 1) E hts hin8 hown hK hM.1 (hts _ (List.mem_of_getElem? (i := 1) rfl)) dX8_doesRun_1 ?_
  refine z_bipush (pc := 4) E (by decide) dX8_doesRun_4 ?_
  refine lv_iload_n (pc := 6) E.1 E.2 dX8_doesRun_6 rfl (lv_at hl 1 rfl) ?_
  refine lv_iload_n (pc := 7) E.1 E.2 dX8_doesRun_7 rfl (lv_at hl 2 rfl) ?_
  refine z_rSi (pc := 8) (P := fun _ => True) (As := [.int (iI p), .int (iI k)]) (rest := [.int (iI 53), .ref (o 1)]) E hml hown hts (mX8_place lL G p k) (va_cwS 2 hts gX8_doesRun_X8_place rfl rfl rfl vdX8_place.2 ⟨Nat.le_of_ble_eq_true rfl, Nat.le_of_ble_eq_true rfl⟩) trivial hK rfl hl.1 rfl dX8_doesRun_8 hcs (Nat.le_of_ble_eq_true rfl) ?_
  refine z_iadd (pc := 11) E dX8_doesRun_11 ?_
  refine z_laload (pc := 12) E hK hM.2.1 ⟨by omega, by omega⟩ (by decide) dX8_doesRun_12 ?_
  have hb12 := hI.bd (53 + (2 * p + k))
  refine lv_ldc2 (pc := 13) (v := iL (-1)) E.1 E.2 hown (show (Jvm.Cond.constantLong RX8 37 (iL (-1))).before _ ss = true from (hts _ (List.mem_of_getElem? (i := 2) rfl))) dX8_doesRun_13 ?_
  refine z_lcmp_eq (pc := 16) (tgt := 24) E ⟨by omega, by omega⟩ (by decide) dX8_doesRun_16 dX8_doesRun_17 (by decide) (fun h16 => ?_) (fun h16 => ?_)
  · refine z_iconst (pc := 24) E dX8_doesRun_24 ?_
    exact z_retRz E hr rfl (congrArg iI (by first | exact (if_pos h16).symm | (exact (if_neg (fun q => q h16)).symm))) hlocks dX8_doesRun_25
  · refine z_iconst (pc := 20) E dX8_doesRun_20 ?_
    refine lv_goto (pc := 21) (tgt := 25) E.1 E.2 dX8_doesRun_21 (by decide) ?_
    exact z_retRz E hr rfl (congrArg iI (by first | exact (if_pos h16).symm | (exact (if_neg (fun q => q h16)).symm))) hlocks dX8_doesRun_25
set_option maxHeartbeats 4000000 in
set_option maxRecDepth 100000 in
theorem mX8_isOver (lL : Launch) (G : GG) (o : Nat → Nat) (μ σ φ κ β ω : Int → Int) (p : Int) (k : Int) (hI : In σ) (hp : 0 ≤ p ∧ p ≤ 7) (hk : k = 0 ∨ k = 1) : Met lL yX8_isOver wsX8_isOver ({ frames := 2, cells := 0, slots := 0, locals := 43 } : Room) (va_Pc [.ref (o 0), .int (iI p), .int (iI k)] (fun U => W8 G o (mV o μ) σ φ κ β ω U.heap ∧ KK G U)) (vp_Si (fun r => r = (iI (if ovS σ p k then 1 else 0)))) 0 0 (fun _ => False) := by
  refine z_met (P := (fun H : Heap => W8 G o (mV o μ) σ φ κ β ω H)) (by decide) rfl (Nat.le_of_ble_eq_true rfl) (fun pp ee ss mm below meth cC E hr hml hown hts hlocks hM hK ls hl => ?_)
  have hl : lv_has ls 3 [(0, .ref (o 0)), (1, .int (iI p)), (2, .int (iI k))] := hl
  have hcs : 0 ≤ (({ frames := 2, cells := 0, slots := 0, locals := 43 } : Room)).cells ∧ 0 ≤ (({ frames := 2, cells := 0, slots := 0, locals := 43 } : Room)).slots := ⟨Nat.zero_le _, Nat.zero_le _⟩
  have hin8 : ∀ w ∈ wsX80, w ∈ wsX8_isOver := fun w h => List.mem_cons_of_mem _ (List.mem_append_right _ (h))
  have hF := hI.F
  have hMm := hI.M
  have hGn := hI.Gn
  refine lv_aload_n (pc := 0) E.1 E.2 dX8_isOver_0 rfl (lv_at hl 0 rfl) ?_
  refine lv_iload_n (pc := 1) E.1 E.2 dX8_isOver_1 rfl (lv_at hl 1 rfl) ?_
  refine lv_iload_n (pc := 2) E.1 E.2 dX8_isOver_2 rfl (lv_at hl 2 rfl) ?_
  refine z_rVi (pc := 3) (As := [.int (iI p), .int (iI k)]) (rest := []) E hml hown hts (mX8_doesRun lL G o μ σ φ κ β ω p k hI (by omega) (by omega)) (cwV 2 hts gX8_isOver_X8_doesRun rfl rfl rfl vdX8_doesRun ⟨Nat.le_of_ble_eq_true rfl, Nat.le_of_ble_eq_true rfl⟩) (oB.recv hK hM.1 rfl) hM hK rfl hl.1 rfl dX8_isOver_3 hcs (Nat.le_of_ble_eq_true rfl) ?_
  refine z_ifb_eq (pc := 6) (tgt := 43) E dX8_isOver_6 (by decide) (fun h6 => ?_) (fun h6 => ?_)
  · refine z_iconst (pc := 43) E dX8_isOver_43 ?_
    exact z_retRz E hr rfl (congrArg iI (by first | exact (if_pos ⟨h6, h35⟩).symm | (refine (if_neg (fun q => ?_)).symm; first | exact absurd q.1 h6 | (have := q.2; omega)))) hlocks dX8_isOver_44
  · have ha := hI.acc (k := 2 * p + k) (by omega) (by omega)
    refine lv_aload_n (pc := 9) E.1 E.2 dX8_isOver_9 rfl (lv_at hl 0 rfl) ?_
    refine g8_0 (pc := 10) E hts hin8 hown hK hM.1 (hts _ (List.mem_of_getElem? (i := 1) rfl)) dX8_isOver_10 ?_
    refine z_iconst (pc := 13) E dX8_isOver_13 ?_
    refine z_laload (pc := 14) E hK hM.2.1 ⟨by omega, by omega⟩ (by decide) dX8_isOver_14 ?_
    have hb14 := hI.bd 0
    refine lv_aload_n (pc := 15) E.1 E.2 dX8_isOver_15 rfl (lv_at hl 0 rfl) ?_
    refine g8_0 (pc := 16) E hts hin8 hown hK hM.1 (hts _ (List.mem_of_getElem? (i := 1) rfl)) dX8_isOver_16 ?_
    refine z_bipush (pc := 19) E (by decide) dX8_isOver_19 ?_
    refine lv_iload_n (pc := 21) E.1 E.2 dX8_isOver_21 rfl (lv_at hl 1 rfl) ?_
    refine lv_iload_n (pc := 22) E.1 E.2 dX8_isOver_22 rfl (lv_at hl 2 rfl) ?_
    refine z_rSi (pc := 23) (P := fun _ => True) (As := [.int (iI p), .int (iI k)]) (rest := [.int (iI 53), .ref (o 1), .long (iL (σ 0))]) E hml hown hts (mX8_place lL G p k) (va_cwS 2 hts gX8_isOver_X8_place rfl rfl rfl vdX8_place.2 ⟨Nat.le_of_ble_eq_true rfl, Nat.le_of_ble_eq_true rfl⟩) trivial hK rfl hl.1 rfl dX8_isOver_23 hcs (Nat.le_of_ble_eq_true rfl) ?_
    refine z_iadd (pc := 26) E dX8_isOver_26 ?_
    refine z_laload (pc := 27) E hK hM.2.1 ⟨by omega, by omega⟩ (by decide) dX8_isOver_27 ?_
    have hb27 := hI.bd (53 + (2 * p + k))
    refine z_lsub (pc := 28) E dX8_isOver_28 ?_
    refine lv_aload_n (pc := 29) E.1 E.2 dX8_isOver_29 rfl (lv_at hl 0 rfl) ?_
    refine g8_0 (pc := 30) E hts hin8 hown hK hM.1 (hts _ (List.mem_of_getElem? (i := 1) rfl)) dX8_isOver_30 ?_
    refine z_iconst (pc := 33) E dX8_isOver_33 ?_
    refine z_laload (pc := 34) E hK hM.2.1 ⟨by omega, by omega⟩ (by decide) dX8_isOver_34 ?_
    have hb34 := hI.bd 1
    refine z_lcmp_lt (pc := 35) (tgt := 43) E ⟨by omega, by omega⟩ ⟨by omega, by omega⟩ dX8_isOver_35 dX8_isOver_36 (by decide) (fun h35 => ?_) (fun h35 => ?_)
    · refine z_iconst (pc := 43) E dX8_isOver_43 ?_
      exact z_retRz E hr rfl (congrArg iI (by first | exact (if_pos ⟨h6, h35⟩).symm | (refine (if_neg (fun q => ?_)).symm; first | exact absurd q.1 h6 | (have := q.2; omega)))) hlocks dX8_isOver_44
    · refine z_iconst (pc := 39) E dX8_isOver_39 ?_
      refine lv_goto (pc := 40) (tgt := 44) E.1 E.2 dX8_isOver_40 (by decide) ?_
      exact z_retRz E hr rfl (congrArg iI (by first | exact (if_pos ⟨h6, h35⟩).symm | (refine (if_neg (fun q => ?_)).symm; first | exact absurd q.1 h6 | (have := q.2; omega)))) hlocks dX8_isOver_44
set_option maxHeartbeats 4000000 in
set_option maxRecDepth 100000 in
theorem mX8_isTooMuch (lL : Launch) (G : GG) (o : Nat → Nat) (μ σ φ κ β ω : Int → Int) (p : Int) (k : Int) (x : Int) (hI : In σ) (hp : 0 ≤ p ∧ p ≤ 7) (hk : k = 0 ∨ k = 1) (hx : -4611686018427387904 ≤ x ∧ x < 4611686018427387904) : Met lL yX8_isTooMuch wsX8_isTooMuch ({ frames := 2, cells := 0, slots := 0, locals := 50 } : Room) (va_Pc [.ref (o 0), .int (iI p), .int (iI k), .long (iL x)] (fun U => W8 G o (mV o μ) σ φ κ β ω U.heap ∧ KK G U)) (vp_Si (fun r => r = (iI (if tmS σ p k x then 1 else 0)))) 0 0 (fun _ => False) := by
  refine z_met (P := (fun H : Heap => W8 G o (mV o μ) σ φ κ β ω H)) (by decide) rfl (Nat.le_of_ble_eq_true rfl) (fun pp ee ss mm below meth cC E hr hml hown hts hlocks hM hK ls hl => ?_)
  have hl : lv_has ls 7 [(0, .ref (o 0)), (1, .int (iI p)), (2, .int (iI k)), (3, .long (iL x))] := hl
  have hcs : 0 ≤ (({ frames := 2, cells := 0, slots := 0, locals := 50 } : Room)).cells ∧ 0 ≤ (({ frames := 2, cells := 0, slots := 0, locals := 50 } : Room)).slots := ⟨Nat.zero_le _, Nat.zero_le _⟩
  have hF := hI.F
  have hMm := hI.M
  have hGn := hI.Gn
  refine lv_aload_n (pc := 0) E.1 E.2 dX8_isTooMuch_0 rfl (lv_at hl 0 rfl) ?_
  refine lv_iload_n (pc := 1) E.1 E.2 dX8_isTooMuch_1 rfl (lv_at hl 1 rfl) ?_
  refine lv_iload_n (pc := 2) E.1 E.2 dX8_isTooMuch_2 rfl (lv_at hl 2 rfl) ?_
  refine z_iconst (pc := 3) E dX8_isTooMuch_3 ?_
  refine z_rVl (pc := 4) (As := [.int (iI p), .int (iI k), .int (iI 1)]) (rest := []) E hml hown hts (mX8_limitOf lL G o μ σ φ κ β ω p k 1 hI (by omega) (by omega) (Or.inr rfl)) (cwV 3 hts gX8_isTooMuch_X8_limitOf rfl rfl rfl vdX8_limitOf ⟨Nat.le_of_ble_eq_true rfl, Nat.le_of_ble_eq_true rfl⟩) (oB.recv hK hM.1 rfl) hM hK rfl hl.1 rfl dX8_isTooMuch_4 hcs (Nat.le_of_ble_eq_true rfl) ?_
  rw [show ((lmS σ (if (1 : Int) = 0 then 5 else 21) p k : Int)) = lmS σ 21 p k from rfl]
  have hlm := hI.lmb (t := 21) (Or.inr rfl) hp hk
  refine lv_lstore (pc := 7) (lv' := [(5, .long (iL (lmS σ 21 p k))), (0, .ref (o 0)), (1, .int (iI p)), (2, .int (iI k)), (3, .long (iL x))]) E.1 E.2 dX8_isTooMuch_7 hl (by decide) rfl (fun ls hl => ?_)
  refine lv_lload (pc := 9) E.1 E.2 dX8_isTooMuch_9 (lv_at hl 0 rfl) ?_
  refine lv_ldc2 (pc := 11) (v := iL (-1)) E.1 E.2 hown (show (Jvm.Cond.constantLong RX8 37 (iL (-1))).before _ ss = true from (hts _ (List.mem_of_getElem? (i := 1) rfl))) dX8_isTooMuch_11 ?_
  refine z_lcmp_eq (pc := 14) (tgt := 36) E ⟨by omega, by omega⟩ (by decide) dX8_isTooMuch_14 dX8_isTooMuch_15 (by decide) (fun h14 => ?_) (fun h14 => ?_)
  · refine z_iconst (pc := 36) E dX8_isTooMuch_36 ?_
    exact z_retRz E hr rfl (congrArg iI (by first | exact (if_pos ⟨h14, h28⟩).symm | (refine (if_neg (fun q => ?_)).symm; first | exact absurd h14 q.1 | (have := q.2; omega)))) hlocks dX8_isTooMuch_37
  · refine lv_aload_n (pc := 18) E.1 E.2 dX8_isTooMuch_18 rfl (lv_at hl 1 rfl) ?_
    refine lv_iload_n (pc := 19) E.1 E.2 dX8_isTooMuch_19 rfl (lv_at hl 2 rfl) ?_
    refine lv_iload_n (pc := 20) E.1 E.2 dX8_isTooMuch_20 rfl (lv_at hl 3 rfl) ?_
    refine z_rVl (pc := 21) (As := [.int (iI p), .int (iI k)]) (rest := []) E hml hown hts (mX8_usedOf lL G o μ σ φ κ β ω p k (by omega) (by omega)) (cwV 2 hts gX8_isTooMuch_X8_usedOf rfl rfl rfl vdX8_usedOf ⟨Nat.le_of_ble_eq_true rfl, Nat.le_of_ble_eq_true rfl⟩) (oB.recv hK hM.1 rfl) hM hK rfl hl.1 rfl dX8_isTooMuch_21 hcs (Nat.le_of_ble_eq_true rfl) ?_
    have hac := hI.acc (k := 2 * p + k) (by omega) (by omega)
    refine lv_lload_n (pc := 24) E.1 E.2 dX8_isTooMuch_24 rfl (lv_at hl 4 rfl) ?_
    refine z_ladd (pc := 25) E dX8_isTooMuch_25 ?_
    refine lv_lload (pc := 26) E.1 E.2 dX8_isTooMuch_26 (lv_at hl 0 rfl) ?_
    refine z_lcmp_le (pc := 28) (tgt := 36) E ⟨by omega, by omega⟩ ⟨by omega, by omega⟩ dX8_isTooMuch_28 dX8_isTooMuch_29 (by decide) (fun h28 => ?_) (fun h28 => ?_)
    · refine z_iconst (pc := 36) E dX8_isTooMuch_36 ?_
      exact z_retRz E hr rfl (congrArg iI (by first | exact (if_pos ⟨h14, h28⟩).symm | (refine (if_neg (fun q => ?_)).symm; first | exact absurd h14 q.1 | (have := q.2; omega)))) hlocks dX8_isTooMuch_37
    · refine z_iconst (pc := 32) E dX8_isTooMuch_32 ?_
      refine lv_goto (pc := 33) (tgt := 37) E.1 E.2 dX8_isTooMuch_33 (by decide) ?_
      exact z_retRz E hr rfl (congrArg iI (by first | exact (if_pos ⟨h14, h28⟩).symm | (refine (if_neg (fun q => ?_)).symm; first | exact absurd h14 q.1 | (have := q.2; omega)))) hlocks dX8_isTooMuch_37
set_option maxHeartbeats 4000000 in
set_option maxRecDepth 100000 in
theorem mX8_reasonFor (lL : Launch) (G : GG) (o : Nat → Nat) (μ σ φ κ β ω : Int → Int) (p : Int) (b : Int) (n : Int) (hI : In σ) (hp : -1 ≤ p ∧ p ≤ 7) (hb : -4611686018427387904 ≤ b ∧ b < 4611686018427387904) (hn : -4611686018427387904 ≤ n ∧ n < 4611686018427387904) : Met lL yX8_reasonFor wsX8_reasonFor ({ frames := 3, cells := 0, slots := 0, locals := 76 } : Room) (va_Pc [.ref (o 0), .int (iI p), .long (iL b), .long (iL n)] (fun U => W8 G o (mV o μ) σ φ κ β ω U.heap ∧ KK G U)) (vp_Si (fun r => r = (iI (rsS σ p b n)))) 0 0 (fun _ => False) := by
  refine z_met (P := (fun H : Heap => W8 G o (mV o μ) σ φ κ β ω H)) (by decide) rfl (Nat.le_of_ble_eq_true rfl) (fun pp ee ss mm below meth cC E hr hml hown hts hlocks hM hK ls hl => ?_)
  have hl : lv_has ls 6 [(0, .ref (o 0)), (1, .int (iI p)), (2, .long (iL b)), (4, .long (iL n))] := hl
  have hcs : 0 ≤ (({ frames := 3, cells := 0, slots := 0, locals := 76 } : Room)).cells ∧ 0 ≤ (({ frames := 3, cells := 0, slots := 0, locals := 76 } : Room)).slots := ⟨Nat.zero_le _, Nat.zero_le _⟩
  have hF := hI.F
  have hMm := hI.M
  have hGn := hI.Gn
  refine lv_iload_n (pc := 0) E.1 E.2 dX8_reasonFor_0 rfl (lv_at hl 1 rfl) ?_
  refine z_iconst (pc := 1) E dX8_reasonFor_1 ?_
  refine z_icmp_ne (pc := 2) (tgt := 7) E ⟨by omega, by omega⟩ (by decide) dX8_reasonFor_2 (by decide) (fun h2 => ?_) (fun h2 => ?_)
  · refine lv_lload_n (pc := 7) E.1 E.2 dX8_reasonFor_7 rfl (lv_at hl 2 rfl) ?_
    refine z_lconst (pc := 8) (v := 0) E (by decide) dX8_reasonFor_8 ?_
    refine z_lcmp_le (pc := 9) (tgt := 25) E ⟨by omega, by omega⟩ (by decide) dX8_reasonFor_9 dX8_reasonFor_10 (by decide) (fun h9 => ?_) (fun h9 => ?_)
    · refine lv_lload (pc := 25) E.1 E.2 dX8_reasonFor_25 (lv_at hl 3 rfl) ?_
      refine z_lconst (pc := 27) (v := 0) E (by decide) dX8_reasonFor_27 ?_
      refine z_lcmp_le (pc := 28) (tgt := 45) E ⟨by omega, by omega⟩ (by decide) dX8_reasonFor_28 dX8_reasonFor_29 (by decide) (fun h28 => ?_) (fun h28 => ?_)
      · refine lv_lload_n (pc := 45) E.1 E.2 dX8_reasonFor_45 rfl (lv_at hl 2 rfl) ?_
        refine z_lconst (pc := 46) (v := 0) E (by decide) dX8_reasonFor_46 ?_
        refine z_lcmp_le (pc := 47) (tgt := 62) E ⟨by omega, by omega⟩ (by decide) dX8_reasonFor_47 dX8_reasonFor_48 (by decide) (fun h47 => ?_) (fun h47 => ?_)
        · refine lv_lload (pc := 62) E.1 E.2 dX8_reasonFor_62 (lv_at hl 3 rfl) ?_
          refine z_lconst (pc := 64) (v := 0) E (by decide) dX8_reasonFor_64 ?_
          refine z_lcmp_le (pc := 65) (tgt := 82) E ⟨by omega, by omega⟩ (by decide) dX8_reasonFor_65 dX8_reasonFor_66 (by decide) (fun h65 => ?_) (fun h65 => ?_)
          · refine z_iconst (pc := 82) E dX8_reasonFor_82 ?_
            exact z_retRi E hr (congrArg iI (by unfold rsS; simp only [tmS, ovS] at *; repeat' split; all_goals omega)) hlocks dX8_reasonFor_83
          · exact absurd h65 (by first | omega | exact h28 | exact fun q => h28 q)
        · exact absurd h47 (by first | omega | exact h9 | exact fun q => h9 q)
      · refine lv_aload_n (pc := 32) E.1 E.2 dX8_reasonFor_32 rfl (lv_at hl 0 rfl) ?_
        refine lv_iload_n (pc := 33) E.1 E.2 dX8_reasonFor_33 rfl (lv_at hl 1 rfl) ?_
        refine z_iconst (pc := 34) E dX8_reasonFor_34 ?_
        refine lv_lload (pc := 35) E.1 E.2 dX8_reasonFor_35 (lv_at hl 3 rfl) ?_
        refine z_rVi (pc := 37) (As := [.int (iI p), .int (iI 1), .long (iL n)]) (rest := []) E hml hown hts (mX8_isTooMuch lL G o μ σ φ κ β ω p 1 n hI (by omega) (Or.inr rfl) (by omega)) (cwV 3 hts gX8_reasonFor_X8_isTooMuch rfl rfl rfl vdX8_isTooMuch ⟨Nat.le_of_ble_eq_true rfl, Nat.le_of_ble_eq_true rfl⟩) (oB.recv hK hM.1 rfl) hM hK rfl hl.1 rfl dX8_reasonFor_37 hcs (Nat.le_of_ble_eq_true rfl) ?_
        refine z_ifb_eq (pc := 40) (tgt := 45) E dX8_reasonFor_40 (by decide) (fun h40 => ?_) (fun h40 => ?_)
        · refine lv_lload_n (pc := 45) E.1 E.2 dX8_reasonFor_45 rfl (lv_at hl 2 rfl) ?_
          refine z_lconst (pc := 46) (v := 0) E (by decide) dX8_reasonFor_46 ?_
          refine z_lcmp_le (pc := 47) (tgt := 62) E ⟨by omega, by omega⟩ (by decide) dX8_reasonFor_47 dX8_reasonFor_48 (by decide) (fun h47 => ?_) (fun h47 => ?_)
          · refine lv_lload (pc := 62) E.1 E.2 dX8_reasonFor_62 (lv_at hl 3 rfl) ?_
            refine z_lconst (pc := 64) (v := 0) E (by decide) dX8_reasonFor_64 ?_
            refine z_lcmp_le (pc := 65) (tgt := 82) E ⟨by omega, by omega⟩ (by decide) dX8_reasonFor_65 dX8_reasonFor_66 (by decide) (fun h65 => ?_) (fun h65 => ?_)
            · exact absurd h65 (by first | omega | exact h28 | exact fun q => h28 q)
            · refine lv_aload_n (pc := 69) E.1 E.2 dX8_reasonFor_69 rfl (lv_at hl 0 rfl) ?_
              refine lv_iload_n (pc := 70) E.1 E.2 dX8_reasonFor_70 rfl (lv_at hl 1 rfl) ?_
              refine z_iconst (pc := 71) E dX8_reasonFor_71 ?_
              refine z_rVi (pc := 72) (As := [.int (iI p), .int (iI 1)]) (rest := []) E hml hown hts (mX8_isOver lL G o μ σ φ κ β ω p 1 hI (by omega) (Or.inr rfl)) (cwV 2 hts gX8_reasonFor_X8_isOver rfl rfl rfl vdX8_isOver ⟨Nat.le_of_ble_eq_true rfl, Nat.le_of_ble_eq_true rfl⟩) (oB.recv hK hM.1 rfl) hM hK rfl hl.1 rfl dX8_reasonFor_72 hcs (Nat.le_of_ble_eq_true rfl) ?_
              refine z_ifb_eq (pc := 75) (tgt := 82) E dX8_reasonFor_75 (by decide) (fun h75 => ?_) (fun h75 => ?_)
              · refine z_iconst (pc := 82) E dX8_reasonFor_82 ?_
                exact z_retRi E hr (congrArg iI (by unfold rsS; simp only [tmS, ovS] at *; repeat' split; all_goals omega)) hlocks dX8_reasonFor_83
              · refine z_iconst (pc := 78) E dX8_reasonFor_78 ?_
                refine lv_goto (pc := 79) (tgt := 83) E.1 E.2 dX8_reasonFor_79 (by decide) ?_
                exact z_retRi E hr (congrArg iI (by unfold rsS; simp only [tmS, ovS] at *; repeat' split; all_goals omega)) hlocks dX8_reasonFor_83
          · exact absurd h47 (by first | omega | exact h9 | exact fun q => h9 q)
        · refine z_iconst (pc := 43) E dX8_reasonFor_43 ?_
          exact z_retRi E hr (congrArg iI (by unfold rsS; simp only [tmS, ovS] at *; repeat' split; all_goals omega)) hlocks dX8_reasonFor_44
    · refine lv_aload_n (pc := 13) E.1 E.2 dX8_reasonFor_13 rfl (lv_at hl 0 rfl) ?_
      refine lv_iload_n (pc := 14) E.1 E.2 dX8_reasonFor_14 rfl (lv_at hl 1 rfl) ?_
      refine z_iconst (pc := 15) E dX8_reasonFor_15 ?_
      refine lv_lload_n (pc := 16) E.1 E.2 dX8_reasonFor_16 rfl (lv_at hl 2 rfl) ?_
      refine z_rVi (pc := 17) (As := [.int (iI p), .int (iI 0), .long (iL b)]) (rest := []) E hml hown hts (mX8_isTooMuch lL G o μ σ φ κ β ω p 0 b hI (by omega) (Or.inl rfl) (by omega)) (cwV 3 hts gX8_reasonFor_X8_isTooMuch rfl rfl rfl vdX8_isTooMuch ⟨Nat.le_of_ble_eq_true rfl, Nat.le_of_ble_eq_true rfl⟩) (oB.recv hK hM.1 rfl) hM hK rfl hl.1 rfl dX8_reasonFor_17 hcs (Nat.le_of_ble_eq_true rfl) ?_
      refine z_ifb_eq (pc := 20) (tgt := 25) E dX8_reasonFor_20 (by decide) (fun h20 => ?_) (fun h20 => ?_)
      · refine lv_lload (pc := 25) E.1 E.2 dX8_reasonFor_25 (lv_at hl 3 rfl) ?_
        refine z_lconst (pc := 27) (v := 0) E (by decide) dX8_reasonFor_27 ?_
        refine z_lcmp_le (pc := 28) (tgt := 45) E ⟨by omega, by omega⟩ (by decide) dX8_reasonFor_28 dX8_reasonFor_29 (by decide) (fun h28 => ?_) (fun h28 => ?_)
        · refine lv_lload_n (pc := 45) E.1 E.2 dX8_reasonFor_45 rfl (lv_at hl 2 rfl) ?_
          refine z_lconst (pc := 46) (v := 0) E (by decide) dX8_reasonFor_46 ?_
          refine z_lcmp_le (pc := 47) (tgt := 62) E ⟨by omega, by omega⟩ (by decide) dX8_reasonFor_47 dX8_reasonFor_48 (by decide) (fun h47 => ?_) (fun h47 => ?_)
          · exact absurd h47 (by first | omega | exact h9 | exact fun q => h9 q)
          · refine lv_aload_n (pc := 51) E.1 E.2 dX8_reasonFor_51 rfl (lv_at hl 0 rfl) ?_
            refine lv_iload_n (pc := 52) E.1 E.2 dX8_reasonFor_52 rfl (lv_at hl 1 rfl) ?_
            refine z_iconst (pc := 53) E dX8_reasonFor_53 ?_
            refine z_rVi (pc := 54) (As := [.int (iI p), .int (iI 0)]) (rest := []) E hml hown hts (mX8_isOver lL G o μ σ φ κ β ω p 0 hI (by omega) (Or.inl rfl)) (cwV 2 hts gX8_reasonFor_X8_isOver rfl rfl rfl vdX8_isOver ⟨Nat.le_of_ble_eq_true rfl, Nat.le_of_ble_eq_true rfl⟩) (oB.recv hK hM.1 rfl) hM hK rfl hl.1 rfl dX8_reasonFor_54 hcs (Nat.le_of_ble_eq_true rfl) ?_
            refine z_ifb_eq (pc := 57) (tgt := 62) E dX8_reasonFor_57 (by decide) (fun h57 => ?_) (fun h57 => ?_)
            · refine lv_lload (pc := 62) E.1 E.2 dX8_reasonFor_62 (lv_at hl 3 rfl) ?_
              refine z_lconst (pc := 64) (v := 0) E (by decide) dX8_reasonFor_64 ?_
              refine z_lcmp_le (pc := 65) (tgt := 82) E ⟨by omega, by omega⟩ (by decide) dX8_reasonFor_65 dX8_reasonFor_66 (by decide) (fun h65 => ?_) (fun h65 => ?_)
              · refine z_iconst (pc := 82) E dX8_reasonFor_82 ?_
                exact z_retRi E hr (congrArg iI (by unfold rsS; simp only [tmS, ovS] at *; repeat' split; all_goals omega)) hlocks dX8_reasonFor_83
              · exact absurd h65 (by first | omega | exact h28 | exact fun q => h28 q)
            · refine z_iconst (pc := 60) E dX8_reasonFor_60 ?_
              exact z_retRi E hr (congrArg iI (by unfold rsS; simp only [tmS, ovS] at *; repeat' split; all_goals omega)) hlocks dX8_reasonFor_61
        · refine lv_aload_n (pc := 32) E.1 E.2 dX8_reasonFor_32 rfl (lv_at hl 0 rfl) ?_
          refine lv_iload_n (pc := 33) E.1 E.2 dX8_reasonFor_33 rfl (lv_at hl 1 rfl) ?_
          refine z_iconst (pc := 34) E dX8_reasonFor_34 ?_
          refine lv_lload (pc := 35) E.1 E.2 dX8_reasonFor_35 (lv_at hl 3 rfl) ?_
          refine z_rVi (pc := 37) (As := [.int (iI p), .int (iI 1), .long (iL n)]) (rest := []) E hml hown hts (mX8_isTooMuch lL G o μ σ φ κ β ω p 1 n hI (by omega) (Or.inr rfl) (by omega)) (cwV 3 hts gX8_reasonFor_X8_isTooMuch rfl rfl rfl vdX8_isTooMuch ⟨Nat.le_of_ble_eq_true rfl, Nat.le_of_ble_eq_true rfl⟩) (oB.recv hK hM.1 rfl) hM hK rfl hl.1 rfl dX8_reasonFor_37 hcs (Nat.le_of_ble_eq_true rfl) ?_
          refine z_ifb_eq (pc := 40) (tgt := 45) E dX8_reasonFor_40 (by decide) (fun h40 => ?_) (fun h40 => ?_)
          · refine lv_lload_n (pc := 45) E.1 E.2 dX8_reasonFor_45 rfl (lv_at hl 2 rfl) ?_
            refine z_lconst (pc := 46) (v := 0) E (by decide) dX8_reasonFor_46 ?_
            refine z_lcmp_le (pc := 47) (tgt := 62) E ⟨by omega, by omega⟩ (by decide) dX8_reasonFor_47 dX8_reasonFor_48 (by decide) (fun h47 => ?_) (fun h47 => ?_)
            · exact absurd h47 (by first | omega | exact h9 | exact fun q => h9 q)
            · refine lv_aload_n (pc := 51) E.1 E.2 dX8_reasonFor_51 rfl (lv_at hl 0 rfl) ?_
              refine lv_iload_n (pc := 52) E.1 E.2 dX8_reasonFor_52 rfl (lv_at hl 1 rfl) ?_
              refine z_iconst (pc := 53) E dX8_reasonFor_53 ?_
              refine z_rVi (pc := 54) (As := [.int (iI p), .int (iI 0)]) (rest := []) E hml hown hts (mX8_isOver lL G o μ σ φ κ β ω p 0 hI (by omega) (Or.inl rfl)) (cwV 2 hts gX8_reasonFor_X8_isOver rfl rfl rfl vdX8_isOver ⟨Nat.le_of_ble_eq_true rfl, Nat.le_of_ble_eq_true rfl⟩) (oB.recv hK hM.1 rfl) hM hK rfl hl.1 rfl dX8_reasonFor_54 hcs (Nat.le_of_ble_eq_true rfl) ?_
              refine z_ifb_eq (pc := 57) (tgt := 62) E dX8_reasonFor_57 (by decide) (fun h57 => ?_) (fun h57 => ?_)
              · refine lv_lload (pc := 62) E.1 E.2 dX8_reasonFor_62 (lv_at hl 3 rfl) ?_
                refine z_lconst (pc := 64) (v := 0) E (by decide) dX8_reasonFor_64 ?_
                refine z_lcmp_le (pc := 65) (tgt := 82) E ⟨by omega, by omega⟩ (by decide) dX8_reasonFor_65 dX8_reasonFor_66 (by decide) (fun h65 => ?_) (fun h65 => ?_)
                · exact absurd h65 (by first | omega | exact h28 | exact fun q => h28 q)
                · refine lv_aload_n (pc := 69) E.1 E.2 dX8_reasonFor_69 rfl (lv_at hl 0 rfl) ?_
                  refine lv_iload_n (pc := 70) E.1 E.2 dX8_reasonFor_70 rfl (lv_at hl 1 rfl) ?_
                  refine z_iconst (pc := 71) E dX8_reasonFor_71 ?_
                  refine z_rVi (pc := 72) (As := [.int (iI p), .int (iI 1)]) (rest := []) E hml hown hts (mX8_isOver lL G o μ σ φ κ β ω p 1 hI (by omega) (Or.inr rfl)) (cwV 2 hts gX8_reasonFor_X8_isOver rfl rfl rfl vdX8_isOver ⟨Nat.le_of_ble_eq_true rfl, Nat.le_of_ble_eq_true rfl⟩) (oB.recv hK hM.1 rfl) hM hK rfl hl.1 rfl dX8_reasonFor_72 hcs (Nat.le_of_ble_eq_true rfl) ?_
                  refine z_ifb_eq (pc := 75) (tgt := 82) E dX8_reasonFor_75 (by decide) (fun h75 => ?_) (fun h75 => ?_)
                  · refine z_iconst (pc := 82) E dX8_reasonFor_82 ?_
                    exact z_retRi E hr (congrArg iI (by unfold rsS; simp only [tmS, ovS] at *; repeat' split; all_goals omega)) hlocks dX8_reasonFor_83
                  · refine z_iconst (pc := 78) E dX8_reasonFor_78 ?_
                    refine lv_goto (pc := 79) (tgt := 83) E.1 E.2 dX8_reasonFor_79 (by decide) ?_
                    exact z_retRi E hr (congrArg iI (by unfold rsS; simp only [tmS, ovS] at *; repeat' split; all_goals omega)) hlocks dX8_reasonFor_83
              · refine z_iconst (pc := 60) E dX8_reasonFor_60 ?_
                exact z_retRi E hr (congrArg iI (by unfold rsS; simp only [tmS, ovS] at *; repeat' split; all_goals omega)) hlocks dX8_reasonFor_61
          · refine z_iconst (pc := 43) E dX8_reasonFor_43 ?_
            exact z_retRi E hr (congrArg iI (by unfold rsS; simp only [tmS, ovS] at *; repeat' split; all_goals omega)) hlocks dX8_reasonFor_44
      · refine z_iconst (pc := 23) E dX8_reasonFor_23 ?_
        exact z_retRi E hr (congrArg iI (by unfold rsS; simp only [tmS, ovS] at *; repeat' split; all_goals omega)) hlocks dX8_reasonFor_24
  · refine z_iconst (pc := 5) E dX8_reasonFor_5 ?_
    exact z_retRi E hr (congrArg iI (by unfold rsS; simp only [tmS, ovS] at *; repeat' split; all_goals omega)) hlocks dX8_reasonFor_6
set_option maxHeartbeats 4000000 in
set_option maxRecDepth 100000 in
theorem mX8_stateOf (lL : Launch) (G : GG) (o : Nat → Nat) (μ σ φ κ β ω : Int → Int) (p : Int) (k : Int) (hI : In σ) (hp : 0 ≤ p ∧ p ≤ 7) (hk : k = 0 ∨ k = 1) : Met lL yX8_stateOf wsX8_stateOf ({ frames := 3, cells := 0, slots := 0, locals := 76 } : Room) (va_Pc [.ref (o 0), .int (iI p), .int (iI k)] (fun U => W8 G o (mV o μ) σ φ κ β ω U.heap ∧ KK G U)) (vp_Si (fun r => r = (iI (stS σ p k)))) 0 0 (fun _ => False) := by
  refine z_met (P := (fun H : Heap => W8 G o (mV o μ) σ φ κ β ω H)) (by decide) rfl (Nat.le_of_ble_eq_true rfl) (fun pp ee ss mm below meth cC E hr hml hown hts hlocks hM hK ls hl => ?_)
  have hl : lv_has ls 3 [(0, .ref (o 0)), (1, .int (iI p)), (2, .int (iI k))] := hl
  have hcs : 0 ≤ (({ frames := 3, cells := 0, slots := 0, locals := 76 } : Room)).cells ∧ 0 ≤ (({ frames := 3, cells := 0, slots := 0, locals := 76 } : Room)).slots := ⟨Nat.zero_le _, Nat.zero_le _⟩
  have hF := hI.F
  have hMm := hI.M
  have hGn := hI.Gn
  refine lv_aload_n (pc := 0) E.1 E.2 dX8_stateOf_0 rfl (lv_at hl 0 rfl) ?_
  refine lv_iload_n (pc := 1) E.1 E.2 dX8_stateOf_1 rfl (lv_at hl 1 rfl) ?_
  refine lv_iload_n (pc := 2) E.1 E.2 dX8_stateOf_2 rfl (lv_at hl 2 rfl) ?_
  refine z_lconst (pc := 3) (v := 0) E (by decide) dX8_stateOf_3 ?_
  refine z_rVi (pc := 4) (As := [.int (iI p), .int (iI k), .long (iL 0)]) (rest := []) E hml hown hts (mX8_isTooMuch lL G o μ σ φ κ β ω p k 0 hI (by omega) (by omega) (by omega)) (cwV 3 hts gX8_stateOf_X8_isTooMuch rfl rfl rfl vdX8_isTooMuch ⟨Nat.le_of_ble_eq_true rfl, Nat.le_of_ble_eq_true rfl⟩) (oB.recv hK hM.1 rfl) hM hK rfl hl.1 rfl dX8_stateOf_4 hcs (Nat.le_of_ble_eq_true rfl) ?_
  refine z_ifb_eq (pc := 7) (tgt := 12) E dX8_stateOf_7 (by decide) (fun h7 => ?_) (fun h7 => ?_)
  · refine lv_aload_n (pc := 12) E.1 E.2 dX8_stateOf_12 rfl (lv_at hl 0 rfl) ?_
    refine lv_iload_n (pc := 13) E.1 E.2 dX8_stateOf_13 rfl (lv_at hl 1 rfl) ?_
    refine lv_iload_n (pc := 14) E.1 E.2 dX8_stateOf_14 rfl (lv_at hl 2 rfl) ?_
    refine z_rVi (pc := 15) (As := [.int (iI p), .int (iI k)]) (rest := []) E hml hown hts (mX8_doesRun lL G o μ σ φ κ β ω p k hI (by omega) (by omega)) (cwV 2 hts gX8_stateOf_X8_doesRun rfl rfl rfl vdX8_doesRun ⟨Nat.le_of_ble_eq_true rfl, Nat.le_of_ble_eq_true rfl⟩) (oB.recv hK hM.1 rfl) hM hK rfl hl.1 rfl dX8_stateOf_15 hcs (Nat.le_of_ble_eq_true rfl) ?_
    refine z_ifb_eq (pc := 18) (tgt := 36) E dX8_stateOf_18 (by decide) (fun h18 => ?_) (fun h18 => ?_)
    · refine lv_aload_n (pc := 36) E.1 E.2 dX8_stateOf_36 rfl (lv_at hl 0 rfl) ?_
      refine lv_iload_n (pc := 37) E.1 E.2 dX8_stateOf_37 rfl (lv_at hl 1 rfl) ?_
      refine lv_iload_n (pc := 38) E.1 E.2 dX8_stateOf_38 rfl (lv_at hl 2 rfl) ?_
      refine z_iconst (pc := 39) E dX8_stateOf_39 ?_
      refine z_rVl (pc := 40) (As := [.int (iI p), .int (iI k), .int (iI 0)]) (rest := []) E hml hown hts (mX8_limitOf lL G o μ σ φ κ β ω p k 0 hI (by omega) (by omega) (Or.inl rfl)) (cwV 3 hts gX8_stateOf_X8_limitOf rfl rfl rfl vdX8_limitOf ⟨Nat.le_of_ble_eq_true rfl, Nat.le_of_ble_eq_true rfl⟩) (oB.recv hK hM.1 rfl) hM hK rfl hl.1 rfl dX8_stateOf_40 hcs (Nat.le_of_ble_eq_true rfl) ?_
      rw [show ((lmS σ (if (0 : Int) = 0 then 5 else 21) p k : Int)) = lmS σ 5 p k from rfl]
      have hl5 := hI.lmb (t := 5) (Or.inl rfl) hp hk
      refine lv_ldc2 (pc := 43) (v := iL (-1)) E.1 E.2 hown (show (Jvm.Cond.constantLong RX8 37 (iL (-1))).before _ ss = true from (hts _ (List.mem_of_getElem? (i := 1) rfl))) dX8_stateOf_43 ?_
      refine z_lcmp_ne (pc := 46) (tgt := 64) E ⟨by omega, by omega⟩ (by decide) dX8_stateOf_46 dX8_stateOf_47 (by decide) (fun h46 => ?_) (fun h46 => ?_)
      · refine z_iconst (pc := 64) E dX8_stateOf_64 ?_
        refine lv_goto (pc := 65) (tgt := 69) E.1 E.2 dX8_stateOf_65 (by decide) ?_
        exact z_retRi E hr (congrArg iI (by unfold stS; simp only [tmS, ovS, drS] at *; repeat' split; all_goals omega)) hlocks dX8_stateOf_69
      · refine lv_aload_n (pc := 50) E.1 E.2 dX8_stateOf_50 rfl (lv_at hl 0 rfl) ?_
        refine lv_iload_n (pc := 51) E.1 E.2 dX8_stateOf_51 rfl (lv_at hl 1 rfl) ?_
        refine lv_iload_n (pc := 52) E.1 E.2 dX8_stateOf_52 rfl (lv_at hl 2 rfl) ?_
        refine z_iconst (pc := 53) E dX8_stateOf_53 ?_
        refine z_rVl (pc := 54) (As := [.int (iI p), .int (iI k), .int (iI 1)]) (rest := []) E hml hown hts (mX8_limitOf lL G o μ σ φ κ β ω p k 1 hI (by omega) (by omega) (Or.inr rfl)) (cwV 3 hts gX8_stateOf_X8_limitOf rfl rfl rfl vdX8_limitOf ⟨Nat.le_of_ble_eq_true rfl, Nat.le_of_ble_eq_true rfl⟩) (oB.recv hK hM.1 rfl) hM hK rfl hl.1 rfl dX8_stateOf_54 hcs (Nat.le_of_ble_eq_true rfl) ?_
        rw [show ((lmS σ (if (1 : Int) = 0 then 5 else 21) p k : Int)) = lmS σ 21 p k from rfl]
        have hl21 := hI.lmb (t := 21) (Or.inr rfl) hp hk
        refine lv_ldc2 (pc := 57) (v := iL (-1)) E.1 E.2 hown (show (Jvm.Cond.constantLong RX8 37 (iL (-1))).before _ ss = true from (hts _ (List.mem_of_getElem? (i := 1) rfl))) dX8_stateOf_57 ?_
        refine z_lcmp_eq (pc := 60) (tgt := 68) E ⟨by omega, by omega⟩ (by decide) dX8_stateOf_60 dX8_stateOf_61 (by decide) (fun h60 => ?_) (fun h60 => ?_)
        · refine z_iconst (pc := 68) E dX8_stateOf_68 ?_
          exact z_retRi E hr (congrArg iI (by unfold stS; simp only [tmS, ovS, drS] at *; repeat' split; all_goals omega)) hlocks dX8_stateOf_69
        · refine z_iconst (pc := 64) E dX8_stateOf_64 ?_
          refine lv_goto (pc := 65) (tgt := 69) E.1 E.2 dX8_stateOf_65 (by decide) ?_
          exact z_retRi E hr (congrArg iI (by unfold stS; simp only [tmS, ovS, drS] at *; repeat' split; all_goals omega)) hlocks dX8_stateOf_69
    · refine lv_aload_n (pc := 21) E.1 E.2 dX8_stateOf_21 rfl (lv_at hl 0 rfl) ?_
      refine lv_iload_n (pc := 22) E.1 E.2 dX8_stateOf_22 rfl (lv_at hl 1 rfl) ?_
      refine lv_iload_n (pc := 23) E.1 E.2 dX8_stateOf_23 rfl (lv_at hl 2 rfl) ?_
      refine z_rVi (pc := 24) (As := [.int (iI p), .int (iI k)]) (rest := []) E hml hown hts (mX8_isOver lL G o μ σ φ κ β ω p k hI (by omega) (by omega)) (cwV 2 hts gX8_stateOf_X8_isOver rfl rfl rfl vdX8_isOver ⟨Nat.le_of_ble_eq_true rfl, Nat.le_of_ble_eq_true rfl⟩) (oB.recv hK hM.1 rfl) hM hK rfl hl.1 rfl dX8_stateOf_24 hcs (Nat.le_of_ble_eq_true rfl) ?_
      refine z_ifb_eq (pc := 27) (tgt := 34) E dX8_stateOf_27 (by decide) (fun h27 => ?_) (fun h27 => ?_)
      · refine z_iconst (pc := 34) E dX8_stateOf_34 ?_
        exact z_retRi E hr (congrArg iI (by unfold stS; simp only [tmS, ovS, drS] at *; repeat' split; all_goals omega)) hlocks dX8_stateOf_35
      · refine z_iconst (pc := 30) E dX8_stateOf_30 ?_
        refine lv_goto (pc := 31) (tgt := 35) E.1 E.2 dX8_stateOf_31 (by decide) ?_
        exact z_retRi E hr (congrArg iI (by unfold stS; simp only [tmS, ovS, drS] at *; repeat' split; all_goals omega)) hlocks dX8_stateOf_35
  · refine z_iconst (pc := 10) E dX8_stateOf_10 ?_
    exact z_retRi E hr (congrArg iI (by unfold stS; simp only [tmS, ovS, drS] at *; repeat' split; all_goals omega)) hlocks dX8_stateOf_11
