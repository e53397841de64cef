theorem vdX3_subtreeTotal : yX3_subtreeTotal.cls = RX3 ∧ yX3_subtreeTotal.cls ≠ "java/lang/invoke/MethodHandle" ∧ yX3_subtreeTotal.cls ≠ "java/lang/invoke/VarHandle" ∧ (parseMethodDescriptor yX3_subtreeTotal.desc).map (fun d => d.parameters.length) = some 1 := by decide +kernel
theorem vdX3_ancestorOf : yX3_ancestorOf.cls = RX3 ∧ yX3_ancestorOf.cls ≠ "java/lang/invoke/MethodHandle" ∧ yX3_ancestorOf.cls ≠ "java/lang/invoke/VarHandle" ∧ (parseMethodDescriptor yX3_ancestorOf.desc).map (fun d => d.parameters.length) = some 2 := by decide +kernel
theorem vdX3_projectIfTagged : yX3_projectIfTagged.cls = RX3 ∧ yX3_projectIfTagged.cls ≠ "java/lang/invoke/MethodHandle" ∧ yX3_projectIfTagged.cls ≠ "java/lang/invoke/VarHandle" ∧ (parseMethodDescriptor yX3_projectIfTagged.desc).map (fun d => d.parameters.length) = some 2 := by decide +kernel
theorem vdX3_projectIfMoved : yX3_projectIfMoved.cls = RX3 ∧ yX3_projectIfMoved.cls ≠ "java/lang/invoke/MethodHandle" ∧ yX3_projectIfMoved.cls ≠ "java/lang/invoke/VarHandle" ∧ (parseMethodDescriptor yX3_projectIfMoved.desc).map (fun d => d.parameters.length) = some 2 := by decide +kernel
theorem vdX3_isOpenTo : yX3_isOpenTo.cls = RX3 ∧ yX3_isOpenTo.cls ≠ "java/lang/invoke/MethodHandle" ∧ yX3_isOpenTo.cls ≠ "java/lang/invoke/VarHandle" ∧ (parseMethodDescriptor yX3_isOpenTo.desc).map (fun d => d.parameters.length) = some 2 := by decide +kernel
theorem vdX3_nextChild : yX3_nextChild.cls = RX3 ∧ yX3_nextChild.cls ≠ "java/lang/invoke/MethodHandle" ∧ yX3_nextChild.cls ≠ "java/lang/invoke/VarHandle" ∧ (parseMethodDescriptor yX3_nextChild.desc).map (fun d => d.parameters.length) = some 2 := by decide +kernel
theorem vdX3_nextInWalk : yX3_nextInWalk.cls = RX3 ∧ yX3_nextInWalk.cls ≠ "java/lang/invoke/MethodHandle" ∧ yX3_nextInWalk.cls ≠ "java/lang/invoke/VarHandle" ∧ (parseMethodDescriptor yX3_nextInWalk.desc).map (fun d => d.parameters.length) = some 1 := by decide +kernel
theorem vdX2_weightOf : yX2_weightOf.cls = RX2 ∧ yX2_weightOf.cls ≠ "java/lang/invoke/MethodHandle" ∧ yX2_weightOf.cls ≠ "java/lang/invoke/VarHandle" ∧ (parseMethodDescriptor yX2_weightOf.desc).map (fun d => d.parameters.length) = some 2 := by decide +kernel
theorem vdX2_totalIn : yX2_totalIn.cls = RX2 ∧ yX2_totalIn.cls ≠ "java/lang/invoke/MethodHandle" ∧ yX2_totalIn.cls ≠ "java/lang/invoke/VarHandle" ∧ (parseMethodDescriptor yX2_totalIn.desc).map (fun d => d.parameters.length) = some 1 := by decide +kernel
theorem vdX0_limitOf : yX0_limitOf.cls = RX0 ∧ yX0_limitOf.cls ≠ "java/lang/invoke/MethodHandle" ∧ yX0_limitOf.cls ≠ "java/lang/invoke/VarHandle" ∧ (parseMethodDescriptor yX0_limitOf.desc).map (fun d => d.parameters.length) = some 2 := by decide +kernel
theorem vdX4_has : yX4_has.cls = RX4 ∧ yX4_has.cls ≠ "java/lang/invoke/MethodHandle" ∧ yX4_has.cls ≠ "java/lang/invoke/VarHandle" ∧ (parseMethodDescriptor yX4_has.desc).map (fun d => d.parameters.length) = some 1 := by decide +kernel
theorem vdX4_isFull : yX4_isFull.cls = RX4 ∧ yX4_isFull.cls ≠ "java/lang/invoke/MethodHandle" ∧ yX4_isFull.cls ≠ "java/lang/invoke/VarHandle" ∧ (parseMethodDescriptor yX4_isFull.desc).map (fun d => d.parameters.length) = some 0 := by decide +kernel
theorem vdX4_giverOf : yX4_giverOf.cls = RX4 ∧ yX4_giverOf.cls ≠ "java/lang/invoke/MethodHandle" ∧ yX4_giverOf.cls ≠ "java/lang/invoke/VarHandle" ∧ (parseMethodDescriptor yX4_giverOf.desc).map (fun d => d.parameters.length) = some 1 := by decide +kernel
theorem vdX4_getterOf : yX4_getterOf.cls = RX4 ∧ yX4_getterOf.cls ≠ "java/lang/invoke/MethodHandle" ∧ yX4_getterOf.cls ≠ "java/lang/invoke/VarHandle" ∧ (parseMethodDescriptor yX4_getterOf.desc).map (fun d => d.parameters.length) = some 1 := by decide +kernel
theorem vdX4_blocksOf : yX4_blocksOf.cls = RX4 ∧ yX4_blocksOf.cls ≠ "java/lang/invoke/MethodHandle" ∧ yX4_blocksOf.cls ≠ "java/lang/invoke/VarHandle" ∧ (parseMethodDescriptor yX4_blocksOf.desc).map (fun d => d.parameters.length) = some 1 := by decide +kernel
theorem vdX4_endOf : yX4_endOf.cls = RX4 ∧ yX4_endOf.cls ≠ "java/lang/invoke/MethodHandle" ∧ yX4_endOf.cls ≠ "java/lang/invoke/VarHandle" ∧ (parseMethodDescriptor yX4_endOf.desc).map (fun d => d.parameters.length) = some 1 := by decide +kernel
theorem vdX4_balanceOf : yX4_balanceOf.cls = RX4 ∧ yX4_balanceOf.cls ≠ "java/lang/invoke/MethodHandle" ∧ yX4_balanceOf.cls ≠ "java/lang/invoke/VarHandle" ∧ (parseMethodDescriptor yX4_balanceOf.desc).map (fun d => d.parameters.length) = some 1 := by decide +kernel
theorem vdX4_concern : yX4_concern.cls = RX4 ∧ yX4_concern.cls ≠ "java/lang/invoke/MethodHandle" ∧ yX4_concern.cls ≠ "java/lang/invoke/VarHandle" ∧ (parseMethodDescriptor yX4_concern.desc).map (fun d => d.parameters.length) = some 1 := by decide +kernel
theorem vdX4_firstEnd : yX4_firstEnd.cls = RX4 ∧ yX4_firstEnd.cls ≠ "java/lang/invoke/MethodHandle" ∧ yX4_firstEnd.cls ≠ "java/lang/invoke/VarHandle" ∧ (parseMethodDescriptor yX4_firstEnd.desc).map (fun d => d.parameters.length) = some 0 := by decide +kernel
theorem vdX7_accountOf : yX7_accountOf.cls = RX7 ∧ yX7_accountOf.cls ≠ "java/lang/invoke/MethodHandle" ∧ yX7_accountOf.cls ≠ "java/lang/invoke/VarHandle" ∧ (parseMethodDescriptor yX7_accountOf.desc).map (fun d => d.parameters.length) = some 2 := by decide +kernel
set_option maxHeartbeats 1000000 in
set_option maxRecDepth 100000 in
theorem mX3_subtreeTotal (lL : Launch) (G : GG) (o : Nat → Nat) (σ : Int → Int) (f : Int) (hI : In σ) (hf : 0 ≤ f ∧ f < σ 2) : Met lL yX3_subtreeTotal wsX3_subtreeTotal ({ frames := 3, cells := 0, slots := 0, locals := 66 } : Room) (va_Pc [.ref (o 0), .int (iI f)] (fun U => FO G o σ U.heap ∧ KK G U)) (vp_Si (fun r => r = (iI (fbS σ f)))) 0 0 (fun _ => False) := by
  refine z_met (P := (fun H : Heap => FO G o σ H)) (by decide) rfl (Nat.le_of_ble_eq_true rfl) (fun pp ee ss mm below meth cC E hr hml hown hts hlocks hFO hK ls hl => ?_)
  have hl : lv_has ls 4 [(0, .ref (o 0)), (1, .int (iI f))] := hl
  have hcs : 0 ≤ (({ frames := 3, cells := 0, slots := 0, locals := 66 } : Room)).cells ∧ 0 ≤ (({ frames := 3, cells := 0, slots := 0, locals := 66 } : Room)).slots := ⟨Nat.zero_le _, Nat.zero_le _⟩
  have hin3 : ∀ w ∈ wsX30, w ∈ wsX3_subtreeTotal := fun w h => List.mem_cons_of_mem _ (List.mem_append_right _ (h))
  obtain ⟨pa, na, ta, hM, hs⟩ := id hFO
  have hF := hI.F
  have hMm := hI.M
  have hGn := hI.Gn
  refine z_iconst (pc := 0) E dX3_subtreeTotal_0 ?_
  refine lv_istore_n (pc := 1) (lv' := [(2, .int (iI 0)), (0, .ref (o 0)), (1, .int (iI f))]) E.1 E.2 dX3_subtreeTotal_1 rfl hl (by decide) rfl (fun ls hl => ?_)
  refine z_iconst (pc := 2) E dX3_subtreeTotal_2 ?_
  refine lv_istore_n (pc := 3) (lv' := [(3, .int (iI 0)), (2, .int (iI 0)), (0, .ref (o 0)), (1, .int (iI f))]) E.1 E.2 dX3_subtreeTotal_3 rfl hl (by decide) rfl (fun ls hl => ?_)
  suffices L4 : ∀ (nf : Nat), ∀ (a k : Int), (0 ≤ k ∧ k ≤ σ 2) → (a = cn (fbP σ f) k.toNat) → ((σ 2 - k).toNat) < nf → ∀ ls : Array Slot, lv_has ls 4 [(3, .int (iI k)), (2, .int (iI a)), (0, .ref (o 0)), (1, .int (iI f))] → W pp lL ee ({ frames := 3, cells := 0, slots := 0, locals := 66 } : Room) ss mm [.ref (o 0), .int (iI f)].toArray below meth cC ss.heap [] 0 0 (MQ below (vp_Si (fun r => r = (iI (fbS σ f)))) [.ref (o 0), .int (iI f)].toArray ss 0 0 (fun _ => False)) (F0 mm 4 ls []) from L4 _ 0 0 (by omega) rfl (Nat.lt_succ_self _) ls (lv_sub hl [0, 1, 2, 3] rfl)
  intro nfL4
  induction nfL4 with
  | zero => intro a k hk hn hmzL4; exact absurd hmzL4 (Nat.not_lt_zero _)
  | succ nfL4 ihL4 =>
    intro a k hk hn hmzL4 ls hl
    refine lv_iload_n (pc := 4) E.1 E.2 dX3_subtreeTotal_4 rfl (lv_at hl 0 rfl) ?_
    refine lv_aload_n (pc := 5) E.1 E.2 dX3_subtreeTotal_5 rfl (lv_at hl 2 rfl) ?_
    refine g3_3 (pc := 6) E hts hin3 hown hK hM.1 (hts _ (List.mem_of_getElem? (i := 1) rfl)) dX3_subtreeTotal_6 ?_
    refine z_icmp_ge (pc := 9) (tgt := 30) E ⟨by omega, by omega⟩ ⟨by omega, by omega⟩ dX3_subtreeTotal_9 (by decide) (fun h9 => ?_) (fun h9 => ?_)
    · refine lv_iload_n (pc := 30) E.1 E.2 dX3_subtreeTotal_30 rfl (lv_at hl 1 rfl) ?_
      exact z_retRi E hr (congrArg iI (by (rw [hn]; unfold fbS; congr 2; omega))) hlocks dX3_subtreeTotal_31
    · refine lv_aload_n (pc := 12) E.1 E.2 dX3_subtreeTotal_12 rfl (lv_at hl 2 rfl) ?_
      refine lv_iload_n (pc := 13) E.1 E.2 dX3_subtreeTotal_13 rfl (lv_at hl 0 rfl) ?_
      refine lv_iload_n (pc := 14) E.1 E.2 dX3_subtreeTotal_14 rfl (lv_at hl 3 rfl) ?_
      refine z_rVi (pc := 15) (As := [.int (iI k), .int (iI f)]) (rest := []) E hml hown hts (mX3_isInSubtree lL G o σ k f hI (Or.inr ⟨hk.1, by omega⟩) (by omega)) (cwV 2 hts gX3_subtreeTotal_X3_isInSubtree rfl rfl rfl vdX3_isInSubtree ⟨Nat.le_of_ble_eq_true rfl, Nat.le_of_ble_eq_true rfl⟩) (oB.recv hK hM.1 rfl) hFO hK rfl hl.1 rfl dX3_subtreeTotal_15 hcs (Nat.le_of_ble_eq_true rfl) ?_
      refine z_ifb_eq (pc := 18) (tgt := 24) E dX3_subtreeTotal_18 (by decide) (fun h18 => ?_) (fun h18 => ?_)
      · refine lv_iinc (pc := 24) (v := iI (k + 1)) (lv' := [(3, .int (iI (k + 1))), (2, .int (iI a)), (0, .ref (o 0)), (1, .int (iI f))]) E.1 E.2 dX3_subtreeTotal_24 hl (k := 0) rfl (iI_add _ _) (by decide) rfl (fun ls hl => ?_)
        refine lv_goto (pc := 27) (tgt := 4) E.1 E.2 dX3_subtreeTotal_27 (by decide) ?_
        exact ihL4 a (k + 1) (by omega) (by rw [cn_s _ hk.1, ← hn]; unfold fbP; first | (rw [if_neg h18]; omega) | (rw [if_pos h18])) (by omega) ls (lv_sub hl [0, 1, 2, 3] rfl)
      · refine lv_iinc (pc := 21) (v := iI (a + 1)) (lv' := [(2, .int (iI (a + 1))), (3, .int (iI k)), (0, .ref (o 0)), (1, .int (iI f))]) E.1 E.2 dX3_subtreeTotal_21 hl (k := 1) rfl (iI_add _ _) (by decide) rfl (fun ls hl => ?_)
        refine lv_iinc (pc := 24) (v := iI (k + 1)) (lv' := [(3, .int (iI (k + 1))), (2, .int (iI (a + 1))), (0, .ref (o 0)), (1, .int (iI f))]) E.1 E.2 dX3_subtreeTotal_24 hl (k := 1) rfl (iI_add _ _) (by decide) rfl (fun ls hl => ?_)
        refine lv_goto (pc := 27) (tgt := 4) E.1 E.2 dX3_subtreeTotal_27 (by decide) ?_
        exact ihL4 (a + 1) (k + 1) (by omega) (by rw [cn_s _ hk.1, ← hn]; unfold fbP; first | (rw [if_neg h18]; omega) | (rw [if_pos h18])) (by omega) ls (lv_sub hl [0, 1, 2, 3] rfl)
set_option maxHeartbeats 1000000 in
set_option maxRecDepth 100000 in
theorem mX3_ancestorOf (lL : Launch) (G : GG) (o : Nat → Nat) (σ : Int → Int) (f : Int) (n : Int) (hI : In σ) (hf : 0 ≤ f ∧ f < σ 2) (hn : 0 ≤ n ∧ n ≤ 40) : Met lL yX3_ancestorOf wsX3_ancestorOf ({ frames := 2, cells := 0, slots := 0, locals := 42 } : Room) (va_Pc [.ref (o 0), .int (iI f), .int (iI n)] (fun U => FO G o σ U.heap ∧ KK G U)) (vp_Si (fun r => r = (iI (anS σ n.toNat f)))) 0 0 (fun _ => False) := by
  refine z_met (P := (fun H : Heap => FO G o σ H)) (by decide) rfl (Nat.le_of_ble_eq_true rfl) (fun pp ee ss mm below meth cC E hr hml hown hts hlocks hFO hK ls hl => ?_)
  have hl : lv_has ls 5 [(0, .ref (o 0)), (1, .int (iI f)), (2, .int (iI n))] := hl
  have hcs : 0 ≤ (({ frames := 2, cells := 0, slots := 0, locals := 42 } : Room)).cells ∧ 0 ≤ (({ frames := 2, cells := 0, slots := 0, locals := 42 } : Room)).slots := ⟨Nat.zero_le _, Nat.zero_le _⟩
  obtain ⟨pa, na, ta, hM, hs⟩ := id hFO
  have hF := hI.F
  have hMm := hI.M
  have hGn := hI.Gn
  refine lv_iload_n (pc := 0) E.1 E.2 dX3_ancestorOf_0 rfl (lv_at hl 1 rfl) ?_
  refine lv_istore_n (pc := 1) (lv' := [(3, .int (iI f)), (0, .ref (o 0)), (1, .int (iI f)), (2, .int (iI n))]) E.1 E.2 dX3_ancestorOf_1 rfl hl (by decide) rfl (fun ls hl => ?_)
  refine z_iconst (pc := 2) E dX3_ancestorOf_2 ?_
  refine lv_istore (pc := 3) (lv' := [(4, .int (iI 0)), (3, .int (iI f)), (0, .ref (o 0)), (1, .int (iI f)), (2, .int (iI n))]) E.1 E.2 dX3_ancestorOf_3 hl (by decide) rfl (fun ls hl => ?_)
  suffices L5 : ∀ (nf : Nat), ∀ (g i : Int), (fo σ g) → (0 ≤ i ∧ i ≤ n) → (g = anS σ i.toNat f) → ((n - i).toNat) < nf → ∀ ls : Array Slot, lv_has ls 5 [(4, .int (iI i)), (3, .int (iI g)), (0, .ref (o 0)), (1, .int (iI f)), (2, .int (iI n))] → W pp lL ee ({ frames := 2, cells := 0, slots := 0, locals := 42 } : Room) ss mm [.ref (o 0), .int (iI f), .int (iI n)].toArray below meth cC ss.heap [] 0 0 (MQ below (vp_Si (fun r => r = (iI (anS σ n.toNat f)))) [.ref (o 0), .int (iI f), .int (iI n)].toArray ss 0 0 (fun _ => False)) (F0 mm 5 ls []) from L5 _ f 0 (Or.inr hf) (by omega) rfl (Nat.lt_succ_self _) ls (lv_sub hl [0, 1, 2, 3, 4] rfl)
  intro nfL5
  induction nfL5 with
  | zero => intro g i hg hi he hmzL5; exact absurd hmzL5 (Nat.not_lt_zero _)
  | succ nfL5 ihL5 =>
    intro g i hg hi he hmzL5 ls hl
    have hgr : -1 ≤ g ∧ g < σ 2 := by rcases hg with q | q <;> omega
    refine lv_iload (pc := 5) E.1 E.2 dX3_ancestorOf_5 (lv_at hl 0 rfl) ?_
    refine lv_iload_n (pc := 7) E.1 E.2 dX3_ancestorOf_7 rfl (lv_at hl 4 rfl) ?_
    refine z_icmp_ge (pc := 8) (tgt := 23) E ⟨by omega, by omega⟩ ⟨by omega, by omega⟩ dX3_ancestorOf_8 (by decide) (fun h8 => ?_) (fun h8 => ?_)
    · refine lv_iload_n (pc := 23) E.1 E.2 dX3_ancestorOf_23 rfl (lv_at hl 1 rfl) ?_
      exact z_retRi E hr (congrArg iI (by (rw [he]; congr 1; omega))) hlocks dX3_ancestorOf_24
    · refine lv_aload_n (pc := 11) E.1 E.2 dX3_ancestorOf_11 rfl (lv_at hl 2 rfl) ?_
      refine lv_iload_n (pc := 12) E.1 E.2 dX3_ancestorOf_12 rfl (lv_at hl 1 rfl) ?_
      refine z_rVi (pc := 13) (As := [.int (iI g)]) (rest := []) E hml hown hts (mX3_parentOf lL G o σ g hI (by omega)) (cwV 1 hts gX3_ancestorOf_X3_parentOf rfl rfl rfl vdX3_parentOf ⟨Nat.le_of_ble_eq_true rfl, Nat.le_of_ble_eq_true rfl⟩) (oB.recv hK hM.1 rfl) hFO hK rfl hl.1 rfl dX3_ancestorOf_13 hcs (Nat.le_of_ble_eq_true rfl) ?_
      refine lv_istore_n (pc := 16) (lv' := [(3, .int (iI (if 0 ≤ g ∧ g < σ 2 then σ (69 + g) else -1))), (4, .int (iI i)), (0, .ref (o 0)), (1, .int (iI f)), (2, .int (iI n))]) E.1 E.2 dX3_ancestorOf_16 rfl hl (by decide) rfl (fun ls hl => ?_)
      refine lv_iinc (pc := 17) (v := iI (i + 1)) (lv' := [(4, .int (iI (i + 1))), (3, .int (iI (if 0 ≤ g ∧ g < σ 2 then σ (69 + g) else -1))), (0, .ref (o 0)), (1, .int (iI f)), (2, .int (iI n))]) E.1 E.2 dX3_ancestorOf_17 hl (k := 1) rfl (iI_add _ _) (by decide) rfl (fun ls hl => ?_)
      refine lv_goto (pc := 20) (tgt := 5) E.1 E.2 dX3_ancestorOf_20 (by decide) ?_
      exact ihL5 (if 0 ≤ g ∧ g < σ 2 then σ (69 + g) else -1) (i + 1) (anS_fo hI hg) (by omega) (by rw [show (i + 1).toNat = i.toNat + 1 by omega, anS, ← he]) (by omega) ls (lv_sub hl [0, 1, 2, 3, 4] rfl)
set_option maxHeartbeats 1000000 in
set_option maxRecDepth 100000 in
theorem mX3_projectIfTagged (lL : Launch) (G : GG) (o : Nat → Nat) (σ : Int → Int) (f : Int) (t : Int) (hI : In σ) (hf : 0 ≤ f ∧ f < σ 2) (ht : -1 ≤ t ∧ t ≤ 7) : Met lL yX3_projectIfTagged wsX3_projectIfTagged ({ frames := 3, cells := 0, slots := 0, locals := 65 } : Room) (va_Pc [.ref (o 0), .int (iI f), .int (iI t)] (fun U => FO G o σ U.heap ∧ KK G U)) (vp_Si (fun r => r = (iI (pwS σ f t)))) 0 0 (fun _ => False) := by
  refine z_met (P := (fun H : Heap => FO G o σ H)) (by decide) rfl (Nat.le_of_ble_eq_true rfl) (fun pp ee ss mm below meth cC E hr hml hown hts hlocks hFO hK ls hl => ?_)
  have hl : lv_has ls 3 [(0, .ref (o 0)), (1, .int (iI f)), (2, .int (iI t))] := hl
  have hcs : 0 ≤ (({ frames := 3, cells := 0, slots := 0, locals := 65 } : Room)).cells ∧ 0 ≤ (({ frames := 3, cells := 0, slots := 0, locals := 65 } : Room)).slots := ⟨Nat.zero_le _, Nat.zero_le _⟩
  obtain ⟨pa, na, ta, hM, hs⟩ := id hFO
  have hF := hI.F
  have hMm := hI.M
  have hGn := hI.Gn
  refine lv_iload_n (pc := 0) E.1 E.2 dX3_projectIfTagged_0 rfl (lv_at hl 2 rfl) ?_
  refine z_iconst (pc := 1) E dX3_projectIfTagged_1 ?_
  refine z_icmp_eq (pc := 2) (tgt := 9) E ⟨by omega, by omega⟩ (by decide) dX3_projectIfTagged_2 (by decide) (fun h2 => ?_) (fun h2 => ?_)
  · refine lv_aload_n (pc := 9) E.1 E.2 dX3_projectIfTagged_9 rfl (lv_at hl 0 rfl) ?_
    refine lv_aload_n (pc := 10) E.1 E.2 dX3_projectIfTagged_10 rfl (lv_at hl 0 rfl) ?_
    refine lv_iload_n (pc := 11) E.1 E.2 dX3_projectIfTagged_11 rfl (lv_at hl 1 rfl) ?_
    refine z_rVi (pc := 12) (As := [.int (iI f)]) (rest := [.ref (o 0)]) E hml hown hts (mX3_parentOf lL G o σ f hI (by omega)) (cwV 1 hts gX3_projectIfTagged_X3_parentOf rfl rfl rfl vdX3_parentOf ⟨Nat.le_of_ble_eq_true rfl, Nat.le_of_ble_eq_true rfl⟩) (oB.recv hK hM.1 rfl) hFO hK rfl hl.1 rfl dX3_projectIfTagged_12 hcs (Nat.le_of_ble_eq_true rfl) ?_
    rw [show (if 0 ≤ f ∧ f < σ 2 then σ (69 + f) else -1) = (σ (69 + f)) from (if_pos hf)]
    refine z_rVi (pc := 15) (As := [.int (iI (σ (69 + f)))]) (rest := []) E hml hown hts (mX3_projectOf lL G o σ (σ (69 + f)) hI (hI.fp hf.1 hf.2)) (cwV 1 hts gX3_projectIfTagged_X3_projectOf rfl rfl rfl vdX3_projectOf ⟨Nat.le_of_ble_eq_true rfl, Nat.le_of_ble_eq_true rfl⟩) (oB.recv hK hM.1 rfl) hFO hK rfl hl.1 rfl dX3_projectIfTagged_15 hcs (Nat.le_of_ble_eq_true rfl) ?_
    exact z_retRi E hr (congrArg iI (by first | (exact (pwS_n h2).symm) | (rw [h2]; exact (pwS_y hI hf).symm))) hlocks dX3_projectIfTagged_18
  · refine lv_iload_n (pc := 5) E.1 E.2 dX3_projectIfTagged_5 rfl (lv_at hl 2 rfl) ?_
    refine lv_goto (pc := 6) (tgt := 18) E.1 E.2 dX3_projectIfTagged_6 (by decide) ?_
    exact z_retRi E hr (congrArg iI (by first | (exact (pwS_n h2).symm) | (rw [h2]; exact (pwS_y hI hf).symm))) hlocks dX3_projectIfTagged_18
set_option maxHeartbeats 1000000 in
set_option maxRecDepth 100000 in
theorem mX3_projectIfMoved (lL : Launch) (G : GG) (o : Nat → Nat) (σ : Int → Int) (f : Int) (q : Int) (hI : In σ) (hf : 0 ≤ f ∧ f < σ 2) (hq : 0 ≤ q ∧ q < σ 2) : Met lL yX3_projectIfMoved wsX3_projectIfMoved ({ frames := 3, cells := 0, slots := 0, locals := 65 } : Room) (va_Pc [.ref (o 0), .int (iI f), .int (iI q)] (fun U => FO G o σ U.heap ∧ KK G U)) (vp_Si (fun r => r = (iI (puS σ f q)))) 0 0 (fun _ => False) := by
  refine z_met (P := (fun H : Heap => FO G o σ H)) (by decide) rfl (Nat.le_of_ble_eq_true rfl) (fun pp ee ss mm below meth cC E hr hml hown hts hlocks hFO hK ls hl => ?_)
  have hl : lv_has ls 3 [(0, .ref (o 0)), (1, .int (iI f)), (2, .int (iI q))] := hl
  have hcs : 0 ≤ (({ frames := 3, cells := 0, slots := 0, locals := 65 } : Room)).cells ∧ 0 ≤ (({ frames := 3, cells := 0, slots := 0, locals := 65 } : Room)).slots := ⟨Nat.zero_le _, Nat.zero_le _⟩
  obtain ⟨pa, na, ta, hM, hs⟩ := id hFO
  have hF := hI.F
  have hMm := hI.M
  have hGn := hI.Gn
  refine lv_aload_n (pc := 0) E.1 E.2 dX3_projectIfMoved_0 rfl (lv_at hl 0 rfl) ?_
  refine lv_iload_n (pc := 1) E.1 E.2 dX3_projectIfMoved_1 rfl (lv_at hl 1 rfl) ?_
  refine z_rVi (pc := 2) (As := [.int (iI f)]) (rest := []) E hml hown hts (mX3_tagOf lL G o σ f hI (by omega)) (cwV 1 hts gX3_projectIfMoved_X3_tagOf rfl rfl rfl vdX3_tagOf ⟨Nat.le_of_ble_eq_true rfl, Nat.le_of_ble_eq_true rfl⟩) (oB.recv hK hM.1 rfl) hFO hK rfl hl.1 rfl dX3_projectIfMoved_2 hcs (Nat.le_of_ble_eq_true rfl) ?_
  have htg := hI.tag hf.1 hf.2
  rw [show (if 0 ≤ f ∧ f < σ 2 then σ (109 + f) else -1) = (σ (109 + f)) from (if_pos hf)]
  refine z_iconst (pc := 5) E dX3_projectIfMoved_5 ?_
  refine z_icmp_eq (pc := 6) (tgt := 17) E ⟨by omega, by omega⟩ (by decide) dX3_projectIfMoved_6 (by decide) (fun h6 => ?_) (fun h6 => ?_)
  · refine lv_aload_n (pc := 17) E.1 E.2 dX3_projectIfMoved_17 rfl (lv_at hl 0 rfl) ?_
    refine lv_iload_n (pc := 18) E.1 E.2 dX3_projectIfMoved_18 rfl (lv_at hl 2 rfl) ?_
    refine z_rVi (pc := 19) (As := [.int (iI q)]) (rest := []) E hml hown hts (mX3_projectOf lL G o σ q hI (Or.inr hq)) (cwV 1 hts gX3_projectIfMoved_X3_projectOf rfl rfl rfl vdX3_projectOf ⟨Nat.le_of_ble_eq_true rfl, Nat.le_of_ble_eq_true rfl⟩) (oB.recv hK hM.1 rfl) hFO hK rfl hl.1 rfl dX3_projectIfMoved_19 hcs (Nat.le_of_ble_eq_true rfl) ?_
    exact z_retRi E hr (congrArg iI (by first | (unfold puS; rw [if_pos h6]) | (unfold puS; rw [if_neg h6]))) hlocks dX3_projectIfMoved_22
  · refine lv_aload_n (pc := 9) E.1 E.2 dX3_projectIfMoved_9 rfl (lv_at hl 0 rfl) ?_
    refine lv_iload_n (pc := 10) E.1 E.2 dX3_projectIfMoved_10 rfl (lv_at hl 1 rfl) ?_
    refine z_rVi (pc := 11) (As := [.int (iI f)]) (rest := []) E hml hown hts (mX3_tagOf lL G o σ f hI (by omega)) (cwV 1 hts gX3_projectIfMoved_X3_tagOf rfl rfl rfl vdX3_tagOf ⟨Nat.le_of_ble_eq_true rfl, Nat.le_of_ble_eq_true rfl⟩) (oB.recv hK hM.1 rfl) hFO hK rfl hl.1 rfl dX3_projectIfMoved_11 hcs (Nat.le_of_ble_eq_true rfl) ?_
    rw [show (if 0 ≤ f ∧ f < σ 2 then σ (109 + f) else -1) = (σ (109 + f)) from (if_pos hf)]
    refine lv_goto (pc := 14) (tgt := 22) E.1 E.2 dX3_projectIfMoved_14 (by decide) ?_
    exact z_retRi E hr (congrArg iI (by first | (unfold puS; rw [if_pos h6]) | (unfold puS; rw [if_neg h6]))) hlocks dX3_projectIfMoved_22
set_option maxHeartbeats 1000000 in
set_option maxRecDepth 100000 in
theorem mX3_isOpenTo (lL : Launch) (G : GG) (o : Nat → Nat) (σ : Int → Int) (f : Int) (a : Int) (hI : In σ) (hf : fo σ f) (ha : 0 ≤ a ∧ a < σ 2) : Met lL yX3_isOpenTo wsX3_isOpenTo ({ frames := 2, cells := 0, slots := 0, locals := 42 } : Room) (va_Pc [.ref (o 0), .int (iI f), .int (iI a)] (fun U => FO G o σ U.heap ∧ KK G U)) (vp_Si (fun r => r = (iI (if olF σ f a = true then 1 else 0)))) 0 0 (fun _ => False) := by
  refine z_met (P := (fun H : Heap => FO G o σ H)) (by decide) rfl (Nat.le_of_ble_eq_true rfl) (fun pp ee ss mm below meth cC E hr hml hown hts hlocks hFO hK ls hl => ?_)
  have hl : lv_has ls 5 [(0, .ref (o 0)), (1, .int (iI f)), (2, .int (iI a))] := hl
  have hcs : 0 ≤ (({ frames := 2, cells := 0, slots := 0, locals := 42 } : Room)).cells ∧ 0 ≤ (({ frames := 2, cells := 0, slots := 0, locals := 42 } : Room)).slots := ⟨Nat.zero_le _, Nat.zero_le _⟩
  obtain ⟨pa, na, ta, hM, hs⟩ := id hFO
  have hF := hI.F
  have hMm := hI.M
  have hGn := hI.Gn
  refine lv_iload_n (pc := 0) E.1 E.2 dX3_isOpenTo_0 rfl (lv_at hl 1 rfl) ?_
  refine lv_istore_n (pc := 1) (lv' := [(3, .int (iI f)), (0, .ref (o 0)), (1, .int (iI f)), (2, .int (iI a))]) E.1 E.2 dX3_isOpenTo_1 rfl hl (by decide) rfl (fun ls hl => ?_)
  refine z_iconst (pc := 2) E dX3_isOpenTo_2 ?_
  refine lv_istore (pc := 3) (lv' := [(4, .int (iI 0)), (3, .int (iI f)), (0, .ref (o 0)), (1, .int (iI f)), (2, .int (iI a))]) E.1 E.2 dX3_isOpenTo_3 hl (by decide) rfl (fun ls hl => ?_)
  suffices L5 : ∀ (nf : Nat), ∀ (g k : Int), (fo σ g) → (olF σ g a = olF σ f a) → (0 ≤ k ∧ k + dpF σ g ≤ 40) → ((dpF σ g).toNat) < nf → ∀ ls : Array Slot, lv_has ls 5 [(4, .int (iI k)), (3, .int (iI g)), (0, .ref (o 0)), (1, .int (iI f)), (2, .int (iI a))] → W pp lL ee ({ frames := 2, cells := 0, slots := 0, locals := 42 } : Room) ss mm [.ref (o 0), .int (iI f), .int (iI a)].toArray below meth cC ss.heap [] 0 0 (MQ below (vp_Si (fun r => r = (iI (if olF σ f a = true then 1 else 0)))) [.ref (o 0), .int (iI f), .int (iI a)].toArray ss 0 0 (fun _ => False)) (F0 mm 5 ls []) from L5 _ f 0 hf rfl (by rcases hf with q | q; rw [q, dpF_n]; omega; have := dpF_40 hI.cs q.1 q.2; omega) (Nat.lt_succ_self _) ls (lv_sub hl [0, 1, 2, 3, 4] rfl)
  intro nfL5
  induction nfL5 with
  | zero => intro g k hg he hk hmzL5; exact absurd hmzL5 (Nat.not_lt_zero _)
  | succ nfL5 ihL5 =>
    intro g k hg he hk hmzL5 ls hl
    have hgr : -1 ≤ g ∧ g < σ 2 := by rcases hg with q | q <;> omega
    have hdg := dpF_bd σ g
    refine lv_iload (pc := 5) E.1 E.2 dX3_isOpenTo_5 (lv_at hl 0 rfl) ?_
    refine z_bipush (pc := 7) E (by decide) dX3_isOpenTo_7 ?_
    refine z_icmp_ge (pc := 9) (tgt := 47) E ⟨by omega, by omega⟩ (by decide) dX3_isOpenTo_9 (by decide) (fun h9 => ?_) (fun h9 => ?_)
    · have eg : g = -1 := by rcases hg with q | q; exact q; have := dpF_pos hI.cs q.1 q.2; omega
      refine z_iconst (pc := 47) E dX3_isOpenTo_47 ?_
      exact z_retRz E hr rfl (congrArg iI (by first | (rw [← he, eg, olF_n]; rfl) | (rw [← he, h14, olF_n]; rfl) | (rw [← he, olF_s hI.cs hg2.1 hg2.2, if_pos h19]; rfl) | (rw [← he, olF_s hI.cs hg2.1 hg2.2, if_neg h19, if_neg h30]; rfl))) hlocks dX3_isOpenTo_48
    · refine lv_iload_n (pc := 12) E.1 E.2 dX3_isOpenTo_12 rfl (lv_at hl 1 rfl) ?_
      refine z_iconst (pc := 13) E dX3_isOpenTo_13 ?_
      refine z_icmp_eq (pc := 14) (tgt := 47) E ⟨by omega, by omega⟩ (by decide) dX3_isOpenTo_14 (by decide) (fun h14 => ?_) (fun h14 => ?_)
      · refine z_iconst (pc := 47) E dX3_isOpenTo_47 ?_
        exact z_retRz E hr rfl (congrArg iI (by first | (rw [← he, eg, olF_n]; rfl) | (rw [← he, h14, olF_n]; rfl) | (rw [← he, olF_s hI.cs hg2.1 hg2.2, if_pos h19]; rfl) | (rw [← he, olF_s hI.cs hg2.1 hg2.2, if_neg h19, if_neg h30]; rfl))) hlocks dX3_isOpenTo_48
      · have hg2 : 0 ≤ g ∧ g < σ 2 := by rcases hg with q | q; exact absurd q h14; exact q
        refine lv_iload_n (pc := 17) E.1 E.2 dX3_isOpenTo_17 rfl (lv_at hl 1 rfl) ?_
        refine lv_iload_n (pc := 18) E.1 E.2 dX3_isOpenTo_18 rfl (lv_at hl 4 rfl) ?_
        refine z_icmp_ne (pc := 19) (tgt := 24) E ⟨by omega, by omega⟩ ⟨by omega, by omega⟩ dX3_isOpenTo_19 (by decide) (fun h19 => ?_) (fun h19 => ?_)
        · refine lv_aload_n (pc := 24) E.1 E.2 dX3_isOpenTo_24 rfl (lv_at hl 2 rfl) ?_
          refine lv_iload_n (pc := 25) E.1 E.2 dX3_isOpenTo_25 rfl (lv_at hl 1 rfl) ?_
          refine z_rVi (pc := 26) (As := [.int (iI g)]) (rest := []) E hml hown hts (mX3_tagOf lL G o σ g hI (by omega)) (cwV 1 hts gX3_isOpenTo_X3_tagOf rfl rfl rfl vdX3_tagOf ⟨Nat.le_of_ble_eq_true rfl, Nat.le_of_ble_eq_true rfl⟩) (oB.recv hK hM.1 rfl) hFO hK rfl hl.1 rfl dX3_isOpenTo_26 hcs (Nat.le_of_ble_eq_true rfl) ?_
          have htg := hI.tag hg2.1 hg2.2
          rw [show (if 0 ≤ g ∧ g < σ 2 then σ (109 + g) else -1) = (σ (109 + g)) from (if_pos hg2)]
          refine z_iconst (pc := 29) E dX3_isOpenTo_29 ?_
          refine z_icmp_eq (pc := 30) (tgt := 35) E ⟨by omega, by omega⟩ (by decide) dX3_isOpenTo_30 (by decide) (fun h30 => ?_) (fun h30 => ?_)
          · refine lv_aload_n (pc := 35) E.1 E.2 dX3_isOpenTo_35 rfl (lv_at hl 2 rfl) ?_
            refine lv_iload_n (pc := 36) E.1 E.2 dX3_isOpenTo_36 rfl (lv_at hl 1 rfl) ?_
            refine z_rVi (pc := 37) (As := [.int (iI g)]) (rest := []) E hml hown hts (mX3_parentOf lL G o σ g hI (by omega)) (cwV 1 hts gX3_isOpenTo_X3_parentOf rfl rfl rfl vdX3_parentOf ⟨Nat.le_of_ble_eq_true rfl, Nat.le_of_ble_eq_true rfl⟩) (oB.recv hK hM.1 rfl) hFO hK rfl hl.1 rfl dX3_isOpenTo_37 hcs (Nat.le_of_ble_eq_true rfl) ?_
            rw [show (if 0 ≤ g ∧ g < σ 2 then σ (69 + g) else -1) = (σ (69 + g)) from (if_pos hg2)]
            refine lv_istore_n (pc := 40) (lv' := [(3, .int (iI (σ (69 + g)))), (4, .int (iI k)), (0, .ref (o 0)), (1, .int (iI f)), (2, .int (iI a))]) E.1 E.2 dX3_isOpenTo_40 rfl hl (by decide) rfl (fun ls hl => ?_)
            refine lv_iinc (pc := 41) (v := iI (k + 1)) (lv' := [(4, .int (iI (k + 1))), (3, .int (iI (σ (69 + g)))), (0, .ref (o 0)), (1, .int (iI f)), (2, .int (iI a))]) E.1 E.2 dX3_isOpenTo_41 hl (k := 1) rfl (iI_add _ _) (by decide) rfl (fun ls hl => ?_)
            refine lv_goto (pc := 44) (tgt := 5) E.1 E.2 dX3_isOpenTo_44 (by decide) ?_
            exact ihL5 (σ (69 + g)) (k + 1) (hI.fp hg2.1 hg2.2) (by rw [← he, olF_s hI.cs hg2.1 hg2.2, if_neg h19, if_pos h30]) (by have h1 := dpF_s hI.cs hg2.1 hg2.2; omega) (by have h1 := dpF_s hI.cs hg2.1 hg2.2; have h2 := dpF_bd σ (σ (69 + g)); omega) ls (lv_sub hl [0, 1, 2, 3, 4] rfl)
          · refine z_iconst (pc := 33) E dX3_isOpenTo_33 ?_
            exact z_retRz E hr rfl (congrArg iI (by first | (rw [← he, eg, olF_n]; rfl) | (rw [← he, h14, olF_n]; rfl) | (rw [← he, olF_s hI.cs hg2.1 hg2.2, if_pos h19]; rfl) | (rw [← he, olF_s hI.cs hg2.1 hg2.2, if_neg h19, if_neg h30]; rfl))) hlocks dX3_isOpenTo_34
        · refine z_iconst (pc := 22) E dX3_isOpenTo_22 ?_
          exact z_retRz E hr rfl (congrArg iI (by first | (rw [← he, eg, olF_n]; rfl) | (rw [← he, h14, olF_n]; rfl) | (rw [← he, olF_s hI.cs hg2.1 hg2.2, if_pos h19]; rfl) | (rw [← he, olF_s hI.cs hg2.1 hg2.2, if_neg h19, if_neg h30]; rfl))) hlocks dX3_isOpenTo_23
set_option maxHeartbeats 1000000 in
set_option maxRecDepth 100000 in
theorem mX3_nextChild (lL : Launch) (G : GG) (o : Nat → Nat) (σ : Int → Int) (f : Int) (a : Int) (hI : In σ) (hf : -2147483648 ≤ f ∧ f < 2147483648) (ha : -1 ≤ a ∧ a < 40) : Met lL yX3_nextChild wsX3_nextChild ({ frames := 2, cells := 0, slots := 0, locals := 42 } : Room) (va_Pc [.ref (o 0), .int (iI f), .int (iI a)] (fun U => FO G o σ U.heap ∧ KK G U)) (vp_Si (fun r => r = (iI (cbS σ f (a + 1))))) 0 0 (fun _ => False) := by
  refine z_met (P := (fun H : Heap => FO G o σ H)) (by decide) rfl (Nat.le_of_ble_eq_true rfl) (fun pp ee ss mm below meth cC E hr hml hown hts hlocks hFO hK ls hl => ?_)
  have hl : lv_has ls 4 [(0, .ref (o 0)), (1, .int (iI f)), (2, .int (iI a))] := hl
  have hcs : 0 ≤ (({ frames := 2, cells := 0, slots := 0, locals := 42 } : Room)).cells ∧ 0 ≤ (({ frames := 2, cells := 0, slots := 0, locals := 42 } : Room)).slots := ⟨Nat.zero_le _, Nat.zero_le _⟩
  have hin3 : ∀ w ∈ wsX30, w ∈ wsX3_nextChild := fun w h => List.mem_cons_of_mem _ (List.mem_append_right _ (h))
  obtain ⟨pa, na, ta, hM, hs⟩ := id hFO
  have hF := hI.F
  have hMm := hI.M
  have hGn := hI.Gn
  refine lv_iload_n (pc := 0) E.1 E.2 dX3_nextChild_0 rfl (lv_at hl 2 rfl) ?_
  refine z_iconst (pc := 1) E dX3_nextChild_1 ?_
  refine z_iadd (pc := 2) E dX3_nextChild_2 ?_
  refine lv_istore_n (pc := 3) (lv' := [(3, .int (iI (a + 1))), (0, .ref (o 0)), (1, .int (iI f)), (2, .int (iI a))]) E.1 E.2 dX3_nextChild_3 rfl hl (by decide) rfl (fun ls hl => ?_)
  suffices L4 : ∀ (nf : Nat), ∀ (k : Int), (0 ≤ k ∧ k ≤ 40) → (cbS σ f k = cbS σ f (a + 1)) → ((40 - k).toNat) < nf → ∀ ls : Array Slot, lv_has ls 4 [(3, .int (iI k)), (0, .ref (o 0)), (1, .int (iI f)), (2, .int (iI a))] → W pp lL ee ({ frames := 2, cells := 0, slots := 0, locals := 42 } : Room) ss mm [.ref (o 0), .int (iI f), .int (iI a)].toArray below meth cC ss.heap [] 0 0 (MQ below (vp_Si (fun r => r = (iI (cbS σ f (a + 1))))) [.ref (o 0), .int (iI f), .int (iI a)].toArray ss 0 0 (fun _ => False)) (F0 mm 4 ls []) from L4 _ (a + 1) (by omega) rfl (Nat.lt_succ_self _) ls (lv_sub hl [0, 1, 2, 3] rfl)
  intro nfL4
  induction nfL4 with
  | zero => intro k hk he hmzL4; exact absurd hmzL4 (Nat.not_lt_zero _)
  | succ nfL4 ihL4 =>
    intro k hk he hmzL4 ls hl
    refine lv_iload_n (pc := 4) E.1 E.2 dX3_nextChild_4 rfl (lv_at hl 0 rfl) ?_
    refine lv_aload_n (pc := 5) E.1 E.2 dX3_nextChild_5 rfl (lv_at hl 1 rfl) ?_
    refine g3_3 (pc := 6) E hts hin3 hown hK hM.1 (hts _ (List.mem_of_getElem? (i := 1) rfl)) dX3_nextChild_6 ?_
    refine z_icmp_ge (pc := 9) (tgt := 29) E ⟨by omega, by omega⟩ ⟨by omega, by omega⟩ dX3_nextChild_9 (by decide) (fun h9 => ?_) (fun h9 => ?_)
    · refine z_iconst (pc := 29) E dX3_nextChild_29 ?_
      exact z_retRi E hr (congrArg iI (by first | (rw [← he, cbS_s (by omega), if_pos h18]) | (rw [← he, cbS_n (by omega)]))) hlocks dX3_nextChild_30
    · refine lv_aload_n (pc := 12) E.1 E.2 dX3_nextChild_12 rfl (lv_at hl 1 rfl) ?_
      refine lv_iload_n (pc := 13) E.1 E.2 dX3_nextChild_13 rfl (lv_at hl 0 rfl) ?_
      refine z_rVi (pc := 14) (As := [.int (iI k)]) (rest := []) E hml hown hts (mX3_parentOf lL G o σ k hI (by omega)) (cwV 1 hts gX3_nextChild_X3_parentOf rfl rfl rfl vdX3_parentOf ⟨Nat.le_of_ble_eq_true rfl, Nat.le_of_ble_eq_true rfl⟩) (oB.recv hK hM.1 rfl) hFO hK rfl hl.1 rfl dX3_nextChild_14 hcs (Nat.le_of_ble_eq_true rfl) ?_
      have hpk := hI.par (f := k) hk.1 (by omega)
      rw [show (if 0 ≤ k ∧ k < σ 2 then σ (69 + k) else -1) = (σ (69 + k)) from (if_pos (show 0 ≤ k ∧ k < σ 2 from ⟨hk.1, by omega⟩))]
      refine lv_iload_n (pc := 17) E.1 E.2 dX3_nextChild_17 rfl (lv_at hl 2 rfl) ?_
      refine z_icmp_ne (pc := 18) (tgt := 23) E ⟨by omega, by omega⟩ ⟨by omega, by omega⟩ dX3_nextChild_18 (by decide) (fun h18 => ?_) (fun h18 => ?_)
      · refine lv_iinc (pc := 23) (v := iI (k + 1)) (lv' := [(3, .int (iI (k + 1))), (0, .ref (o 0)), (1, .int (iI f)), (2, .int (iI a))]) E.1 E.2 dX3_nextChild_23 hl (k := 0) rfl (iI_add _ _) (by decide) rfl (fun ls hl => ?_)
        refine lv_goto (pc := 26) (tgt := 4) E.1 E.2 dX3_nextChild_26 (by decide) ?_
        exact ihL4 (k + 1) (by omega) (by rw [← he, cbS_s (k := k) (by omega), if_neg h18]) (by omega) ls (lv_sub hl [0, 1, 2, 3] rfl)
      · refine lv_iload_n (pc := 21) E.1 E.2 dX3_nextChild_21 rfl (lv_at hl 0 rfl) ?_
        exact z_retRi E hr (congrArg iI (by first | (rw [← he, cbS_s (by omega), if_pos h18]) | (rw [← he, cbS_n (by omega)]))) hlocks dX3_nextChild_22
set_option maxHeartbeats 1000000 in
set_option maxRecDepth 100000 in
theorem mX3_nextInWalk (lL : Launch) (G : GG) (o : Nat → Nat) (σ : Int → Int) (f : Int) (hI : In σ) (hf : 0 ≤ f ∧ f < σ 2) : Met lL yX3_nextInWalk wsX3_nextInWalk ({ frames := 3, cells := 0, slots := 0, locals := 65 } : Room) (va_Pc [.ref (o 0), .int (iI f)] (fun U => FO G o σ U.heap ∧ KK G U)) (vp_Si (fun r => r = (iI (nxS σ f)))) 0 0 (fun _ => False) := by
  refine z_met (P := (fun H : Heap => FO G o σ H)) (by decide) rfl (Nat.le_of_ble_eq_true rfl) (fun pp ee ss mm below meth cC E hr hml hown hts hlocks hFO hK ls hl => ?_)
  have hl : lv_has ls 5 [(0, .ref (o 0)), (1, .int (iI f))] := hl
  have hcs : 0 ≤ (({ frames := 3, cells := 0, slots := 0, locals := 65 } : Room)).cells ∧ 0 ≤ (({ frames := 3, cells := 0, slots := 0, locals := 65 } : Room)).slots := ⟨Nat.zero_le _, Nat.zero_le _⟩
  obtain ⟨pa, na, ta, hM, hs⟩ := id hFO
  have hF := hI.F
  have hMm := hI.M
  have hGn := hI.Gn
  refine lv_aload_n (pc := 0) E.1 E.2 dX3_nextInWalk_0 rfl (lv_at hl 0 rfl) ?_
  refine lv_iload_n (pc := 1) E.1 E.2 dX3_nextInWalk_1 rfl (lv_at hl 1 rfl) ?_
  refine z_iconst (pc := 2) E dX3_nextInWalk_2 ?_
  refine z_rVi (pc := 3) (As := [.int (iI f), .int (iI (-1))]) (rest := []) E hml hown hts (mX3_nextChild lL G o σ f (-1) hI (by omega) (by omega)) (cwV 2 hts gX3_nextInWalk_X3_nextChild rfl rfl rfl vdX3_nextChild ⟨Nat.le_of_ble_eq_true rfl, Nat.le_of_ble_eq_true rfl⟩) (oB.recv hK hM.1 rfl) hFO hK rfl hl.1 rfl dX3_nextInWalk_3 hcs (Nat.le_of_ble_eq_true rfl) ?_
  refine lv_istore_n (pc := 6) (lv' := [(2, .int (iI (cbS σ f ((-1) + 1)))), (0, .ref (o 0)), (1, .int (iI f))]) E.1 E.2 dX3_nextInWalk_6 rfl hl (by decide) rfl (fun ls hl => ?_)
  refine lv_iload_n (pc := 7) E.1 E.2 dX3_nextInWalk_7 rfl (lv_at hl 2 rfl) ?_
  refine lv_istore_n (pc := 8) (lv' := [(3, .int (iI f)), (2, .int (iI (cbS σ f ((-1) + 1)))), (0, .ref (o 0)), (1, .int (iI f))]) E.1 E.2 dX3_nextInWalk_8 rfl hl (by decide) rfl (fun ls hl => ?_)
  refine z_iconst (pc := 9) E dX3_nextInWalk_9 ?_
  refine lv_istore (pc := 10) (lv' := [(4, .int (iI 0)), (3, .int (iI f)), (2, .int (iI (cbS σ f ((-1) + 1)))), (0, .ref (o 0)), (1, .int (iI f))]) E.1 E.2 dX3_nextInWalk_10 hl (by decide) rfl (fun ls hl => ?_)
  suffices L12 : ∀ (nf : Nat), ∀ (x g k : Int), (0 ≤ g ∧ g < σ 2) → (-1 ≤ x ∧ x < 40) → (0 ≤ k ∧ k ≤ 40) → (nw σ (40 - k).toNat x g = nxS σ f) → ((40 - k).toNat) < nf → ∀ ls : Array Slot, lv_has ls 5 [(4, .int (iI k)), (3, .int (iI g)), (2, .int (iI x)), (0, .ref (o 0)), (1, .int (iI f))] → W pp lL ee ({ frames := 3, cells := 0, slots := 0, locals := 65 } : Room) ss mm [.ref (o 0), .int (iI f)].toArray below meth cC ss.heap [] 0 0 (MQ below (vp_Si (fun r => r = (iI (nxS σ f)))) [.ref (o 0), .int (iI f)].toArray ss 0 0 (fun _ => False)) (F0 mm 12 ls []) from L12 _ (cbS σ f ((-1) + 1)) f 0 hf (by rcases cbS_b σ f (-1 + 1) with q | q <;> omega) (by omega) rfl (Nat.lt_succ_self _) ls (lv_sub hl [0, 1, 2, 3, 4] rfl)
  intro nfL12
  induction nfL12 with
  | zero => intro x g k hg hx hk he hmzL12; exact absurd hmzL12 (Nat.not_lt_zero _)
  | succ nfL12 ihL12 =>
    intro x g k hg hx hk he hmzL12 ls hl
    refine lv_iload (pc := 12) E.1 E.2 dX3_nextInWalk_12 (lv_at hl 0 rfl) ?_
    refine z_bipush (pc := 14) E (by decide) dX3_nextInWalk_14 ?_
    refine z_icmp_ge (pc := 16) (tgt := 51) E ⟨by omega, by omega⟩ (by decide) dX3_nextInWalk_16 (by decide) (fun h16 => ?_) (fun h16 => ?_)
    · refine lv_iload_n (pc := 51) E.1 E.2 dX3_nextInWalk_51 rfl (lv_at hl 2 rfl) ?_
      exact z_retRi E hr (congrArg iI (by first | (rw [← he, show (40 - k).toNat = 0 by omega, nw]) | (rw [← he, show (40 - k).toNat = (40 - (k + 1)).toNat + 1 by omega, nw, if_neg (fun z => h21 z.1)]) | (rw [← he, show (40 - k).toNat = (40 - (k + 1)).toNat + 1 by omega, nw, if_neg (fun z => z.2 h25)]))) hlocks dX3_nextInWalk_52
    · refine lv_iload_n (pc := 19) E.1 E.2 dX3_nextInWalk_19 rfl (lv_at hl 2 rfl) ?_
      refine z_iconst (pc := 20) E dX3_nextInWalk_20 ?_
      refine z_icmp_ne (pc := 21) (tgt := 51) E ⟨by omega, by omega⟩ (by decide) dX3_nextInWalk_21 (by decide) (fun h21 => ?_) (fun h21 => ?_)
      · refine lv_iload_n (pc := 51) E.1 E.2 dX3_nextInWalk_51 rfl (lv_at hl 2 rfl) ?_
        exact z_retRi E hr (congrArg iI (by first | (rw [← he, show (40 - k).toNat = 0 by omega, nw]) | (rw [← he, show (40 - k).toNat = (40 - (k + 1)).toNat + 1 by omega, nw, if_neg (fun z => h21 z.1)]) | (rw [← he, show (40 - k).toNat = (40 - (k + 1)).toNat + 1 by omega, nw, if_neg (fun z => z.2 h25)]))) hlocks dX3_nextInWalk_52
      · refine lv_iload_n (pc := 24) E.1 E.2 dX3_nextInWalk_24 rfl (lv_at hl 1 rfl) ?_
        refine z_if_eq (pc := 25) (tgt := 51) E ⟨by omega, by omega⟩ dX3_nextInWalk_25 (by decide) (fun h25 => ?_) (fun h25 => ?_)
        · refine lv_iload_n (pc := 51) E.1 E.2 dX3_nextInWalk_51 rfl (lv_at hl 2 rfl) ?_
          exact z_retRi E hr (congrArg iI (by first | (rw [← he, show (40 - k).toNat = 0 by omega, nw]) | (rw [← he, show (40 - k).toNat = (40 - (k + 1)).toNat + 1 by omega, nw, if_neg (fun z => h21 z.1)]) | (rw [← he, show (40 - k).toNat = (40 - (k + 1)).toNat + 1 by omega, nw, if_neg (fun z => z.2 h25)]))) hlocks dX3_nextInWalk_52
        · refine lv_aload_n (pc := 28) E.1 E.2 dX3_nextInWalk_28 rfl (lv_at hl 3 rfl) ?_
          refine lv_aload_n (pc := 29) E.1 E.2 dX3_nextInWalk_29 rfl (lv_at hl 3 rfl) ?_
          refine lv_iload_n (pc := 30) E.1 E.2 dX3_nextInWalk_30 rfl (lv_at hl 1 rfl) ?_
          refine z_rVi (pc := 31) (As := [.int (iI g)]) (rest := [.ref (o 0)]) E hml hown hts (mX3_parentOf lL G o σ g hI (by omega)) (cwV 1 hts gX3_nextInWalk_X3_parentOf rfl rfl rfl vdX3_parentOf ⟨Nat.le_of_ble_eq_true rfl, Nat.le_of_ble_eq_true rfl⟩) (oB.recv hK hM.1 rfl) hFO hK rfl hl.1 rfl dX3_nextInWalk_31 hcs (Nat.le_of_ble_eq_true rfl) ?_
          have hpg := hI.par hg.1 hg.2
          rw [show (if 0 ≤ g ∧ g < σ 2 then σ (69 + g) else -1) = (σ (69 + g)) from (if_pos hg)]
          refine lv_iload_n (pc := 34) E.1 E.2 dX3_nextInWalk_34 rfl (lv_at hl 1 rfl) ?_
          refine z_rVi (pc := 35) (As := [.int (iI (σ (69 + g))), .int (iI g)]) (rest := []) E hml hown hts (mX3_nextChild lL G o σ (σ (69 + g)) g hI (by omega) (by omega)) (cwV 2 hts gX3_nextInWalk_X3_nextChild rfl rfl rfl vdX3_nextChild ⟨Nat.le_of_ble_eq_true rfl, Nat.le_of_ble_eq_true rfl⟩) (oB.recv hK hM.1 rfl) hFO hK rfl hl.1 rfl dX3_nextInWalk_35 hcs (Nat.le_of_ble_eq_true rfl) ?_
          refine lv_istore_n (pc := 38) (lv' := [(2, .int (iI (cbS σ (σ (69 + g)) (g + 1)))), (4, .int (iI k)), (3, .int (iI g)), (0, .ref (o 0)), (1, .int (iI f))]) E.1 E.2 dX3_nextInWalk_38 rfl hl (by decide) rfl (fun ls hl => ?_)
          refine lv_aload_n (pc := 39) E.1 E.2 dX3_nextInWalk_39 rfl (lv_at hl 3 rfl) ?_
          refine lv_iload_n (pc := 40) E.1 E.2 dX3_nextInWalk_40 rfl (lv_at hl 2 rfl) ?_
          refine z_rVi (pc := 41) (As := [.int (iI g)]) (rest := []) E hml hown hts (mX3_parentOf lL G o σ g hI (by omega)) (cwV 1 hts gX3_nextInWalk_X3_parentOf rfl rfl rfl vdX3_parentOf ⟨Nat.le_of_ble_eq_true rfl, Nat.le_of_ble_eq_true rfl⟩) (oB.recv hK hM.1 rfl) hFO hK rfl hl.1 rfl dX3_nextInWalk_41 hcs (Nat.le_of_ble_eq_true rfl) ?_
          rw [show (if 0 ≤ g ∧ g < σ 2 then σ (69 + g) else -1) = (σ (69 + g)) from (if_pos hg)]
          refine lv_istore_n (pc := 44) (lv' := [(3, .int (iI (σ (69 + g)))), (2, .int (iI (cbS σ (σ (69 + g)) (g + 1)))), (4, .int (iI k)), (0, .ref (o 0)), (1, .int (iI f))]) E.1 E.2 dX3_nextInWalk_44 rfl hl (by decide) rfl (fun ls hl => ?_)
          refine lv_iinc (pc := 45) (v := iI (k + 1)) (lv' := [(4, .int (iI (k + 1))), (3, .int (iI (σ (69 + g)))), (2, .int (iI (cbS σ (σ (69 + g)) (g + 1)))), (0, .ref (o 0)), (1, .int (iI f))]) E.1 E.2 dX3_nextInWalk_45 hl (k := 2) rfl (iI_add _ _) (by decide) rfl (fun ls hl => ?_)
          refine lv_goto (pc := 48) (tgt := 12) E.1 E.2 dX3_nextInWalk_48 (by decide) ?_
          exact ihL12 (cbS σ (σ (69 + g)) (g + 1)) (σ (69 + g)) (k + 1) (by have h5 := hI.par1 (f := g) (by omega) hg.2; omega) (by rcases cbS_b σ (σ (69 + g)) (g + 1) with q | q <;> omega) (by omega) (by rw [← he, show (40 - k).toNat = (40 - (k + 1)).toNat + 1 by omega, nw, if_pos ⟨h21, h25⟩]) (by omega) ls (lv_sub hl [0, 1, 2, 3, 4] rfl)
set_option maxHeartbeats 1000000 in
set_option maxRecDepth 100000 in
theorem mX2_weightOf (lL : Launch) (G : GG) (o : Nat → Nat) (σ : Int → Int) (f : Int) (b : Int) (hI : In σ) (hf : 0 ≤ f ∧ f < σ 3) (hb : b = 0 ∨ b = 1) : Met lL yX2_weightOf wsX2_weightOf ({ frames := 2, cells := 0, slots := 0, locals := 42 } : Room) (va_Pc [.ref (o 0), .int (iI f), .int (iI b)] (fun U => FI G o σ U.heap ∧ KK G U)) (vp_Si (fun r => r = (iI (if b = 0 then σ (249 + f) else 1)))) 0 0 (fun _ => False) := by
  refine z_met (P := (fun H : Heap => FI G o σ H)) (by decide) rfl (Nat.le_of_ble_eq_true rfl) (fun pp ee ss mm below meth cC E hr hml hown hts hlocks hFO hK ls hl => ?_)
  have hl : lv_has ls 3 [(0, .ref (o 0)), (1, .int (iI f)), (2, .int (iI b))] := hl
  have hcs : 0 ≤ (({ frames := 2, cells := 0, slots := 0, locals := 42 } : Room)).cells ∧ 0 ≤ (({ frames := 2, cells := 0, slots := 0, locals := 42 } : Room)).slots := ⟨Nat.zero_le _, Nat.zero_le _⟩
  obtain ⟨pl, sz, hM, hs⟩ := id hFO
  have hF := hI.F
  have hMm := hI.M
  have hGn := hI.Gn
  refine lv_iload_n (pc := 0) E.1 E.2 dX2_weightOf_0 rfl (lv_at hl 2 rfl) ?_
  refine z_if_ne (pc := 1) (tgt := 12) E ⟨by omega, by omega⟩ dX2_weightOf_1 (by decide) (fun h1 => ?_) (fun h1 => ?_)
  · refine z_iconst (pc := 12) E dX2_weightOf_12 ?_
    exact z_retRi E hr (congrArg iI (by first | exact (if_pos h1).symm | exact (if_neg h1).symm)) hlocks dX2_weightOf_13
  · refine lv_aload_n (pc := 4) E.1 E.2 dX2_weightOf_4 rfl (lv_at hl 0 rfl) ?_
    refine lv_iload_n (pc := 5) E.1 E.2 dX2_weightOf_5 rfl (lv_at hl 1 rfl) ?_
    refine z_rVi (pc := 6) (As := [.int (iI f)]) (rest := []) E hml hown hts (mX2_sizeOf lL G o σ f hI (by omega)) (cwV 1 hts gX2_weightOf_X2_sizeOf rfl rfl rfl vdX2_sizeOf ⟨Nat.le_of_ble_eq_true rfl, Nat.le_of_ble_eq_true rfl⟩) (oB.recv hK hM.1 rfl) hFO hK rfl hl.1 rfl dX2_weightOf_6 hcs (Nat.le_of_ble_eq_true rfl) ?_
    rw [show (if 0 ≤ f ∧ f < σ 3 then σ (249 + f) else 0) = (σ (249 + f)) from (if_pos hf)]
    refine lv_goto (pc := 9) (tgt := 13) E.1 E.2 dX2_weightOf_9 (by decide) ?_
    exact z_retRi E hr (congrArg iI (by first | exact (if_pos h1).symm | exact (if_neg h1).symm)) hlocks dX2_weightOf_13
set_option maxHeartbeats 1000000 in
set_option maxRecDepth 100000 in
theorem mX2_totalIn (lL : Launch) (G : GG) (o : Nat → Nat) (σ : Int → Int) (f : Int) (hI : In σ) (hf : -2147483648 ≤ f ∧ f < 2147483648) : Met lL yX2_totalIn wsX2_totalIn ({ frames := 0, cells := 0, slots := 0, locals := 0 } : Room) (va_Pc [.ref (o 0), .int (iI f)] (fun U => FI G o σ U.heap ∧ KK G U)) (vp_Si (fun r => r = (iI (fiS σ f)))) 0 0 (fun _ => False) := by
  refine z_met (P := (fun H : Heap => FI G o σ H)) (by decide) rfl (Nat.le_of_ble_eq_true rfl) (fun pp ee ss mm below meth cC E hr hml hown hts hlocks hFO hK ls hl => ?_)
  have hl : lv_has ls 4 [(0, .ref (o 0)), (1, .int (iI f))] := hl
  have hcs : 0 ≤ (({ frames := 0, cells := 0, slots := 0, locals := 0 } : Room)).cells ∧ 0 ≤ (({ frames := 0, cells := 0, slots := 0, locals := 0 } : Room)).slots := ⟨Nat.zero_le _, Nat.zero_le _⟩
  have hin2 : ∀ w ∈ wsX20, w ∈ wsX2_totalIn := fun w h => List.mem_cons_of_mem _ (List.mem_append_right _ (h))
  obtain ⟨pl, sz, hM, hs⟩ := id hFO
  have hF := hI.F
  have hMm := hI.M
  have hGn := hI.Gn
  refine z_iconst (pc := 0) E dX2_totalIn_0 ?_
  refine lv_istore_n (pc := 1) (lv' := [(2, .int (iI 0)), (0, .ref (o 0)), (1, .int (iI f))]) E.1 E.2 dX2_totalIn_1 rfl hl (by decide) rfl (fun ls hl => ?_)
  refine z_iconst (pc := 2) E dX2_totalIn_2 ?_
  refine lv_istore_n (pc := 3) (lv' := [(3, .int (iI 0)), (2, .int (iI 0)), (0, .ref (o 0)), (1, .int (iI f))]) E.1 E.2 dX2_totalIn_3 rfl hl (by decide) rfl (fun ls hl => ?_)
  suffices L4 : ∀ (nf : Nat), ∀ (a k : Int), (0 ≤ k ∧ k ≤ σ 3) → (a = cn (fiP σ f) k.toNat) → ((σ 3 - k).toNat) < nf → ∀ ls : Array Slot, lv_has ls 4 [(3, .int (iI k)), (2, .int (iI a)), (0, .ref (o 0)), (1, .int (iI f))] → W pp lL ee ({ frames := 0, cells := 0, slots := 0, locals := 0 } : Room) ss mm [.ref (o 0), .int (iI f)].toArray below meth cC ss.heap [] 0 0 (MQ below (vp_Si (fun r => r = (iI (fiS σ f)))) [.ref (o 0), .int (iI f)].toArray ss 0 0 (fun _ => False)) (F0 mm 4 ls []) from L4 _ 0 0 (by omega) rfl (Nat.lt_succ_self _) ls (lv_sub hl [0, 1, 2, 3] rfl)
  intro nfL4
  induction nfL4 with
  | zero => intro a k hk hn hmzL4; exact absurd hmzL4 (Nat.not_lt_zero _)
  | succ nfL4 ihL4 =>
    intro a k hk hn hmzL4 ls hl
    refine lv_iload_n (pc := 4) E.1 E.2 dX2_totalIn_4 rfl (lv_at hl 0 rfl) ?_
    refine lv_aload_n (pc := 5) E.1 E.2 dX2_totalIn_5 rfl (lv_at hl 2 rfl) ?_
    refine g2_2 (pc := 6) E hts hin2 hown hK hM.1 (hts _ (List.mem_of_getElem? (i := 1) rfl)) dX2_totalIn_6 ?_
    refine z_icmp_ge (pc := 9) (tgt := 31) E ⟨by omega, by omega⟩ ⟨by omega, by omega⟩ dX2_totalIn_9 (by decide) (fun h9 => ?_) (fun h9 => ?_)
    · refine lv_iload_n (pc := 31) E.1 E.2 dX2_totalIn_31 rfl (lv_at hl 1 rfl) ?_
      exact z_retRi E hr (congrArg iI (by (rw [hn]; unfold fiS; congr 2; omega))) hlocks dX2_totalIn_32
    · refine lv_aload_n (pc := 12) E.1 E.2 dX2_totalIn_12 rfl (lv_at hl 2 rfl) ?_
      refine g2_0 (pc := 13) E hts hin2 hown hK hM.1 (hts _ (List.mem_of_getElem? (i := 2) rfl)) dX2_totalIn_13 ?_
      refine lv_iload_n (pc := 16) E.1 E.2 dX2_totalIn_16 rfl (lv_at hl 0 rfl) ?_
      refine z_ialoadE (pc := 17) E hK hM.2.1 ⟨by omega, by omega⟩ (by decide) (hs _ (by omega) (by omega)).1 dX2_totalIn_17 ?_
      have hfk := hI.fil (k := k) hk.1 (by omega)
      refine lv_iload_n (pc := 18) E.1 E.2 dX2_totalIn_18 rfl (lv_at hl 3 rfl) ?_
      refine z_icmp_ne (pc := 19) (tgt := 25) E ⟨by omega, by omega⟩ ⟨by omega, by omega⟩ dX2_totalIn_19 (by decide) (fun h19 => ?_) (fun h19 => ?_)
      · refine lv_iinc (pc := 25) (v := iI (k + 1)) (lv' := [(3, .int (iI (k + 1))), (2, .int (iI a)), (0, .ref (o 0)), (1, .int (iI f))]) E.1 E.2 dX2_totalIn_25 hl (k := 0) rfl (iI_add _ _) (by decide) rfl (fun ls hl => ?_)
        refine lv_goto (pc := 28) (tgt := 4) E.1 E.2 dX2_totalIn_28 (by decide) ?_
        exact ihL4 a (k + 1) (by omega) (by rw [cn_s _ hk.1, ← hn]; unfold fiP; first | (rw [if_neg h19]; omega) | (rw [if_pos h19])) (by omega) ls (lv_sub hl [0, 1, 2, 3] rfl)
      · refine lv_iinc (pc := 22) (v := iI (a + 1)) (lv' := [(2, .int (iI (a + 1))), (3, .int (iI k)), (0, .ref (o 0)), (1, .int (iI f))]) E.1 E.2 dX2_totalIn_22 hl (k := 1) rfl (iI_add _ _) (by decide) rfl (fun ls hl => ?_)
        refine lv_iinc (pc := 25) (v := iI (k + 1)) (lv' := [(3, .int (iI (k + 1))), (2, .int (iI (a + 1))), (0, .ref (o 0)), (1, .int (iI f))]) E.1 E.2 dX2_totalIn_25 hl (k := 1) rfl (iI_add _ _) (by decide) rfl (fun ls hl => ?_)
        refine lv_goto (pc := 28) (tgt := 4) E.1 E.2 dX2_totalIn_28 (by decide) ?_
        exact ihL4 (a + 1) (k + 1) (by omega) (by rw [cn_s _ hk.1, ← hn]; unfold fiP; first | (rw [if_neg h19]; omega) | (rw [if_pos h19])) (by omega) ls (lv_sub hl [0, 1, 2, 3] rfl)
set_option maxHeartbeats 1000000 in
set_option maxRecDepth 100000 in
theorem mX0_limitOf (lL : Launch) (G : GG) (o : Nat → Nat) (σ : Int → Int) (a : Int) (b : Int) (hI : In σ) (hq : 0 ≤ a ∧ a < 16) (hb : b = 0 ∨ b = 1) : Met lL yX0_limitOf wsX0_limitOf ({ frames := 0, cells := 0, slots := 0, locals := 0 } : Room) (va_Pc [.ref (o 0), .int (iI a), .int (iI b)] (fun U => AC G o σ U.heap ∧ KK G U)) (vp_Si (fun r => r = (iI (σ ((if b = 0 then 5 else 21) + a))))) 0 0 (fun _ => False) := by
  refine z_met (P := (fun H : Heap => AC G o σ H)) (by decide) rfl (Nat.le_of_ble_eq_true rfl) (fun pp ee ss mm below meth cC E hr hml hown hts hlocks hFO hK ls hl => ?_)
  have hl : lv_has ls 4 [(0, .ref (o 0)), (1, .int (iI a)), (2, .int (iI b))] := hl
  have hcs : 0 ≤ (({ frames := 0, cells := 0, slots := 0, locals := 0 } : Room)).cells ∧ 0 ≤ (({ frames := 0, cells := 0, slots := 0, locals := 0 } : Room)).slots := ⟨Nat.zero_le _, Nat.zero_le _⟩
  have hin0 : ∀ w ∈ wsX00, w ∈ wsX0_limitOf := fun w h => List.mem_cons_of_mem _ (List.mem_append_right _ (h))
  obtain ⟨am, so, ha, cl, hM, hs⟩ := id hFO
  have hF := hI.F
  have hMm := hI.M
  have hGn := hI.Gn
  refine lv_iload_n (pc := 0) E.1 E.2 dX0_limitOf_0 rfl (lv_at hl 2 rfl) ?_
  refine z_if_eq (pc := 1) (tgt := 11) E ⟨by omega, by omega⟩ dX0_limitOf_1 (by decide) (fun h1 => ?_) (fun h1 => ?_)
  · refine lv_aload_n (pc := 11) E.1 E.2 dX0_limitOf_11 rfl (lv_at hl 0 rfl) ?_
    refine g0_1 (pc := 12) E hts hin0 hown hK hM.1 (hts _ (List.mem_of_getElem? (i := 2) rfl)) dX0_limitOf_12 ?_
    refine lv_astore_n (pc := 15) (lv' := [(3, .ref (o 2)), (0, .ref (o 0)), (1, .int (iI a)), (2, .int (iI b))]) E.1 E.2 dX0_limitOf_15 rfl hl (by decide) rfl (fun ls hl => ?_)
    refine lv_iload_n (pc := 16) E.1 E.2 dX0_limitOf_16 rfl (lv_at hl 2 rfl) ?_
    refine z_if_lt (pc := 17) (tgt := 32) E ⟨by omega, by omega⟩ dX0_limitOf_17 (by decide) (fun h17 => ?_) (fun h17 => ?_)
    · exact absurd h17 (by omega)
    · refine lv_iload_n (pc := 20) E.1 E.2 dX0_limitOf_20 rfl (lv_at hl 2 rfl) ?_
      refine z_bipush (pc := 21) E (by decide) dX0_limitOf_21 ?_
      refine z_icmp_ge (pc := 23) (tgt := 32) E ⟨by omega, by omega⟩ (by decide) dX0_limitOf_23 (by decide) (fun h23 => ?_) (fun h23 => ?_)
      · exact absurd h23 (by omega)
      · refine lv_aload_n (pc := 26) E.1 E.2 dX0_limitOf_26 rfl (lv_at hl 0 rfl) ?_
        refine lv_iload_n (pc := 27) E.1 E.2 dX0_limitOf_27 rfl (lv_at hl 2 rfl) ?_
        refine z_ialoadE (pc := 28) E hK hM.2.2.1 ⟨by omega, by omega⟩ (by decide) (hs _ (by omega) (by omega)).2.1 dX0_limitOf_28 ?_
        refine lv_goto (pc := 29) (tgt := 33) E.1 E.2 dX0_limitOf_29 (by decide) ?_
        exact z_retRi E hr (congrArg iI (by first | (rw [if_pos h1]) | (rw [if_neg h1]))) hlocks dX0_limitOf_33
  · refine lv_aload_n (pc := 4) E.1 E.2 dX0_limitOf_4 rfl (lv_at hl 0 rfl) ?_
    refine g0_2 (pc := 5) E hts hin0 hown hK hM.1 (hts _ (List.mem_of_getElem? (i := 1) rfl)) dX0_limitOf_5 ?_
    refine lv_goto (pc := 8) (tgt := 15) E.1 E.2 dX0_limitOf_8 (by decide) ?_
    refine lv_astore_n (pc := 15) (lv' := [(3, .ref (o 3)), (0, .ref (o 0)), (1, .int (iI a)), (2, .int (iI b))]) E.1 E.2 dX0_limitOf_15 rfl hl (by decide) rfl (fun ls hl => ?_)
    refine lv_iload_n (pc := 16) E.1 E.2 dX0_limitOf_16 rfl (lv_at hl 2 rfl) ?_
    refine z_if_lt (pc := 17) (tgt := 32) E ⟨by omega, by omega⟩ dX0_limitOf_17 (by decide) (fun h17 => ?_) (fun h17 => ?_)
    · exact absurd h17 (by omega)
    · refine lv_iload_n (pc := 20) E.1 E.2 dX0_limitOf_20 rfl (lv_at hl 2 rfl) ?_
      refine z_bipush (pc := 21) E (by decide) dX0_limitOf_21 ?_
      refine z_icmp_ge (pc := 23) (tgt := 32) E ⟨by omega, by omega⟩ (by decide) dX0_limitOf_23 (by decide) (fun h23 => ?_) (fun h23 => ?_)
      · exact absurd h23 (by omega)
      · refine lv_aload_n (pc := 26) E.1 E.2 dX0_limitOf_26 rfl (lv_at hl 0 rfl) ?_
        refine lv_iload_n (pc := 27) E.1 E.2 dX0_limitOf_27 rfl (lv_at hl 2 rfl) ?_
        refine z_ialoadE (pc := 28) E hK hM.2.2.2.1 ⟨by omega, by omega⟩ (by decide) (hs _ (by omega) (by omega)).2.2.1 dX0_limitOf_28 ?_
        refine lv_goto (pc := 29) (tgt := 33) E.1 E.2 dX0_limitOf_29 (by decide) ?_
        exact z_retRi E hr (congrArg iI (by first | (rw [if_pos h1]) | (rw [if_neg h1]))) hlocks dX0_limitOf_33
set_option maxHeartbeats 1000000 in
set_option maxRecDepth 100000 in
theorem mX4_has (lL : Launch) (G : GG) (o : Nat → Nat) (σ : Int → Int) (f : Int) (hI : In σ) (hf : -2147483648 ≤ f ∧ f < 2147483648) : Met lL yX4_has wsX4_has ({ frames := 0, cells := 0, slots := 0, locals := 0 } : Room) (va_Pc [.ref (o 0), .int (iI f)] (fun U => GI G o σ U.heap ∧ KK G U)) (vp_Si (fun r => r = (iI (if 0 ≤ f ∧ f < σ 4 then 1 else 0)))) 0 0 (fun _ => False) := by
  refine z_met (P := (fun H : Heap => GI G o σ H)) (by decide) rfl (Nat.le_of_ble_eq_true rfl) (fun pp ee ss mm below meth cC E hr hml hown hts hlocks hFO hK ls hl => ?_)
  have hl : lv_has ls 2 [(0, .ref (o 0)), (1, .int (iI f))] := hl
  have hcs : 0 ≤ (({ frames := 0, cells := 0, slots := 0, locals := 0 } : Room)).cells ∧ 0 ≤ (({ frames := 0, cells := 0, slots := 0, locals := 0 } : Room)).slots := ⟨Nat.zero_le _, Nat.zero_le _⟩
  have hin4 : ∀ w ∈ wsX40, w ∈ wsX4_has := fun w h => List.mem_cons_of_mem _ (List.mem_append_right _ (h))
  obtain ⟨gv, ge, gb, gd, hM, hs⟩ := id hFO
  have hF := hI.F
  have hMm := hI.M
  have hGn := hI.Gn
  refine lv_iload_n (pc := 0) E.1 E.2 dX4_has_0 rfl (lv_at hl 1 rfl) ?_
  refine z_if_lt (pc := 1) (tgt := 16) E ⟨by omega, by omega⟩ dX4_has_1 (by decide) (fun h1 => ?_) (fun h1 => ?_)
  · refine z_iconst (pc := 16) E dX4_has_16 ?_
    exact z_retRz E hr rfl (congrArg iI (by first | exact (if_pos (by omega)).symm | exact (if_neg (by omega)).symm)) hlocks dX4_has_17
  · refine lv_iload_n (pc := 4) E.1 E.2 dX4_has_4 rfl (lv_at hl 1 rfl) ?_
    refine lv_aload_n (pc := 5) E.1 E.2 dX4_has_5 rfl (lv_at hl 0 rfl) ?_
    refine g4_4 (pc := 6) E hts hin4 hown hK hM.1 (hts _ (List.mem_of_getElem? (i := 1) rfl)) dX4_has_6 ?_
    refine z_icmp_ge (pc := 9) (tgt := 16) E ⟨by omega, by omega⟩ ⟨by omega, by omega⟩ dX4_has_9 (by decide) (fun h9 => ?_) (fun h9 => ?_)
    · refine z_iconst (pc := 16) E dX4_has_16 ?_
      exact z_retRz E hr rfl (congrArg iI (by first | exact (if_pos (by omega)).symm | exact (if_neg (by omega)).symm)) hlocks dX4_has_17
    · refine z_iconst (pc := 12) E dX4_has_12 ?_
      refine lv_goto (pc := 13) (tgt := 17) E.1 E.2 dX4_has_13 (by decide) ?_
      exact z_retRz E hr rfl (congrArg iI (by first | exact (if_pos (by omega)).symm | exact (if_neg (by omega)).symm)) hlocks dX4_has_17
set_option maxHeartbeats 1000000 in
set_option maxRecDepth 100000 in
theorem mX4_isFull (lL : Launch) (G : GG) (o : Nat → Nat) (σ : Int → Int) (hI : In σ) : Met lL yX4_isFull wsX4_isFull ({ frames := 0, cells := 0, slots := 0, locals := 0 } : Room) (va_Pc [.ref (o 0)] (fun U => GI G o σ U.heap ∧ KK G U)) (vp_Si (fun r => r = (iI (if 12 ≤ σ 4 then 1 else 0)))) 0 0 (fun _ => False) := by
  refine z_met (P := (fun H : Heap => GI G o σ H)) (by decide) rfl (Nat.le_of_ble_eq_true rfl) (fun pp ee ss mm below meth cC E hr hml hown hts hlocks hFO hK ls hl => ?_)
  have hl : lv_has ls 1 [(0, .ref (o 0))] := hl
  have hcs : 0 ≤ (({ frames := 0, cells := 0, slots := 0, locals := 0 } : Room)).cells ∧ 0 ≤ (({ frames := 0, cells := 0, slots := 0, locals := 0 } : Room)).slots := ⟨Nat.zero_le _, Nat.zero_le _⟩
  have hin4 : ∀ w ∈ wsX40, w ∈ wsX4_isFull := fun w h => List.mem_cons_of_mem _ (List.mem_append_right _ (h))
  obtain ⟨gv, ge, gb, gd, hM, hs⟩ := id hFO
  have hF := hI.F
  have hMm := hI.M
  have hGn := hI.Gn
  refine lv_aload_n (pc := 0) E.1 E.2 dX4_isFull_0 rfl (lv_at hl 0 rfl) ?_
  refine g4_4 (pc := 1) E hts hin4 hown hK hM.1 (hts _ (List.mem_of_getElem? (i := 1) rfl)) dX4_isFull_1 ?_
  refine z_bipush (pc := 4) E (by decide) dX4_isFull_4 ?_
  refine z_icmp_lt (pc := 6) (tgt := 13) E ⟨by omega, by omega⟩ (by decide) dX4_isFull_6 (by decide) (fun h6 => ?_) (fun h6 => ?_)
  · refine z_iconst (pc := 13) E dX4_isFull_13 ?_
    exact z_retRz E hr rfl (congrArg iI (by first | exact (if_pos (by omega)).symm | exact (if_neg (by omega)).symm)) hlocks dX4_isFull_14
  · refine z_iconst (pc := 9) E dX4_isFull_9 ?_
    refine lv_goto (pc := 10) (tgt := 14) E.1 E.2 dX4_isFull_10 (by decide) ?_
    exact z_retRz E hr rfl (congrArg iI (by first | exact (if_pos (by omega)).symm | exact (if_neg (by omega)).symm)) hlocks dX4_isFull_14
set_option maxHeartbeats 1000000 in
set_option maxRecDepth 100000 in
theorem mX4_giverOf (lL : Launch) (G : GG) (o : Nat → Nat) (σ : Int → Int) (f : Int) (hI : In σ) (hf : -2147483648 ≤ f ∧ f < 2147483648) : Met lL yX4_giverOf wsX4_giverOf ({ frames := 1, cells := 0, slots := 0, locals := 21 } : Room) (va_Pc [.ref (o 0), .int (iI f)] (fun U => GI G o σ U.heap ∧ KK G U)) (vp_Si (fun r => r = (iI (if 0 ≤ f ∧ f < σ 4 then σ (309 + 4 * f) else -1)))) 0 0 (fun _ => False) := by
  refine z_met (P := (fun H : Heap => GI G o σ H)) (by decide) rfl (Nat.le_of_ble_eq_true rfl) (fun pp ee ss mm below meth cC E hr hml hown hts hlocks hFO hK ls hl => ?_)
  have hl : lv_has ls 2 [(0, .ref (o 0)), (1, .int (iI f))] := hl
  have hcs : 0 ≤ (({ frames := 1, cells := 0, slots := 0, locals := 21 } : Room)).cells ∧ 0 ≤ (({ frames := 1, cells := 0, slots := 0, locals := 21 } : Room)).slots := ⟨Nat.zero_le _, Nat.zero_le _⟩
  have hin4 : ∀ w ∈ wsX40, w ∈ wsX4_giverOf := fun w h => List.mem_cons_of_mem _ (List.mem_append_right _ (h))
  obtain ⟨gv, ge, gb, gd, hM, hs⟩ := id hFO
  have hF := hI.F
  have hMm := hI.M
  have hGn := hI.Gn
  refine lv_aload_n (pc := 0) E.1 E.2 dX4_giverOf_0 rfl (lv_at hl 0 rfl) ?_
  refine lv_iload_n (pc := 1) E.1 E.2 dX4_giverOf_1 rfl (lv_at hl 1 rfl) ?_
  refine z_rVi (pc := 2) (As := [.int (iI f)]) (rest := []) E hml hown hts (mX4_has lL G o σ f hI (by omega)) (cwV 1 hts gX4_giverOf_X4_has rfl rfl rfl vdX4_has ⟨Nat.le_of_ble_eq_true rfl, Nat.le_of_ble_eq_true rfl⟩) (oB.recv hK hM.1 rfl) hFO hK rfl hl.1 rfl dX4_giverOf_2 hcs (Nat.le_of_ble_eq_true rfl) ?_
  refine z_ifb_eq (pc := 5) (tgt := 17) E dX4_giverOf_5 (by decide) (fun h5 => ?_) (fun h5 => ?_)
  · refine z_iconst (pc := 17) E dX4_giverOf_17 ?_
    exact z_retRi E hr (congrArg iI (by first | exact (if_pos h5).symm | exact (if_neg h5).symm)) hlocks dX4_giverOf_18
  · refine lv_aload_n (pc := 8) E.1 E.2 dX4_giverOf_8 rfl (lv_at hl 0 rfl) ?_
    refine g4_0 (pc := 9) E hts hin4 hown hK hM.1 (hts _ (List.mem_of_getElem? (i := 1) rfl)) dX4_giverOf_9 ?_
    refine lv_iload_n (pc := 12) E.1 E.2 dX4_giverOf_12 rfl (lv_at hl 1 rfl) ?_
    refine z_ialoadE (pc := 13) E hK hM.2.1 ⟨by omega, by omega⟩ (by decide) (hs _ (by omega) (by omega)).1 dX4_giverOf_13 ?_
    refine lv_goto (pc := 14) (tgt := 18) E.1 E.2 dX4_giverOf_14 (by decide) ?_
    exact z_retRi E hr (congrArg iI (by first | exact (if_pos h5).symm | exact (if_neg h5).symm)) hlocks dX4_giverOf_18
set_option maxHeartbeats 1000000 in
set_option maxRecDepth 100000 in
theorem mX4_getterOf (lL : Launch) (G : GG) (o : Nat → Nat) (σ : Int → Int) (f : Int) (hI : In σ) (hf : -2147483648 ≤ f ∧ f < 2147483648) : Met lL yX4_getterOf wsX4_getterOf ({ frames := 1, cells := 0, slots := 0, locals := 21 } : Room) (va_Pc [.ref (o 0), .int (iI f)] (fun U => GI G o σ U.heap ∧ KK G U)) (vp_Si (fun r => r = (iI (if 0 ≤ f ∧ f < σ 4 then σ (309 + 4 * f + 1) else -1)))) 0 0 (fun _ => False) := by
  refine z_met (P := (fun H : Heap => GI G o σ H)) (by decide) rfl (Nat.le_of_ble_eq_true rfl) (fun pp ee ss mm below meth cC E hr hml hown hts hlocks hFO hK ls hl => ?_)
  have hl : lv_has ls 2 [(0, .ref (o 0)), (1, .int (iI f))] := hl
  have hcs : 0 ≤ (({ frames := 1, cells := 0, slots := 0, locals := 21 } : Room)).cells ∧ 0 ≤ (({ frames := 1, cells := 0, slots := 0, locals := 21 } : Room)).slots := ⟨Nat.zero_le _, Nat.zero_le _⟩
  have hin4 : ∀ w ∈ wsX40, w ∈ wsX4_getterOf := fun w h => List.mem_cons_of_mem _ (List.mem_append_right _ (h))
  obtain ⟨gv, ge, gb, gd, hM, hs⟩ := id hFO
  have hF := hI.F
  have hMm := hI.M
  have hGn := hI.Gn
  refine lv_aload_n (pc := 0) E.1 E.2 dX4_getterOf_0 rfl (lv_at hl 0 rfl) ?_
  refine lv_iload_n (pc := 1) E.1 E.2 dX4_getterOf_1 rfl (lv_at hl 1 rfl) ?_
  refine z_rVi (pc := 2) (As := [.int (iI f)]) (rest := []) E hml hown hts (mX4_has lL G o σ f hI (by omega)) (cwV 1 hts gX4_getterOf_X4_has rfl rfl rfl vdX4_has ⟨Nat.le_of_ble_eq_true rfl, Nat.le_of_ble_eq_true rfl⟩) (oB.recv hK hM.1 rfl) hFO hK rfl hl.1 rfl dX4_getterOf_2 hcs (Nat.le_of_ble_eq_true rfl) ?_
  refine z_ifb_eq (pc := 5) (tgt := 17) E dX4_getterOf_5 (by decide) (fun h5 => ?_) (fun h5 => ?_)
  · refine z_iconst (pc := 17) E dX4_getterOf_17 ?_
    exact z_retRi E hr (congrArg iI (by first | exact (if_pos h5).symm | exact (if_neg h5).symm)) hlocks dX4_getterOf_18
  · refine lv_aload_n (pc := 8) E.1 E.2 dX4_getterOf_8 rfl (lv_at hl 0 rfl) ?_
    refine g4_1 (pc := 9) E hts hin4 hown hK hM.1 (hts _ (List.mem_of_getElem? (i := 1) rfl)) dX4_getterOf_9 ?_
    refine lv_iload_n (pc := 12) E.1 E.2 dX4_getterOf_12 rfl (lv_at hl 1 rfl) ?_
    refine z_ialoadE (pc := 13) E hK hM.2.2.1 ⟨by omega, by omega⟩ (by decide) (hs _ (by omega) (by omega)).2.1 dX4_getterOf_13 ?_
    refine lv_goto (pc := 14) (tgt := 18) E.1 E.2 dX4_getterOf_14 (by decide) ?_
    exact z_retRi E hr (congrArg iI (by first | exact (if_pos h5).symm | exact (if_neg h5).symm)) hlocks dX4_getterOf_18
set_option maxHeartbeats 1000000 in
set_option maxRecDepth 100000 in
theorem mX4_blocksOf (lL : Launch) (G : GG) (o : Nat → Nat) (σ : Int → Int) (f : Int) (hI : In σ) (hf : -2147483648 ≤ f ∧ f < 2147483648) : Met lL yX4_blocksOf wsX4_blocksOf ({ frames := 1, cells := 0, slots := 0, locals := 21 } : Room) (va_Pc [.ref (o 0), .int (iI f)] (fun U => GI G o σ U.heap ∧ KK G U)) (vp_Si (fun r => r = (iI (if 0 ≤ f ∧ f < σ 4 then σ (309 + 4 * f + 2) else 0)))) 0 0 (fun _ => False) := by
  refine z_met (P := (fun H : Heap => GI G o σ H)) (by decide) rfl (Nat.le_of_ble_eq_true rfl) (fun pp ee ss mm below meth cC E hr hml hown hts hlocks hFO hK ls hl => ?_)
  have hl : lv_has ls 2 [(0, .ref (o 0)), (1, .int (iI f))] := hl
  have hcs : 0 ≤ (({ frames := 1, cells := 0, slots := 0, locals := 21 } : Room)).cells ∧ 0 ≤ (({ frames := 1, cells := 0, slots := 0, locals := 21 } : Room)).slots := ⟨Nat.zero_le _, Nat.zero_le _⟩
  have hin4 : ∀ w ∈ wsX40, w ∈ wsX4_blocksOf := fun w h => List.mem_cons_of_mem _ (List.mem_append_right _ (h))
  obtain ⟨gv, ge, gb, gd, hM, hs⟩ := id hFO
  have hF := hI.F
  have hMm := hI.M
  have hGn := hI.Gn
  refine lv_aload_n (pc := 0) E.1 E.2 dX4_blocksOf_0 rfl (lv_at hl 0 rfl) ?_
  refine lv_iload_n (pc := 1) E.1 E.2 dX4_blocksOf_1 rfl (lv_at hl 1 rfl) ?_
  refine z_rVi (pc := 2) (As := [.int (iI f)]) (rest := []) E hml hown hts (mX4_has lL G o σ f hI (by omega)) (cwV 1 hts gX4_blocksOf_X4_has rfl rfl rfl vdX4_has ⟨Nat.le_of_ble_eq_true rfl, Nat.le_of_ble_eq_true rfl⟩) (oB.recv hK hM.1 rfl) hFO hK rfl hl.1 rfl dX4_blocksOf_2 hcs (Nat.le_of_ble_eq_true rfl) ?_
  refine z_ifb_eq (pc := 5) (tgt := 17) E dX4_blocksOf_5 (by decide) (fun h5 => ?_) (fun h5 => ?_)
  · refine z_iconst (pc := 17) E dX4_blocksOf_17 ?_
    exact z_retRi E hr (congrArg iI (by first | exact (if_pos h5).symm | exact (if_neg h5).symm)) hlocks dX4_blocksOf_18
  · refine lv_aload_n (pc := 8) E.1 E.2 dX4_blocksOf_8 rfl (lv_at hl 0 rfl) ?_
    refine g4_2 (pc := 9) E hts hin4 hown hK hM.1 (hts _ (List.mem_of_getElem? (i := 1) rfl)) dX4_blocksOf_9 ?_
    refine lv_iload_n (pc := 12) E.1 E.2 dX4_blocksOf_12 rfl (lv_at hl 1 rfl) ?_
    refine z_ialoadE (pc := 13) E hK hM.2.2.2.1 ⟨by omega, by omega⟩ (by decide) (hs _ (by omega) (by omega)).2.2.1 dX4_blocksOf_13 ?_
    refine lv_goto (pc := 14) (tgt := 18) E.1 E.2 dX4_blocksOf_14 (by decide) ?_
    exact z_retRi E hr (congrArg iI (by first | exact (if_pos h5).symm | exact (if_neg h5).symm)) hlocks dX4_blocksOf_18
set_option maxHeartbeats 1000000 in
set_option maxRecDepth 100000 in
theorem mX4_endOf (lL : Launch) (G : GG) (o : Nat → Nat) (σ : Int → Int) (f : Int) (hI : In σ) (hf : -2147483648 ≤ f ∧ f < 2147483648) : Met lL yX4_endOf wsX4_endOf ({ frames := 1, cells := 0, slots := 0, locals := 21 } : Room) (va_Pc [.ref (o 0), .int (iI f)] (fun U => GI G o σ U.heap ∧ KK G U)) (vp_Si (fun r => r = (iI (if 0 ≤ f ∧ f < σ 4 then σ (309 + 4 * f + 3) else -1)))) 0 0 (fun _ => False) := by
  refine z_met (P := (fun H : Heap => GI G o σ H)) (by decide) rfl (Nat.le_of_ble_eq_true rfl) (fun pp ee ss mm below meth cC E hr hml hown hts hlocks hFO hK ls hl => ?_)
  have hl : lv_has ls 2 [(0, .ref (o 0)), (1, .int (iI f))] := hl
  have hcs : 0 ≤ (({ frames := 1, cells := 0, slots := 0, locals := 21 } : Room)).cells ∧ 0 ≤ (({ frames := 1, cells := 0, slots := 0, locals := 21 } : Room)).slots := ⟨Nat.zero_le _, Nat.zero_le _⟩
  have hin4 : ∀ w ∈ wsX40, w ∈ wsX4_endOf := fun w h => List.mem_cons_of_mem _ (List.mem_append_right _ (h))
  obtain ⟨gv, ge, gb, gd, hM, hs⟩ := id hFO
  have hF := hI.F
  have hMm := hI.M
  have hGn := hI.Gn
  refine lv_aload_n (pc := 0) E.1 E.2 dX4_endOf_0 rfl (lv_at hl 0 rfl) ?_
  refine lv_iload_n (pc := 1) E.1 E.2 dX4_endOf_1 rfl (lv_at hl 1 rfl) ?_
  refine z_rVi (pc := 2) (As := [.int (iI f)]) (rest := []) E hml hown hts (mX4_has lL G o σ f hI (by omega)) (cwV 1 hts gX4_endOf_X4_has rfl rfl rfl vdX4_has ⟨Nat.le_of_ble_eq_true rfl, Nat.le_of_ble_eq_true rfl⟩) (oB.recv hK hM.1 rfl) hFO hK rfl hl.1 rfl dX4_endOf_2 hcs (Nat.le_of_ble_eq_true rfl) ?_
  refine z_ifb_eq (pc := 5) (tgt := 17) E dX4_endOf_5 (by decide) (fun h5 => ?_) (fun h5 => ?_)
  · refine z_iconst (pc := 17) E dX4_endOf_17 ?_
    exact z_retRi E hr (congrArg iI (by first | exact (if_pos h5).symm | exact (if_neg h5).symm)) hlocks dX4_endOf_18
  · refine lv_aload_n (pc := 8) E.1 E.2 dX4_endOf_8 rfl (lv_at hl 0 rfl) ?_
    refine g4_3 (pc := 9) E hts hin4 hown hK hM.1 (hts _ (List.mem_of_getElem? (i := 1) rfl)) dX4_endOf_9 ?_
    refine lv_iload_n (pc := 12) E.1 E.2 dX4_endOf_12 rfl (lv_at hl 1 rfl) ?_
    refine z_ialoadE (pc := 13) E hK hM.2.2.2.2.1 ⟨by omega, by omega⟩ (by decide) (hs _ (by omega) (by omega)).2.2.2 dX4_endOf_13 ?_
    refine lv_goto (pc := 14) (tgt := 18) E.1 E.2 dX4_endOf_14 (by decide) ?_
    exact z_retRi E hr (congrArg iI (by first | exact (if_pos h5).symm | exact (if_neg h5).symm)) hlocks dX4_endOf_18
set_option maxHeartbeats 1000000 in
set_option maxRecDepth 100000 in
theorem mX4_balanceOf (lL : Launch) (G : GG) (o : Nat → Nat) (σ : Int → Int) (p : Int) (hI : In σ) (hp : -2147483648 ≤ p ∧ p < 2147483648) : Met lL yX4_balanceOf wsX4_balanceOf ({ frames := 0, cells := 0, slots := 0, locals := 0 } : Room) (va_Pc [.ref (o 0), .int (iI p)] (fun U => GI G o σ U.heap ∧ KK G U)) (vp_Si (fun r => r = (iI (giS σ p)))) 0 0 (fun _ => False) := by
  refine z_met (P := (fun H : Heap => GI G o σ H)) (by decide) rfl (Nat.le_of_ble_eq_true rfl) (fun pp ee ss mm below meth cC E hr hml hown hts hlocks hFO hK ls hl => ?_)
  have hl : lv_has ls 4 [(0, .ref (o 0)), (1, .int (iI p))] := hl
  have hcs : 0 ≤ (({ frames := 0, cells := 0, slots := 0, locals := 0 } : Room)).cells ∧ 0 ≤ (({ frames := 0, cells := 0, slots := 0, locals := 0 } : Room)).slots := ⟨Nat.zero_le _, Nat.zero_le _⟩
  have hin4 : ∀ w ∈ wsX40, w ∈ wsX4_balanceOf := fun w h => List.mem_cons_of_mem _ (List.mem_append_right _ (h))
  obtain ⟨gv, ge, gb, gd, hM, hs⟩ := id hFO
  have hF := hI.F
  have hMm := hI.M
  have hGn := hI.Gn
  refine z_iconst (pc := 0) E dX4_balanceOf_0 ?_
  refine lv_istore_n (pc := 1) (lv' := [(2, .int (iI 0)), (0, .ref (o 0)), (1, .int (iI p))]) E.1 E.2 dX4_balanceOf_1 rfl hl (by decide) rfl (fun ls hl => ?_)
  refine z_iconst (pc := 2) E dX4_balanceOf_2 ?_
  refine lv_istore_n (pc := 3) (lv' := [(3, .int (iI 0)), (2, .int (iI 0)), (0, .ref (o 0)), (1, .int (iI p))]) E.1 E.2 dX4_balanceOf_3 rfl hl (by decide) rfl (fun ls hl => ?_)
  suffices L4 : ∀ (nf : Nat), ∀ (a k : Int), (0 ≤ k ∧ k ≤ σ 4) → (a = cn (giP σ p) k.toNat) → ((σ 4 - k).toNat) < nf → ∀ ls : Array Slot, lv_has ls 4 [(3, .int (iI k)), (2, .int (iI a)), (0, .ref (o 0)), (1, .int (iI p))] → W pp lL ee ({ frames := 0, cells := 0, slots := 0, locals := 0 } : Room) ss mm [.ref (o 0), .int (iI p)].toArray below meth cC ss.heap [] 0 0 (MQ below (vp_Si (fun r => r = (iI (giS σ p)))) [.ref (o 0), .int (iI p)].toArray ss 0 0 (fun _ => False)) (F0 mm 4 ls []) from L4 _ 0 0 (by omega) rfl (Nat.lt_succ_self _) ls (lv_sub hl [0, 1, 2, 3] rfl)
  intro nfL4
  induction nfL4 with
  | zero => intro a k hk hn hmzL4; exact absurd hmzL4 (Nat.not_lt_zero _)
  | succ nfL4 ihL4 =>
    intro a k hk hn hmzL4 ls hl
    refine lv_iload_n (pc := 4) E.1 E.2 dX4_balanceOf_4 rfl (lv_at hl 0 rfl) ?_
    refine lv_aload_n (pc := 5) E.1 E.2 dX4_balanceOf_5 rfl (lv_at hl 2 rfl) ?_
    refine g4_4 (pc := 6) E hts hin4 hown hK hM.1 (hts _ (List.mem_of_getElem? (i := 1) rfl)) dX4_balanceOf_6 ?_
    refine z_icmp_ge (pc := 9) (tgt := 56) E ⟨by omega, by omega⟩ ⟨by omega, by omega⟩ dX4_balanceOf_9 (by decide) (fun h9 => ?_) (fun h9 => ?_)
    · refine lv_iload_n (pc := 56) E.1 E.2 dX4_balanceOf_56 rfl (lv_at hl 1 rfl) ?_
      exact z_retRi E hr (congrArg iI (by (rw [hn]; unfold giS; congr 2; omega))) hlocks dX4_balanceOf_57
    · refine lv_aload_n (pc := 12) E.1 E.2 dX4_balanceOf_12 rfl (lv_at hl 2 rfl) ?_
      refine g4_1 (pc := 13) E hts hin4 hown hK hM.1 (hts _ (List.mem_of_getElem? (i := 2) rfl)) dX4_balanceOf_13 ?_
      refine lv_iload_n (pc := 16) E.1 E.2 dX4_balanceOf_16 rfl (lv_at hl 0 rfl) ?_
      refine z_ialoadE (pc := 17) E hK hM.2.2.1 ⟨by omega, by omega⟩ (by decide) (hs _ (by omega) (by omega)).2.1 dX4_balanceOf_17 ?_
      have hgk := hI.gft (g := k) hk.1 (by omega)
      refine lv_iload_n (pc := 18) E.1 E.2 dX4_balanceOf_18 rfl (lv_at hl 3 rfl) ?_
      refine z_icmp_ne (pc := 19) (tgt := 31) E ⟨by omega, by omega⟩ ⟨by omega, by omega⟩ dX4_balanceOf_19 (by decide) (fun h19 => ?_) (fun h19 => ?_)
      · refine lv_aload_n (pc := 31) E.1 E.2 dX4_balanceOf_31 rfl (lv_at hl 2 rfl) ?_
        refine g4_0 (pc := 32) E hts hin4 hown hK hM.1 (hts _ (List.mem_of_getElem? (i := 4) rfl)) dX4_balanceOf_32 ?_
        refine lv_iload_n (pc := 35) E.1 E.2 dX4_balanceOf_35 rfl (lv_at hl 0 rfl) ?_
        refine z_ialoadE (pc := 36) E hK hM.2.1 ⟨by omega, by omega⟩ (by decide) (hs _ (by omega) (by omega)).1 dX4_balanceOf_36 ?_
        refine lv_iload_n (pc := 37) E.1 E.2 dX4_balanceOf_37 rfl (lv_at hl 3 rfl) ?_
        refine z_icmp_ne (pc := 38) (tgt := 50) E ⟨by omega, by omega⟩ ⟨by omega, by omega⟩ dX4_balanceOf_38 (by decide) (fun h38 => ?_) (fun h38 => ?_)
        · refine lv_iinc (pc := 50) (v := iI (k + 1)) (lv' := [(3, .int (iI (k + 1))), (2, .int (iI a)), (0, .ref (o 0)), (1, .int (iI p))]) E.1 E.2 dX4_balanceOf_50 hl (k := 0) rfl (iI_add _ _) (by decide) rfl (fun ls hl => ?_)
          refine lv_goto (pc := 53) (tgt := 4) E.1 E.2 dX4_balanceOf_53 (by decide) ?_
          exact ihL4 a (k + 1) (by omega) (by rw [cn_s _ hk.1, ← hn]; unfold giP; first | (rw [if_pos h19, if_pos h38]; omega) | (rw [if_pos h19, if_neg h38]; omega) | (rw [if_neg h19, if_pos h38]; omega) | (rw [if_neg h19, if_neg h38]; omega)) (by omega) ls (lv_sub hl [0, 1, 2, 3] rfl)
        · refine lv_iload_n (pc := 41) E.1 E.2 dX4_balanceOf_41 rfl (lv_at hl 1 rfl) ?_
          refine lv_aload_n (pc := 42) E.1 E.2 dX4_balanceOf_42 rfl (lv_at hl 2 rfl) ?_
          refine g4_2 (pc := 43) E hts hin4 hown hK hM.1 (hts _ (List.mem_of_getElem? (i := 3) rfl)) dX4_balanceOf_43 ?_
          refine lv_iload_n (pc := 46) E.1 E.2 dX4_balanceOf_46 rfl (lv_at hl 0 rfl) ?_
          refine z_ialoadE (pc := 47) E hK hM.2.2.2.1 ⟨by omega, by omega⟩ (by decide) (hs _ (by omega) (by omega)).2.2.1 dX4_balanceOf_47 ?_
          refine z_isub (pc := 48) E dX4_balanceOf_48 ?_
          refine lv_istore_n (pc := 49) (lv' := [(2, .int (iI (a - (σ (309 + 4 * k + 2))))), (3, .int (iI k)), (0, .ref (o 0)), (1, .int (iI p))]) E.1 E.2 dX4_balanceOf_49 rfl hl (by decide) rfl (fun ls hl => ?_)
          refine lv_iinc (pc := 50) (v := iI (k + 1)) (lv' := [(3, .int (iI (k + 1))), (2, .int (iI (a - (σ (309 + 4 * k + 2))))), (0, .ref (o 0)), (1, .int (iI p))]) E.1 E.2 dX4_balanceOf_50 hl (k := 1) rfl (iI_add _ _) (by decide) rfl (fun ls hl => ?_)
          refine lv_goto (pc := 53) (tgt := 4) E.1 E.2 dX4_balanceOf_53 (by decide) ?_
          exact ihL4 (a - (σ (309 + 4 * k + 2))) (k + 1) (by omega) (by rw [cn_s _ hk.1, ← hn]; unfold giP; first | (rw [if_pos h19, if_pos h38]; omega) | (rw [if_pos h19, if_neg h38]; omega) | (rw [if_neg h19, if_pos h38]; omega) | (rw [if_neg h19, if_neg h38]; omega)) (by omega) ls (lv_sub hl [0, 1, 2, 3] rfl)
      · refine lv_iload_n (pc := 22) E.1 E.2 dX4_balanceOf_22 rfl (lv_at hl 1 rfl) ?_
        refine lv_aload_n (pc := 23) E.1 E.2 dX4_balanceOf_23 rfl (lv_at hl 2 rfl) ?_
        refine g4_2 (pc := 24) E hts hin4 hown hK hM.1 (hts _ (List.mem_of_getElem? (i := 3) rfl)) dX4_balanceOf_24 ?_
        refine lv_iload_n (pc := 27) E.1 E.2 dX4_balanceOf_27 rfl (lv_at hl 0 rfl) ?_
        refine z_ialoadE (pc := 28) E hK hM.2.2.2.1 ⟨by omega, by omega⟩ (by decide) (hs _ (by omega) (by omega)).2.2.1 dX4_balanceOf_28 ?_
        refine z_iadd (pc := 29) E dX4_balanceOf_29 ?_
        refine lv_istore_n (pc := 30) (lv' := [(2, .int (iI (a + (σ (309 + 4 * k + 2))))), (3, .int (iI k)), (0, .ref (o 0)), (1, .int (iI p))]) E.1 E.2 dX4_balanceOf_30 rfl hl (by decide) rfl (fun ls hl => ?_)
        refine lv_aload_n (pc := 31) E.1 E.2 dX4_balanceOf_31 rfl (lv_at hl 2 rfl) ?_
        refine g4_0 (pc := 32) E hts hin4 hown hK hM.1 (hts _ (List.mem_of_getElem? (i := 4) rfl)) dX4_balanceOf_32 ?_
        refine lv_iload_n (pc := 35) E.1 E.2 dX4_balanceOf_35 rfl (lv_at hl 1 rfl) ?_
        refine z_ialoadE (pc := 36) E hK hM.2.1 ⟨by omega, by omega⟩ (by decide) (hs _ (by omega) (by omega)).1 dX4_balanceOf_36 ?_
        refine lv_iload_n (pc := 37) E.1 E.2 dX4_balanceOf_37 rfl (lv_at hl 3 rfl) ?_
        refine z_icmp_ne (pc := 38) (tgt := 50) E ⟨by omega, by omega⟩ ⟨by omega, by omega⟩ dX4_balanceOf_38 (by decide) (fun h38 => ?_) (fun h38 => ?_)
        · refine lv_iinc (pc := 50) (v := iI (k + 1)) (lv' := [(3, .int (iI (k + 1))), (2, .int (iI (a + (σ (309 + 4 * k + 2))))), (0, .ref (o 0)), (1, .int (iI p))]) E.1 E.2 dX4_balanceOf_50 hl (k := 1) rfl (iI_add _ _) (by decide) rfl (fun ls hl => ?_)
          refine lv_goto (pc := 53) (tgt := 4) E.1 E.2 dX4_balanceOf_53 (by decide) ?_
          exact ihL4 (a + (σ (309 + 4 * k + 2))) (k + 1) (by omega) (by rw [cn_s _ hk.1, ← hn]; unfold giP; first | (rw [if_pos h19, if_pos h38]; omega) | (rw [if_pos h19, if_neg h38]; omega) | (rw [if_neg h19, if_pos h38]; omega) | (rw [if_neg h19, if_neg h38]; omega)) (by omega) ls (lv_sub hl [0, 1, 2, 3] rfl)
        · refine lv_iload_n (pc := 41) E.1 E.2 dX4_balanceOf_41 rfl (lv_at hl 0 rfl) ?_
          refine lv_aload_n (pc := 42) E.1 E.2 dX4_balanceOf_42 rfl (lv_at hl 2 rfl) ?_
          refine g4_2 (pc := 43) E hts hin4 hown hK hM.1 (hts _ (List.mem_of_getElem? (i := 3) rfl)) dX4_balanceOf_43 ?_
          refine lv_iload_n (pc := 46) E.1 E.2 dX4_balanceOf_46 rfl (lv_at hl 1 rfl) ?_
          refine z_ialoadE (pc := 47) E hK hM.2.2.2.1 ⟨by omega, by omega⟩ (by decide) (hs _ (by omega) (by omega)).2.2.1 dX4_balanceOf_47 ?_
          refine z_isub (pc := 48) E dX4_balanceOf_48 ?_
          refine lv_istore_n (pc := 49) (lv' := [(2, .int (iI ((a + (σ (309 + 4 * k + 2))) - (σ (309 + 4 * k + 2))))), (3, .int (iI k)), (0, .ref (o 0)), (1, .int (iI p))]) E.1 E.2 dX4_balanceOf_49 rfl hl (by decide) rfl (fun ls hl => ?_)
          refine lv_iinc (pc := 50) (v := iI (k + 1)) (lv' := [(3, .int (iI (k + 1))), (2, .int (iI ((a + (σ (309 + 4 * k + 2))) - (σ (309 + 4 * k + 2))))), (0, .ref (o 0)), (1, .int (iI p))]) E.1 E.2 dX4_balanceOf_50 hl (k := 1) rfl (iI_add _ _) (by decide) rfl (fun ls hl => ?_)
          refine lv_goto (pc := 53) (tgt := 4) E.1 E.2 dX4_balanceOf_53 (by decide) ?_
          exact ihL4 ((a + (σ (309 + 4 * k + 2))) - (σ (309 + 4 * k + 2))) (k + 1) (by omega) (by rw [cn_s _ hk.1, ← hn]; unfold giP; first | (rw [if_pos h19, if_pos h38]; omega) | (rw [if_pos h19, if_neg h38]; omega) | (rw [if_neg h19, if_pos h38]; omega) | (rw [if_neg h19, if_neg h38]; omega)) (by omega) ls (lv_sub hl [0, 1, 2, 3] rfl)
set_option maxHeartbeats 1000000 in
set_option maxRecDepth 100000 in
theorem mX4_concern (lL : Launch) (G : GG) (o : Nat → Nat) (σ : Int → Int) (p : Int) (hI : In σ) (hp : -2147483648 ≤ p ∧ p < 2147483648) : Met lL yX4_concern wsX4_concern ({ frames := 0, cells := 0, slots := 0, locals := 0 } : Room) (va_Pc [.ref (o 0), .int (iI p)] (fun U => GI G o σ U.heap ∧ KK G U)) (vp_Si (fun r => r = (iI (if hgS σ p then 1 else 0)))) 0 0 (fun _ => False) := by
  refine z_met (P := (fun H : Heap => GI G o σ H)) (by decide) rfl (Nat.le_of_ble_eq_true rfl) (fun pp ee ss mm below meth cC E hr hml hown hts hlocks hFO hK ls hl => ?_)
  have hl : lv_has ls 3 [(0, .ref (o 0)), (1, .int (iI p))] := hl
  have hcs : 0 ≤ (({ frames := 0, cells := 0, slots := 0, locals := 0 } : Room)).cells ∧ 0 ≤ (({ frames := 0, cells := 0, slots := 0, locals := 0 } : Room)).slots := ⟨Nat.zero_le _, Nat.zero_le _⟩
  have hin4 : ∀ w ∈ wsX40, w ∈ wsX4_concern := fun w h => List.mem_cons_of_mem _ (List.mem_append_right _ (h))
  obtain ⟨gv, ge, gb, gd, hM, hs⟩ := id hFO
  have hF := hI.F
  have hMm := hI.M
  have hGn := hI.Gn
  refine z_iconst (pc := 0) E dX4_concern_0 ?_
  refine lv_istore_n (pc := 1) (lv' := [(2, .int (iI 0)), (0, .ref (o 0)), (1, .int (iI p))]) E.1 E.2 dX4_concern_1 rfl hl (by decide) rfl (fun ls hl => ?_)
  suffices L2 : ∀ (nf : Nat), ∀ (k : Int), (0 ≤ k ∧ k ≤ σ 4) → (cn (hgP σ p) k.toNat = 0) → ((σ 4 - k).toNat) < nf → ∀ ls : Array Slot, lv_has ls 3 [(2, .int (iI k)), (0, .ref (o 0)), (1, .int (iI p))] → W pp lL ee ({ frames := 0, cells := 0, slots := 0, locals := 0 } : Room) ss mm [.ref (o 0), .int (iI p)].toArray below meth cC ss.heap [] 0 0 (MQ below (vp_Si (fun r => r = (iI (if hgS σ p then 1 else 0)))) [.ref (o 0), .int (iI p)].toArray ss 0 0 (fun _ => False)) (F0 mm 2 ls []) from L2 _ 0 (by omega) rfl (Nat.lt_succ_self _) ls (lv_sub hl [0, 1, 2] rfl)
  intro nfL2
  induction nfL2 with
  | zero => intro k hk hn hmzL2; exact absurd hmzL2 (Nat.not_lt_zero _)
  | succ nfL2 ihL2 =>
    intro k hk hn hmzL2 ls hl
    refine lv_iload_n (pc := 2) E.1 E.2 dX4_concern_2 rfl (lv_at hl 0 rfl) ?_
    refine lv_aload_n (pc := 3) E.1 E.2 dX4_concern_3 rfl (lv_at hl 1 rfl) ?_
    refine g4_4 (pc := 4) E hts hin4 hown hK hM.1 (hts _ (List.mem_of_getElem? (i := 1) rfl)) dX4_concern_4 ?_
    refine z_icmp_ge (pc := 7) (tgt := 38) E ⟨by omega, by omega⟩ ⟨by omega, by omega⟩ dX4_concern_7 (by decide) (fun h7 => ?_) (fun h7 => ?_)
    · refine z_iconst (pc := 38) E dX4_concern_38 ?_
      exact z_retRz E hr rfl (congrArg iI (by refine (if_neg ?_).symm; have e : σ 4 = k := (by omega); show ¬ 0 < cn (hgP σ p) (σ 4).toNat; rw [e, hn]; decide)) hlocks dX4_concern_39
    · refine lv_aload_n (pc := 10) E.1 E.2 dX4_concern_10 rfl (lv_at hl 1 rfl) ?_
      refine g4_0 (pc := 11) E hts hin4 hown hK hM.1 (hts _ (List.mem_of_getElem? (i := 2) rfl)) dX4_concern_11 ?_
      refine lv_iload_n (pc := 14) E.1 E.2 dX4_concern_14 rfl (lv_at hl 0 rfl) ?_
      refine z_ialoadE (pc := 15) E hK hM.2.1 ⟨by omega, by omega⟩ (by decide) (hs _ (by omega) (by omega)).1 dX4_concern_15 ?_
      have hgk := hI.gft (g := k) hk.1 (by omega)
      refine lv_iload_n (pc := 16) E.1 E.2 dX4_concern_16 rfl (lv_at hl 2 rfl) ?_
      refine z_icmp_eq (pc := 17) (tgt := 30) E ⟨by omega, by omega⟩ ⟨by omega, by omega⟩ dX4_concern_17 (by decide) (fun h17 => ?_) (fun h17 => ?_)
      · refine z_iconst (pc := 30) E dX4_concern_30 ?_
        exact z_retRz E hr rfl (congrArg iI (by first | exact (if_pos (hgS_y hk.1 (by omega) (Or.inl h17))).symm | exact (if_pos (hgS_y hk.1 (by omega) (Or.inr h27))).symm)) hlocks dX4_concern_31
      · refine lv_aload_n (pc := 20) E.1 E.2 dX4_concern_20 rfl (lv_at hl 1 rfl) ?_
        refine g4_1 (pc := 21) E hts hin4 hown hK hM.1 (hts _ (List.mem_of_getElem? (i := 3) rfl)) dX4_concern_21 ?_
        refine lv_iload_n (pc := 24) E.1 E.2 dX4_concern_24 rfl (lv_at hl 0 rfl) ?_
        refine z_ialoadE (pc := 25) E hK hM.2.2.1 ⟨by omega, by omega⟩ (by decide) (hs _ (by omega) (by omega)).2.1 dX4_concern_25 ?_
        refine lv_iload_n (pc := 26) E.1 E.2 dX4_concern_26 rfl (lv_at hl 2 rfl) ?_
        refine z_icmp_ne (pc := 27) (tgt := 32) E ⟨by omega, by omega⟩ ⟨by omega, by omega⟩ dX4_concern_27 (by decide) (fun h27 => ?_) (fun h27 => ?_)
        · refine lv_iinc (pc := 32) (v := iI (k + 1)) (lv' := [(2, .int (iI (k + 1))), (0, .ref (o 0)), (1, .int (iI p))]) E.1 E.2 dX4_concern_32 hl (k := 0) rfl (iI_add _ _) (by decide) rfl (fun ls hl => ?_)
          refine lv_goto (pc := 35) (tgt := 2) E.1 E.2 dX4_concern_35 (by decide) ?_
          exact ihL2 (k + 1) (by omega) (by have z : hgP σ p k = 0 := (by unfold hgP; exact if_neg (fun z => z.elim h17 h27)); have y := cn_s (hgP σ p) hk.1; omega) (by omega) ls (lv_sub hl [0, 1, 2] rfl)
        · refine z_iconst (pc := 30) E dX4_concern_30 ?_
          exact z_retRz E hr rfl (congrArg iI (by first | exact (if_pos (hgS_y hk.1 (by omega) (Or.inl h17))).symm | exact (if_pos (hgS_y hk.1 (by omega) (Or.inr h27))).symm)) hlocks dX4_concern_31
set_option maxHeartbeats 1000000 in
set_option maxRecDepth 100000 in
theorem mX4_firstEnd (lL : Launch) (G : GG) (o : Nat → Nat) (σ : Int → Int) (hI : In σ) : Met lL yX4_firstEnd wsX4_firstEnd ({ frames := 0, cells := 0, slots := 0, locals := 0 } : Room) (va_Pc [.ref (o 0)] (fun U => GI G o σ U.heap ∧ KK G U)) (vp_Si (fun r => r = (iI (feS σ)))) 0 0 (fun _ => False) := by
  refine z_met (P := (fun H : Heap => GI G o σ H)) (by decide) rfl (Nat.le_of_ble_eq_true rfl) (fun pp ee ss mm below meth cC E hr hml hown hts hlocks hFO hK ls hl => ?_)
  have hl : lv_has ls 3 [(0, .ref (o 0))] := hl
  have hcs : 0 ≤ (({ frames := 0, cells := 0, slots := 0, locals := 0 } : Room)).cells ∧ 0 ≤ (({ frames := 0, cells := 0, slots := 0, locals := 0 } : Room)).slots := ⟨Nat.zero_le _, Nat.zero_le _⟩
  have hin4 : ∀ w ∈ wsX40, w ∈ wsX4_firstEnd := fun w h => List.mem_cons_of_mem _ (List.mem_append_right _ (h))
  obtain ⟨gv, ge, gb, gd, hM, hs⟩ := id hFO
  have hF := hI.F
  have hMm := hI.M
  have hGn := hI.Gn
  refine z_iconst (pc := 0) E dX4_firstEnd_0 ?_
  refine lv_istore_n (pc := 1) (lv' := [(1, .int (iI (-1))), (0, .ref (o 0))]) E.1 E.2 dX4_firstEnd_1 rfl hl (by decide) rfl (fun ls hl => ?_)
  refine z_iconst (pc := 2) E dX4_firstEnd_2 ?_
  refine lv_istore_n (pc := 3) (lv' := [(2, .int (iI 0)), (1, .int (iI (-1))), (0, .ref (o 0))]) E.1 E.2 dX4_firstEnd_3 rfl hl (by decide) rfl (fun ls hl => ?_)
  suffices L4 : ∀ (nf : Nat), ∀ (a k : Int), (0 ≤ k ∧ k ≤ σ 4) → (-1 ≤ a ∧ a ≤ 19999) → (a = fe σ k.toNat) → ((σ 4 - k).toNat) < nf → ∀ ls : Array Slot, lv_has ls 3 [(2, .int (iI k)), (1, .int (iI a)), (0, .ref (o 0))] → W pp lL ee ({ frames := 0, cells := 0, slots := 0, locals := 0 } : Room) ss mm [.ref (o 0)].toArray below meth cC ss.heap [] 0 0 (MQ below (vp_Si (fun r => r = (iI (feS σ)))) [.ref (o 0)].toArray ss 0 0 (fun _ => False)) (F0 mm 4 ls []) from L4 _ (-1) 0 (by omega) (by omega) rfl (Nat.lt_succ_self _) ls (lv_sub hl [0, 1, 2] rfl)
  intro nfL4
  induction nfL4 with
  | zero => intro a k hk ha hn hmzL4; exact absurd hmzL4 (Nat.not_lt_zero _)
  | succ nfL4 ihL4 =>
    intro a k hk ha hn hmzL4 ls hl
    refine lv_iload_n (pc := 4) E.1 E.2 dX4_firstEnd_4 rfl (lv_at hl 0 rfl) ?_
    refine lv_aload_n (pc := 5) E.1 E.2 dX4_firstEnd_5 rfl (lv_at hl 2 rfl) ?_
    refine g4_4 (pc := 6) E hts hin4 hown hK hM.1 (hts _ (List.mem_of_getElem? (i := 1) rfl)) dX4_firstEnd_6 ?_
    refine z_icmp_ge (pc := 9) (tgt := 40) E ⟨by omega, by omega⟩ ⟨by omega, by omega⟩ dX4_firstEnd_9 (by decide) (fun h9 => ?_) (fun h9 => ?_)
    · refine lv_iload_n (pc := 40) E.1 E.2 dX4_firstEnd_40 rfl (lv_at hl 1 rfl) ?_
      exact z_retRi E hr (congrArg iI (by (rw [hn]; unfold feS; congr 1; omega))) hlocks dX4_firstEnd_41
    · have hgk := hI.gft (g := k) hk.1 (by omega)
      refine lv_iload_n (pc := 12) E.1 E.2 dX4_firstEnd_12 rfl (lv_at hl 1 rfl) ?_
      refine z_iconst (pc := 13) E dX4_firstEnd_13 ?_
      refine z_icmp_eq (pc := 14) (tgt := 27) E ⟨by omega, by omega⟩ (by decide) dX4_firstEnd_14 (by decide) (fun h14 => ?_) (fun h14 => ?_)
      · refine lv_aload_n (pc := 27) E.1 E.2 dX4_firstEnd_27 rfl (lv_at hl 2 rfl) ?_
        refine g4_3 (pc := 28) E hts hin4 hown hK hM.1 (hts _ (List.mem_of_getElem? (i := 2) rfl)) dX4_firstEnd_28 ?_
        refine lv_iload_n (pc := 31) E.1 E.2 dX4_firstEnd_31 rfl (lv_at hl 0 rfl) ?_
        refine z_ialoadE (pc := 32) E hK hM.2.2.2.2.1 ⟨by omega, by omega⟩ (by decide) (hs _ (by omega) (by omega)).2.2.2 dX4_firstEnd_32 ?_
        refine lv_istore_n (pc := 33) (lv' := [(1, .int (iI (σ (309 + 4 * k + 3)))), (2, .int (iI k)), (0, .ref (o 0))]) E.1 E.2 dX4_firstEnd_33 rfl hl (by decide) rfl (fun ls hl => ?_)
        refine lv_iinc (pc := 34) (v := iI (k + 1)) (lv' := [(2, .int (iI (k + 1))), (1, .int (iI (σ (309 + 4 * k + 3)))), (0, .ref (o 0))]) E.1 E.2 dX4_firstEnd_34 hl (k := 1) rfl (iI_add _ _) (by decide) rfl (fun ls hl => ?_)
        refine lv_goto (pc := 37) (tgt := 4) E.1 E.2 dX4_firstEnd_37 (by decide) ?_
        exact ihL4 (σ (309 + 4 * k + 3)) (k + 1) (by omega) (by omega) (by rw [show (k + 1).toNat = k.toNat + 1 by omega, fe, Int.toNat_of_nonneg hk.1, ← hn]; first | (rw [if_pos (Or.inl h14)]) | (rw [if_pos (Or.inr h24)]) | (rw [if_neg (fun z => z.elim h14 (fun y => by omega))])) (by omega) ls (lv_sub hl [0, 1, 2] rfl)
      · refine lv_aload_n (pc := 17) E.1 E.2 dX4_firstEnd_17 rfl (lv_at hl 2 rfl) ?_
        refine g4_3 (pc := 18) E hts hin4 hown hK hM.1 (hts _ (List.mem_of_getElem? (i := 2) rfl)) dX4_firstEnd_18 ?_
        refine lv_iload_n (pc := 21) E.1 E.2 dX4_firstEnd_21 rfl (lv_at hl 0 rfl) ?_
        refine z_ialoadE (pc := 22) E hK hM.2.2.2.2.1 ⟨by omega, by omega⟩ (by decide) (hs _ (by omega) (by omega)).2.2.2 dX4_firstEnd_22 ?_
        refine lv_iload_n (pc := 23) E.1 E.2 dX4_firstEnd_23 rfl (lv_at hl 1 rfl) ?_
        refine z_icmp_ge (pc := 24) (tgt := 34) E ⟨by omega, by omega⟩ ⟨by omega, by omega⟩ dX4_firstEnd_24 (by decide) (fun h24 => ?_) (fun h24 => ?_)
        · refine lv_iinc (pc := 34) (v := iI (k + 1)) (lv' := [(2, .int (iI (k + 1))), (1, .int (iI a)), (0, .ref (o 0))]) E.1 E.2 dX4_firstEnd_34 hl (k := 0) rfl (iI_add _ _) (by decide) rfl (fun ls hl => ?_)
          refine lv_goto (pc := 37) (tgt := 4) E.1 E.2 dX4_firstEnd_37 (by decide) ?_
          exact ihL4 a (k + 1) (by omega) (by omega) (by rw [show (k + 1).toNat = k.toNat + 1 by omega, fe, Int.toNat_of_nonneg hk.1, ← hn]; first | (rw [if_pos (Or.inl h14)]) | (rw [if_pos (Or.inr h24)]) | (rw [if_neg (fun z => z.elim h14 (fun y => by omega))])) (by omega) ls (lv_sub hl [0, 1, 2] rfl)
        · refine lv_aload_n (pc := 27) E.1 E.2 dX4_firstEnd_27 rfl (lv_at hl 2 rfl) ?_
          refine g4_3 (pc := 28) E hts hin4 hown hK hM.1 (hts _ (List.mem_of_getElem? (i := 2) rfl)) dX4_firstEnd_28 ?_
          refine lv_iload_n (pc := 31) E.1 E.2 dX4_firstEnd_31 rfl (lv_at hl 0 rfl) ?_
          refine z_ialoadE (pc := 32) E hK hM.2.2.2.2.1 ⟨by omega, by omega⟩ (by decide) (hs _ (by omega) (by omega)).2.2.2 dX4_firstEnd_32 ?_
          refine lv_istore_n (pc := 33) (lv' := [(1, .int (iI (σ (309 + 4 * k + 3)))), (2, .int (iI k)), (0, .ref (o 0))]) E.1 E.2 dX4_firstEnd_33 rfl hl (by decide) rfl (fun ls hl => ?_)
          refine lv_iinc (pc := 34) (v := iI (k + 1)) (lv' := [(2, .int (iI (k + 1))), (1, .int (iI (σ (309 + 4 * k + 3)))), (0, .ref (o 0))]) E.1 E.2 dX4_firstEnd_34 hl (k := 1) rfl (iI_add _ _) (by decide) rfl (fun ls hl => ?_)
          refine lv_goto (pc := 37) (tgt := 4) E.1 E.2 dX4_firstEnd_37 (by decide) ?_
          exact ihL4 (σ (309 + 4 * k + 3)) (k + 1) (by omega) (by omega) (by rw [show (k + 1).toNat = k.toNat + 1 by omega, fe, Int.toNat_of_nonneg hk.1, ← hn]; first | (rw [if_pos (Or.inl h14)]) | (rw [if_pos (Or.inr h24)]) | (rw [if_neg (fun z => z.elim h14 (fun y => by omega))])) (by omega) ls (lv_sub hl [0, 1, 2] rfl)
set_option maxHeartbeats 1000000 in
set_option maxRecDepth 100000 in
theorem mX7_accountOf (lL : Launch) (G : GG) (p : Int) (k : Int) : Met lL yX7_accountOf wsX7_accountOf ({ frames := 0, cells := 0, slots := 0, locals := 0 } : Room) (va_Pc [.int (iI p), .int (iI k)] (fun U => True ∧ KK G U)) (vp_Si (fun r => r = (iI (2 * p + k)))) 0 0 (fun _ => False) := by
  refine z_met (P := (fun H : Heap => True)) (by decide) rfl (Nat.le_of_ble_eq_true rfl) (fun pp ee ss mm below meth cC E hr hml hown hts hlocks hM hK ls hl => ?_)
  have hl : lv_has ls 2 [(0, .int (iI p)), (1, .int (iI k))] := hl
  have hcs : 0 ≤ (({ frames := 0, cells := 0, slots := 0, locals := 0 } : Room)).cells ∧ 0 ≤ (({ frames := 0, cells := 0, slots := 0, locals := 0 } : Room)).slots := ⟨Nat.zero_le _, Nat.zero_le _⟩
  refine lv_iload_n (pc := 0) E.1 E.2 dX7_accountOf_0 rfl (lv_at hl 0 rfl) ?_
  refine z_iconst (pc := 1) E dX7_accountOf_1 ?_
  refine z_imul (pc := 2) E dX7_accountOf_2 ?_
  refine lv_iload_n (pc := 3) E.1 E.2 dX7_accountOf_3 rfl (lv_at hl 1 rfl) ?_
  refine z_iadd (pc := 4) E dX7_accountOf_4 ?_
  exact z_retRi E hr (congrArg iI (by omega)) hlocks dX7_accountOf_5
