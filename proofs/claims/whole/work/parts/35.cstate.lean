theorem vdX0_hasLimit : yX0_hasLimit.cls = RX0 ∧ yX0_hasLimit.cls ≠ "java/lang/invoke/MethodHandle" ∧ yX0_hasLimit.cls ≠ "java/lang/invoke/VarHandle" ∧ (parseMethodDescriptor yX0_hasLimit.desc).map (fun d => d.parameters.length) = some 1 := by decide +kernel
theorem vdX6_projectOfFile : yX6_projectOfFile.cls = RX6 ∧ yX6_projectOfFile.cls ≠ "java/lang/invoke/MethodHandle" ∧ yX6_projectOfFile.cls ≠ "java/lang/invoke/VarHandle" ∧ (parseMethodDescriptor yX6_projectOfFile.desc).map (fun d => d.parameters.length) = some 1 := by decide +kernel
theorem vdX6_countAnew : yX6_countAnew.cls = RX6 ∧ yX6_countAnew.cls ≠ "java/lang/invoke/MethodHandle" ∧ yX6_countAnew.cls ≠ "java/lang/invoke/VarHandle" ∧ (parseMethodDescriptor yX6_countAnew.desc).map (fun d => d.parameters.length) = some 2 := by decide +kernel
theorem vdX6_subtreeSum : yX6_subtreeSum.cls = RX6 ∧ yX6_subtreeSum.cls ≠ "java/lang/invoke/MethodHandle" ∧ yX6_subtreeSum.cls ≠ "java/lang/invoke/VarHandle" ∧ (parseMethodDescriptor yX6_subtreeSum.desc).map (fun d => d.parameters.length) = some 2 := by decide +kernel
theorem vdX6_openSum : yX6_openSum.cls = RX6 ∧ yX6_openSum.cls ≠ "java/lang/invoke/MethodHandle" ∧ yX6_openSum.cls ≠ "java/lang/invoke/VarHandle" ∧ (parseMethodDescriptor yX6_openSum.desc).map (fun d => d.parameters.length) = some 2 := by decide +kernel
theorem vdX6_graceEnd : yX6_graceEnd.cls = RX6 ∧ yX6_graceEnd.cls ≠ "java/lang/invoke/MethodHandle" ∧ yX6_graceEnd.cls ≠ "java/lang/invoke/VarHandle" ∧ (parseMethodDescriptor yX6_graceEnd.desc).map (fun d => d.parameters.length) = some 2 := by decide +kernel
set_option maxHeartbeats 1000000 in
set_option maxRecDepth 100000 in
theorem mX0_hasLimit (lL : Launch) (G : GG) (o : Nat → Nat) (σ : Int → Int) (a : Int) (hI : In σ) (hq : 0 ≤ a ∧ a < 16) : Met lL yX0_hasLimit wsX0_hasLimit ({ frames := 1, cells := 0, slots := 0, locals := 23 } : Room) (va_Pc [.ref (o 0), .int (iI a)] (fun U => AC G o σ U.heap ∧ KK G U)) (vp_Si (fun r => r = (iI (if 0 < σ (5 + a) ∨ 0 < σ (21 + a) then 1 else 0)))) 0 0 (fun _ => False) := by
  refine z_met (P := (fun H : Heap => AC G o σ H)) (by decide) rfl (Nat.le_of_ble_eq_true rfl) (fun pp ee ss mm below meth cC E hr hml hown hts hlocks hFO hK ls hl => ?_)
  have hl : lv_has ls 2 [(0, .ref (o 0)), (1, .int (iI a))] := hl
  have hcs : 0 ≤ (({ frames := 1, cells := 0, slots := 0, locals := 23 } : Room)).cells ∧ 0 ≤ (({ frames := 1, cells := 0, slots := 0, locals := 23 } : Room)).slots := ⟨Nat.zero_le _, Nat.zero_le _⟩
  obtain ⟨am, so, ha, cl, hM, hs⟩ := id hFO
  have hF := hI.F
  have hMm := hI.M
  have hGn := hI.Gn
  refine lv_aload_n (pc := 0) E.1 E.2 dX0_hasLimit_0 rfl (lv_at hl 0 rfl) ?_
  refine lv_iload_n (pc := 1) E.1 E.2 dX0_hasLimit_1 rfl (lv_at hl 1 rfl) ?_
  refine z_iconst (pc := 2) E dX0_hasLimit_2 ?_
  refine z_rVi (pc := 3) (As := [.int (iI a), .int (iI 0)]) (rest := []) E hml hown hts (mX0_limitOf lL G o σ a 0 hI (by omega) (Or.inl rfl)) (cwV 2 hts gX0_hasLimit_X0_limitOf rfl rfl rfl vdX0_limitOf ⟨Nat.le_of_ble_eq_true rfl, Nat.le_of_ble_eq_true rfl⟩) (oB.recv hK hM.1 rfl) hFO hK rfl hl.1 rfl dX0_hasLimit_3 hcs (Nat.le_of_ble_eq_true rfl) ?_
  have hac := hI.acc hq.1 hq.2
  rw [show (σ ((if (0 : Int) = 0 then 5 else 21) + a)) = (σ (5 + a)) from (by rw [if_pos rfl])]
  refine z_if_gt (pc := 6) (tgt := 18) E ⟨by omega, by omega⟩ dX0_hasLimit_6 (by decide) (fun h6 => ?_) (fun h6 => ?_)
  · refine z_iconst (pc := 18) E dX0_hasLimit_18 ?_
    refine lv_goto (pc := 19) (tgt := 23) E.1 E.2 dX0_hasLimit_19 (by decide) ?_
    exact z_retRz E hr rfl (congrArg iI (by first | exact (if_pos (by omega)).symm | exact (if_neg (by omega)).symm)) hlocks dX0_hasLimit_23
  · refine lv_aload_n (pc := 9) E.1 E.2 dX0_hasLimit_9 rfl (lv_at hl 0 rfl) ?_
    refine lv_iload_n (pc := 10) E.1 E.2 dX0_hasLimit_10 rfl (lv_at hl 1 rfl) ?_
    refine z_iconst (pc := 11) E dX0_hasLimit_11 ?_
    refine z_rVi (pc := 12) (As := [.int (iI a), .int (iI 1)]) (rest := []) E hml hown hts (mX0_limitOf lL G o σ a 1 hI (by omega) (Or.inr rfl)) (cwV 2 hts gX0_hasLimit_X0_limitOf rfl rfl rfl vdX0_limitOf ⟨Nat.le_of_ble_eq_true rfl, Nat.le_of_ble_eq_true rfl⟩) (oB.recv hK hM.1 rfl) hFO hK rfl hl.1 rfl dX0_hasLimit_12 hcs (Nat.le_of_ble_eq_true rfl) ?_
    rw [show (σ ((if (1 : Int) = 0 then 5 else 21) + a)) = (σ (21 + a)) from (by rw [if_neg (by decide)])]
    refine z_if_le (pc := 15) (tgt := 22) E ⟨by omega, by omega⟩ dX0_hasLimit_15 (by decide) (fun h15 => ?_) (fun h15 => ?_)
    · refine z_iconst (pc := 22) E dX0_hasLimit_22 ?_
      exact z_retRz E hr rfl (congrArg iI (by first | exact (if_pos (by omega)).symm | exact (if_neg (by omega)).symm)) hlocks dX0_hasLimit_23
    · refine z_iconst (pc := 18) E dX0_hasLimit_18 ?_
      refine lv_goto (pc := 19) (tgt := 23) E.1 E.2 dX0_hasLimit_19 (by decide) ?_
      exact z_retRz E hr rfl (congrArg iI (by first | exact (if_pos (by omega)).symm | exact (if_neg (by omega)).symm)) hlocks dX0_hasLimit_23
set_option maxHeartbeats 1000000 in
set_option maxRecDepth 100000 in
theorem mX6_projectOfFile (lL : Launch) (G : GG) (o : Nat → Nat) (σ : Int → Int) (f : Int) (hI : In σ) (hf : 0 ≤ f ∧ f < σ 3) : Met lL yX6_projectOfFile wsX6_projectOfFile ({ frames := 3, cells := 0, slots := 0, locals := 65 } : Room) (va_Pc [.ref (o 0), .int (iI f)] (fun U => ST G o σ U.heap ∧ KK G U)) (vp_Si (fun r => r = (iI (pjF σ (σ (189 + f)))))) 0 0 (fun _ => False) := by
  refine z_met (P := (fun H : Heap => ST G o σ H)) (by decide) rfl (Nat.le_of_ble_eq_true rfl) (fun pp ee ss mm below meth cC E hr hml hown hts hlocks hST hK ls hl => ?_)
  have hl : lv_has ls 2 [(0, .ref (o 0)), (1, .int (iI f))] := hl
  have hcs : 0 ≤ (({ frames := 3, cells := 0, slots := 0, locals := 65 } : Room)).cells ∧ 0 ≤ (({ frames := 3, cells := 0, slots := 0, locals := 65 } : Room)).slots := ⟨Nat.zero_le _, Nat.zero_le _⟩
  have hin6 : ∀ w ∈ wsX60, w ∈ wsX6_projectOfFile := fun w h => List.mem_cons_of_mem _ (List.mem_append_left _ (List.mem_append_left _ (List.mem_append_right _ (h))))
  have hF := hI.F
  have hMm := hI.M
  have hGn := hI.Gn
  have hTi := hI.ti
  have hGr := hI.gr
  refine lv_aload_n (pc := 0) E.1 E.2 dX6_projectOfFile_0 rfl (lv_at hl 0 rfl) ?_
  refine g6_0 (pc := 1) E hts hin6 hown hK hST.1 (hts _ (List.mem_of_getElem? (i := 1) rfl)) dX6_projectOfFile_1 ?_
  refine lv_aload_n (pc := 4) E.1 E.2 dX6_projectOfFile_4 rfl (lv_at hl 0 rfl) ?_
  refine g6_1 (pc := 5) E hts hin6 hown hK hST.1 (hts _ (List.mem_of_getElem? (i := 2) rfl)) dX6_projectOfFile_5 ?_
  refine lv_iload_n (pc := 8) E.1 E.2 dX6_projectOfFile_8 rfl (lv_at hl 1 rfl) ?_
  refine z_rVi (pc := 9) (As := [.int (iI f)]) (rest := [.ref (o 1)]) E hml hown hts (mX2_placeOf lL G (fun k => o (5 + k)) σ f hI (by omega)) (cwV 1 hts gX6_projectOfFile_X2_placeOf rfl rfl rfl vdX2_placeOf ⟨Nat.le_of_ble_eq_true rfl, Nat.le_of_ble_eq_true rfl⟩) (oB.recv hK hST.fio rfl) hST.fi hK rfl hl.1 rfl dX6_projectOfFile_9 hcs (Nat.le_of_ble_eq_true rfl) ?_
  rw [show (if 0 ≤ f ∧ f < σ 3 then σ (189 + f) else -1) = (σ (189 + f)) from (if_pos hf)]
  refine z_rVi (pc := 12) (As := [.int (iI (σ (189 + f)))]) (rest := []) E hml hown hts (mX3_projectOf lL G (fun k => o (1 + k)) σ (σ (189 + f)) hI (Or.inr (hI.fil hf.1 hf.2).1)) (cwV 1 hts gX6_projectOfFile_X3_projectOf rfl rfl rfl vdX3_projectOf ⟨Nat.le_of_ble_eq_true rfl, Nat.le_of_ble_eq_true rfl⟩) (oB.recv hK hST.foo rfl) hST.fo hK rfl hl.1 rfl dX6_projectOfFile_12 hcs (Nat.le_of_ble_eq_true rfl) ?_
  exact z_retRi E hr rfl hlocks dX6_projectOfFile_15
set_option maxHeartbeats 1000000 in
set_option maxRecDepth 100000 in
theorem mX6_countAnew (lL : Launch) (G : GG) (o : Nat → Nat) (σ : Int → Int) (p : Int) (b : Int) (hI : In σ) (hp : -1 ≤ p ∧ p ≤ 7) (hb : b = 0 ∨ b = 1) : Met lL yX6_countAnew wsX6_countAnew ({ frames := 4, cells := 0, slots := 0, locals := 86 } : Room) (va_Pc [.ref (o 0), .int (iI p), .int (iI b)] (fun U => ST G o σ U.heap ∧ KK G U)) (vp_Si (fun r => r = (iI (coS σ p b)))) 0 0 (fun _ => False) := by
  refine z_met (P := (fun H : Heap => ST G o σ H)) (by decide) rfl (Nat.le_of_ble_eq_true rfl) (fun pp ee ss mm below meth cC E hr hml hown hts hlocks hST hK ls hl => ?_)
  have hl : lv_has ls 5 [(0, .ref (o 0)), (1, .int (iI p)), (2, .int (iI b))] := hl
  have hcs : 0 ≤ (({ frames := 4, cells := 0, slots := 0, locals := 86 } : Room)).cells ∧ 0 ≤ (({ frames := 4, cells := 0, slots := 0, locals := 86 } : Room)).slots := ⟨Nat.zero_le _, Nat.zero_le _⟩
  have hin2 : ∀ w ∈ wsX20, w ∈ wsX6_countAnew := fun w h => List.mem_cons_of_mem _ (List.mem_append_left _ (List.mem_append_right _ (h)))
  have hin6 : ∀ w ∈ wsX60, w ∈ wsX6_countAnew := fun w h => List.mem_cons_of_mem _ (List.mem_append_left _ (List.mem_append_left _ (List.mem_append_right _ (h))))
  have hF := hI.F
  have hMm := hI.M
  have hGn := hI.Gn
  have hTi := hI.ti
  have hGr := hI.gr
  refine z_iconst (pc := 0) E dX6_countAnew_0 ?_
  refine lv_istore_n (pc := 1) (lv' := [(3, .int (iI 0)), (0, .ref (o 0)), (1, .int (iI p)), (2, .int (iI b))]) E.1 E.2 dX6_countAnew_1 rfl hl (by decide) rfl (fun ls hl => ?_)
  refine z_iconst (pc := 2) E dX6_countAnew_2 ?_
  refine lv_istore (pc := 3) (lv' := [(4, .int (iI 0)), (3, .int (iI 0)), (0, .ref (o 0)), (1, .int (iI p)), (2, .int (iI b))]) E.1 E.2 dX6_countAnew_3 hl (by decide) rfl (fun ls hl => ?_)
  suffices L5 : ∀ (nf : Nat), ∀ (a k : Int), (0 ≤ k ∧ k ≤ σ 3) → (a = cn (coP σ p b) k.toNat) → ((σ 3 - k).toNat) < nf → ∀ ls : Array Slot, lv_has ls 5 [(4, .int (iI k)), (3, .int (iI a)), (0, .ref (o 0)), (1, .int (iI p)), (2, .int (iI b))] → W pp lL ee ({ frames := 4, cells := 0, slots := 0, locals := 86 } : Room) ss mm [.ref (o 0), .int (iI p), .int (iI b)].toArray below meth cC ss.heap [] 0 0 (MQ below (vp_Si (fun r => r = (iI (coS σ p b)))) [.ref (o 0), .int (iI p), .int (iI b)].toArray ss 0 0 (fun _ => False)) (F0 mm 5 ls []) from L5 _ 0 0 (by omega) rfl (Nat.lt_succ_self _) ls (lv_sub hl [0, 1, 2, 3, 4] rfl)
  intro nfL5
  induction nfL5 with
  | zero => intro a k hk hn hmzL5; exact absurd hmzL5 (Nat.not_lt_zero _)
  | succ nfL5 ihL5 =>
    intro a k hk hn hmzL5 ls hl
    refine lv_iload (pc := 5) E.1 E.2 dX6_countAnew_5 (lv_at hl 0 rfl) ?_
    refine lv_aload_n (pc := 7) E.1 E.2 dX6_countAnew_7 rfl (lv_at hl 2 rfl) ?_
    refine g6_1 (pc := 8) E hts hin6 hown hK hST.1 (hts _ (List.mem_of_getElem? (i := 1) rfl)) dX6_countAnew_8 ?_
    refine g2_2 (pc := 11) E hts hin2 hown hK hST.fio (hts _ (List.mem_of_getElem? (i := 2) rfl)) dX6_countAnew_11 ?_
    refine z_icmp_ge (pc := 14) (tgt := 46) E ⟨by omega, by omega⟩ ⟨by omega, by omega⟩ dX6_countAnew_14 (by decide) (fun h14 => ?_) (fun h14 => ?_)
    · refine lv_iload_n (pc := 46) E.1 E.2 dX6_countAnew_46 rfl (lv_at hl 1 rfl) ?_
      exact z_retRi E hr (congrArg iI (by (rw [hn]; unfold coS; congr 2; omega))) hlocks dX6_countAnew_47
    · refine lv_aload_n (pc := 17) E.1 E.2 dX6_countAnew_17 rfl (lv_at hl 2 rfl) ?_
      refine lv_iload (pc := 18) E.1 E.2 dX6_countAnew_18 (lv_at hl 0 rfl) ?_
      refine z_rVi (pc := 20) (As := [.int (iI k)]) (rest := []) E hml hown hts (mX6_projectOfFile lL G o σ k hI (by omega)) (cwV 1 hts gX6_countAnew_X6_projectOfFile rfl rfl rfl vdX6_projectOfFile ⟨Nat.le_of_ble_eq_true rfl, Nat.le_of_ble_eq_true rfl⟩) (oB.recv hK hST.1 rfl) hST hK rfl hl.1 rfl dX6_countAnew_20 hcs (Nat.le_of_ble_eq_true rfl) ?_
      have hfk := hI.fil (k := k) hk.1 (by omega)
      have hpk := hI.pjr (f := σ (189 + k)) (Or.inr hfk.1)
      refine lv_iload_n (pc := 23) E.1 E.2 dX6_countAnew_23 rfl (lv_at hl 3 rfl) ?_
      refine z_icmp_ne (pc := 24) (tgt := 40) E ⟨by omega, by omega⟩ ⟨by omega, by omega⟩ dX6_countAnew_24 (by decide) (fun h24 => ?_) (fun h24 => ?_)
      · refine lv_iinc (pc := 40) (v := iI (k + 1)) (lv' := [(4, .int (iI (k + 1))), (3, .int (iI a)), (0, .ref (o 0)), (1, .int (iI p)), (2, .int (iI b))]) E.1 E.2 dX6_countAnew_40 hl (k := 0) rfl (iI_add _ _) (by decide) rfl (fun ls hl => ?_)
        refine lv_goto (pc := 43) (tgt := 5) E.1 E.2 dX6_countAnew_43 (by decide) ?_
        exact ihL5 a (k + 1) (by omega) (by rw [cn_s _ hk.1, ← hn]; unfold coP; first | (rw [if_pos h24]) | (rw [if_neg h24]; omega)) (by omega) ls (lv_sub hl [0, 1, 2, 3, 4] rfl)
      · refine lv_iload_n (pc := 27) E.1 E.2 dX6_countAnew_27 rfl (lv_at hl 1 rfl) ?_
        refine lv_aload_n (pc := 28) E.1 E.2 dX6_countAnew_28 rfl (lv_at hl 2 rfl) ?_
        refine g6_1 (pc := 29) E hts hin6 hown hK hST.1 (hts _ (List.mem_of_getElem? (i := 1) rfl)) dX6_countAnew_29 ?_
        refine lv_iload (pc := 32) E.1 E.2 dX6_countAnew_32 (lv_at hl 0 rfl) ?_
        refine lv_iload_n (pc := 34) E.1 E.2 dX6_countAnew_34 rfl (lv_at hl 4 rfl) ?_
        refine z_rVi (pc := 35) (As := [.int (iI k), .int (iI b)]) (rest := [.int (iI a)]) E hml hown hts (mX2_weightOf lL G (fun k => o (5 + k)) σ k b hI (by omega) (by omega)) (cwV 2 hts gX6_countAnew_X2_weightOf rfl rfl rfl vdX2_weightOf ⟨Nat.le_of_ble_eq_true rfl, Nat.le_of_ble_eq_true rfl⟩) (oB.recv hK hST.fio rfl) hST.fi hK rfl hl.1 rfl dX6_countAnew_35 hcs (Nat.le_of_ble_eq_true rfl) ?_
        refine z_iadd (pc := 38) E dX6_countAnew_38 ?_
        refine lv_istore_n (pc := 39) (lv' := [(3, .int (iI (a + (if b = 0 then σ (249 + k) else 1)))), (4, .int (iI k)), (0, .ref (o 0)), (1, .int (iI p)), (2, .int (iI b))]) E.1 E.2 dX6_countAnew_39 rfl hl (by decide) rfl (fun ls hl => ?_)
        refine lv_iinc (pc := 40) (v := iI (k + 1)) (lv' := [(4, .int (iI (k + 1))), (3, .int (iI (a + (if b = 0 then σ (249 + k) else 1)))), (0, .ref (o 0)), (1, .int (iI p)), (2, .int (iI b))]) E.1 E.2 dX6_countAnew_40 hl (k := 1) rfl (iI_add _ _) (by decide) rfl (fun ls hl => ?_)
        refine lv_goto (pc := 43) (tgt := 5) E.1 E.2 dX6_countAnew_43 (by decide) ?_
        exact ihL5 (a + (if b = 0 then σ (249 + k) else 1)) (k + 1) (by omega) (by rw [cn_s _ hk.1, ← hn]; unfold coP; first | (rw [if_pos h24]) | (rw [if_neg h24]; omega)) (by omega) ls (lv_sub hl [0, 1, 2, 3, 4] rfl)
set_option maxHeartbeats 1000000 in
set_option maxRecDepth 100000 in
theorem mX6_subtreeSum (lL : Launch) (G : GG) (o : Nat → Nat) (σ : Int → Int) (f : Int) (b : Int) (hI : In σ) (hf : 0 ≤ f ∧ f < σ 2) (hb : b = 0 ∨ b = 1) : Met lL yX6_subtreeSum wsX6_subtreeSum ({ frames := 3, cells := 0, slots := 0, locals := 66 } : Room) (va_Pc [.ref (o 0), .int (iI f), .int (iI b)] (fun U => ST G o σ U.heap ∧ KK G U)) (vp_Si (fun r => r = (iI (mbS σ f (1 - b))))) 0 0 (fun _ => False) := by
  refine z_met (P := (fun H : Heap => ST G o σ H)) (by decide) rfl (Nat.le_of_ble_eq_true rfl) (fun pp ee ss mm below meth cC E hr hml hown hts hlocks hST hK ls hl => ?_)
  have hl : lv_has ls 5 [(0, .ref (o 0)), (1, .int (iI f)), (2, .int (iI b))] := hl
  have hcs : 0 ≤ (({ frames := 3, cells := 0, slots := 0, locals := 66 } : Room)).cells ∧ 0 ≤ (({ frames := 3, cells := 0, slots := 0, locals := 66 } : Room)).slots := ⟨Nat.zero_le _, Nat.zero_le _⟩
  have hin2 : ∀ w ∈ wsX20, w ∈ wsX6_subtreeSum := fun w h => List.mem_cons_of_mem _ (List.mem_append_left _ (List.mem_append_right _ (h)))
  have hin6 : ∀ w ∈ wsX60, w ∈ wsX6_subtreeSum := fun w h => List.mem_cons_of_mem _ (List.mem_append_left _ (List.mem_append_left _ (List.mem_append_right _ (h))))
  have hF := hI.F
  have hMm := hI.M
  have hGn := hI.Gn
  have hTi := hI.ti
  have hGr := hI.gr
  refine z_iconst (pc := 0) E dX6_subtreeSum_0 ?_
  refine lv_istore_n (pc := 1) (lv' := [(3, .int (iI 0)), (0, .ref (o 0)), (1, .int (iI f)), (2, .int (iI b))]) E.1 E.2 dX6_subtreeSum_1 rfl hl (by decide) rfl (fun ls hl => ?_)
  refine z_iconst (pc := 2) E dX6_subtreeSum_2 ?_
  refine lv_istore (pc := 3) (lv' := [(4, .int (iI 0)), (3, .int (iI 0)), (0, .ref (o 0)), (1, .int (iI f)), (2, .int (iI b))]) E.1 E.2 dX6_subtreeSum_3 hl (by decide) rfl (fun ls hl => ?_)
  suffices L5 : ∀ (nf : Nat), ∀ (a k : Int), (0 ≤ k ∧ k ≤ σ 3) → (a = cn (mbP σ f (1 - b)) k.toNat) → ((σ 3 - k).toNat) < nf → ∀ ls : Array Slot, lv_has ls 5 [(4, .int (iI k)), (3, .int (iI a)), (0, .ref (o 0)), (1, .int (iI f)), (2, .int (iI b))] → W pp lL ee ({ frames := 3, cells := 0, slots := 0, locals := 66 } : Room) ss mm [.ref (o 0), .int (iI f), .int (iI b)].toArray below meth cC ss.heap [] 0 0 (MQ below (vp_Si (fun r => r = (iI (mbS σ f (1 - b))))) [.ref (o 0), .int (iI f), .int (iI b)].toArray ss 0 0 (fun _ => False)) (F0 mm 5 ls []) from L5 _ 0 0 (by omega) rfl (Nat.lt_succ_self _) ls (lv_sub hl [0, 1, 2, 3, 4] rfl)
  intro nfL5
  induction nfL5 with
  | zero => intro a k hk hn hmzL5; exact absurd hmzL5 (Nat.not_lt_zero _)
  | succ nfL5 ihL5 =>
    intro a k hk hn hmzL5 ls hl
    refine lv_iload (pc := 5) E.1 E.2 dX6_subtreeSum_5 (lv_at hl 0 rfl) ?_
    refine lv_aload_n (pc := 7) E.1 E.2 dX6_subtreeSum_7 rfl (lv_at hl 2 rfl) ?_
    refine g6_1 (pc := 8) E hts hin6 hown hK hST.1 (hts _ (List.mem_of_getElem? (i := 1) rfl)) dX6_subtreeSum_8 ?_
    refine g2_2 (pc := 11) E hts hin2 hown hK hST.fio (hts _ (List.mem_of_getElem? (i := 2) rfl)) dX6_subtreeSum_11 ?_
    refine z_icmp_ge (pc := 14) (tgt := 56) E ⟨by omega, by omega⟩ ⟨by omega, by omega⟩ dX6_subtreeSum_14 (by decide) (fun h14 => ?_) (fun h14 => ?_)
    · refine lv_iload_n (pc := 56) E.1 E.2 dX6_subtreeSum_56 rfl (lv_at hl 1 rfl) ?_
      exact z_retRi E hr (congrArg iI (by (rw [hn]; unfold mbS; congr 2; omega))) hlocks dX6_subtreeSum_57
    · refine lv_aload_n (pc := 17) E.1 E.2 dX6_subtreeSum_17 rfl (lv_at hl 2 rfl) ?_
      refine g6_0 (pc := 18) E hts hin6 hown hK hST.1 (hts _ (List.mem_of_getElem? (i := 3) rfl)) dX6_subtreeSum_18 ?_
      refine lv_aload_n (pc := 21) E.1 E.2 dX6_subtreeSum_21 rfl (lv_at hl 2 rfl) ?_
      refine g6_1 (pc := 22) E hts hin6 hown hK hST.1 (hts _ (List.mem_of_getElem? (i := 1) rfl)) dX6_subtreeSum_22 ?_
      refine lv_iload (pc := 25) E.1 E.2 dX6_subtreeSum_25 (lv_at hl 0 rfl) ?_
      refine z_rVi (pc := 27) (As := [.int (iI k)]) (rest := [.ref (o 1)]) E hml hown hts (mX2_placeOf lL G (fun k => o (5 + k)) σ k hI (by omega)) (cwV 1 hts gX6_subtreeSum_X2_placeOf rfl rfl rfl vdX2_placeOf ⟨Nat.le_of_ble_eq_true rfl, Nat.le_of_ble_eq_true rfl⟩) (oB.recv hK hST.fio rfl) hST.fi hK rfl hl.1 rfl dX6_subtreeSum_27 hcs (Nat.le_of_ble_eq_true rfl) ?_
      have hfk := hI.fil (k := k) hk.1 (by omega)
      rw [show (if 0 ≤ k ∧ k < σ 3 then σ (189 + k) else -1) = (σ (189 + k)) from (if_pos (show 0 ≤ k ∧ k < σ 3 from ⟨hk.1, by omega⟩))]
      refine lv_iload_n (pc := 30) E.1 E.2 dX6_subtreeSum_30 rfl (lv_at hl 3 rfl) ?_
      refine z_rVi (pc := 31) (As := [.int (iI (σ (189 + k))), .int (iI f)]) (rest := []) E hml hown hts (mX3_isInSubtree lL G (fun k => o (1 + k)) σ (σ (189 + k)) f hI (Or.inr hfk.1) (by omega)) (cwV 2 hts gX6_subtreeSum_X3_isInSubtree rfl rfl rfl vdX3_isInSubtree ⟨Nat.le_of_ble_eq_true rfl, Nat.le_of_ble_eq_true rfl⟩) (oB.recv hK hST.foo rfl) hST.fo hK rfl hl.1 rfl dX6_subtreeSum_31 hcs (Nat.le_of_ble_eq_true rfl) ?_
      refine z_ifb_eq (pc := 34) (tgt := 50) E dX6_subtreeSum_34 (by decide) (fun h34 => ?_) (fun h34 => ?_)
      · refine lv_iinc (pc := 50) (v := iI (k + 1)) (lv' := [(4, .int (iI (k + 1))), (3, .int (iI a)), (0, .ref (o 0)), (1, .int (iI f)), (2, .int (iI b))]) E.1 E.2 dX6_subtreeSum_50 hl (k := 0) rfl (iI_add _ _) (by decide) rfl (fun ls hl => ?_)
        refine lv_goto (pc := 53) (tgt := 5) E.1 E.2 dX6_subtreeSum_53 (by decide) ?_
        exact ihL5 a (k + 1) (by omega) (by rw [cn_s _ hk.1, ← hn]; unfold mbP; first | (rw [if_pos h34]; congr 1; rcases hb with q | q <;> subst q <;> rfl) | (rw [if_neg h34]; omega)) (by omega) ls (lv_sub hl [0, 1, 2, 3, 4] rfl)
      · refine lv_iload_n (pc := 37) E.1 E.2 dX6_subtreeSum_37 rfl (lv_at hl 1 rfl) ?_
        refine lv_aload_n (pc := 38) E.1 E.2 dX6_subtreeSum_38 rfl (lv_at hl 2 rfl) ?_
        refine g6_1 (pc := 39) E hts hin6 hown hK hST.1 (hts _ (List.mem_of_getElem? (i := 1) rfl)) dX6_subtreeSum_39 ?_
        refine lv_iload (pc := 42) E.1 E.2 dX6_subtreeSum_42 (lv_at hl 0 rfl) ?_
        refine lv_iload_n (pc := 44) E.1 E.2 dX6_subtreeSum_44 rfl (lv_at hl 4 rfl) ?_
        refine z_rVi (pc := 45) (As := [.int (iI k), .int (iI b)]) (rest := [.int (iI a)]) E hml hown hts (mX2_weightOf lL G (fun k => o (5 + k)) σ k b hI (by omega) (by omega)) (cwV 2 hts gX6_subtreeSum_X2_weightOf rfl rfl rfl vdX2_weightOf ⟨Nat.le_of_ble_eq_true rfl, Nat.le_of_ble_eq_true rfl⟩) (oB.recv hK hST.fio rfl) hST.fi hK rfl hl.1 rfl dX6_subtreeSum_45 hcs (Nat.le_of_ble_eq_true rfl) ?_
        refine z_iadd (pc := 48) E dX6_subtreeSum_48 ?_
        refine lv_istore_n (pc := 49) (lv' := [(3, .int (iI (a + (if b = 0 then σ (249 + k) else 1)))), (4, .int (iI k)), (0, .ref (o 0)), (1, .int (iI f)), (2, .int (iI b))]) E.1 E.2 dX6_subtreeSum_49 rfl hl (by decide) rfl (fun ls hl => ?_)
        refine lv_iinc (pc := 50) (v := iI (k + 1)) (lv' := [(4, .int (iI (k + 1))), (3, .int (iI (a + (if b = 0 then σ (249 + k) else 1)))), (0, .ref (o 0)), (1, .int (iI f)), (2, .int (iI b))]) E.1 E.2 dX6_subtreeSum_50 hl (k := 1) rfl (iI_add _ _) (by decide) rfl (fun ls hl => ?_)
        refine lv_goto (pc := 53) (tgt := 5) E.1 E.2 dX6_subtreeSum_53 (by decide) ?_
        exact ihL5 (a + (if b = 0 then σ (249 + k) else 1)) (k + 1) (by omega) (by rw [cn_s _ hk.1, ← hn]; unfold mbP; first | (rw [if_pos h34]; congr 1; rcases hb with q | q <;> subst q <;> rfl) | (rw [if_neg h34]; omega)) (by omega) ls (lv_sub hl [0, 1, 2, 3, 4] rfl)
set_option maxHeartbeats 1000000 in
set_option maxRecDepth 100000 in
theorem mX6_openSum (lL : Launch) (G : GG) (o : Nat → Nat) (σ : Int → Int) (f : Int) (b : Int) (hI : In σ) (hf : 0 ≤ f ∧ f < σ 2) (hb : b = 0 ∨ b = 1) : Met lL yX6_openSum wsX6_openSum ({ frames := 3, cells := 0, slots := 0, locals := 66 } : Room) (va_Pc [.ref (o 0), .int (iI f), .int (iI b)] (fun U => ST G o σ U.heap ∧ KK G U)) (vp_Si (fun r => r = (iI (opS σ f (1 - b))))) 0 0 (fun _ => False) := by
  refine z_met (P := (fun H : Heap => ST G o σ H)) (by decide) rfl (Nat.le_of_ble_eq_true rfl) (fun pp ee ss mm below meth cC E hr hml hown hts hlocks hST hK ls hl => ?_)
  have hl : lv_has ls 5 [(0, .ref (o 0)), (1, .int (iI f)), (2, .int (iI b))] := hl
  have hcs : 0 ≤ (({ frames := 3, cells := 0, slots := 0, locals := 66 } : Room)).cells ∧ 0 ≤ (({ frames := 3, cells := 0, slots := 0, locals := 66 } : Room)).slots := ⟨Nat.zero_le _, Nat.zero_le _⟩
  have hin2 : ∀ w ∈ wsX20, w ∈ wsX6_openSum := fun w h => List.mem_cons_of_mem _ (List.mem_append_left _ (List.mem_append_right _ (h)))
  have hin6 : ∀ w ∈ wsX60, w ∈ wsX6_openSum := fun w h => List.mem_cons_of_mem _ (List.mem_append_left _ (List.mem_append_left _ (List.mem_append_right _ (h))))
  have hF := hI.F
  have hMm := hI.M
  have hGn := hI.Gn
  have hTi := hI.ti
  have hGr := hI.gr
  refine z_iconst (pc := 0) E dX6_openSum_0 ?_
  refine lv_istore_n (pc := 1) (lv' := [(3, .int (iI 0)), (0, .ref (o 0)), (1, .int (iI f)), (2, .int (iI b))]) E.1 E.2 dX6_openSum_1 rfl hl (by decide) rfl (fun ls hl => ?_)
  refine z_iconst (pc := 2) E dX6_openSum_2 ?_
  refine lv_istore (pc := 3) (lv' := [(4, .int (iI 0)), (3, .int (iI 0)), (0, .ref (o 0)), (1, .int (iI f)), (2, .int (iI b))]) E.1 E.2 dX6_openSum_3 hl (by decide) rfl (fun ls hl => ?_)
  suffices L5 : ∀ (nf : Nat), ∀ (a k : Int), (0 ≤ k ∧ k ≤ σ 3) → (a = cn (opP σ f (1 - b)) k.toNat) → ((σ 3 - k).toNat) < nf → ∀ ls : Array Slot, lv_has ls 5 [(4, .int (iI k)), (3, .int (iI a)), (0, .ref (o 0)), (1, .int (iI f)), (2, .int (iI b))] → W pp lL ee ({ frames := 3, cells := 0, slots := 0, locals := 66 } : Room) ss mm [.ref (o 0), .int (iI f), .int (iI b)].toArray below meth cC ss.heap [] 0 0 (MQ below (vp_Si (fun r => r = (iI (opS σ f (1 - b))))) [.ref (o 0), .int (iI f), .int (iI b)].toArray ss 0 0 (fun _ => False)) (F0 mm 5 ls []) from L5 _ 0 0 (by omega) rfl (Nat.lt_succ_self _) ls (lv_sub hl [0, 1, 2, 3, 4] rfl)
  intro nfL5
  induction nfL5 with
  | zero => intro a k hk hn hmzL5; exact absurd hmzL5 (Nat.not_lt_zero _)
  | succ nfL5 ihL5 =>
    intro a k hk hn hmzL5 ls hl
    refine lv_iload (pc := 5) E.1 E.2 dX6_openSum_5 (lv_at hl 0 rfl) ?_
    refine lv_aload_n (pc := 7) E.1 E.2 dX6_openSum_7 rfl (lv_at hl 2 rfl) ?_
    refine g6_1 (pc := 8) E hts hin6 hown hK hST.1 (hts _ (List.mem_of_getElem? (i := 1) rfl)) dX6_openSum_8 ?_
    refine g2_2 (pc := 11) E hts hin2 hown hK hST.fio (hts _ (List.mem_of_getElem? (i := 2) rfl)) dX6_openSum_11 ?_
    refine z_icmp_ge (pc := 14) (tgt := 56) E ⟨by omega, by omega⟩ ⟨by omega, by omega⟩ dX6_openSum_14 (by decide) (fun h14 => ?_) (fun h14 => ?_)
    · refine lv_iload_n (pc := 56) E.1 E.2 dX6_openSum_56 rfl (lv_at hl 1 rfl) ?_
      exact z_retRi E hr (congrArg iI (by (rw [hn]; unfold opS; congr 2; omega))) hlocks dX6_openSum_57
    · refine lv_aload_n (pc := 17) E.1 E.2 dX6_openSum_17 rfl (lv_at hl 2 rfl) ?_
      refine g6_0 (pc := 18) E hts hin6 hown hK hST.1 (hts _ (List.mem_of_getElem? (i := 3) rfl)) dX6_openSum_18 ?_
      refine lv_aload_n (pc := 21) E.1 E.2 dX6_openSum_21 rfl (lv_at hl 2 rfl) ?_
      refine g6_1 (pc := 22) E hts hin6 hown hK hST.1 (hts _ (List.mem_of_getElem? (i := 1) rfl)) dX6_openSum_22 ?_
      refine lv_iload (pc := 25) E.1 E.2 dX6_openSum_25 (lv_at hl 0 rfl) ?_
      refine z_rVi (pc := 27) (As := [.int (iI k)]) (rest := [.ref (o 1)]) E hml hown hts (mX2_placeOf lL G (fun k => o (5 + k)) σ k hI (by omega)) (cwV 1 hts gX6_openSum_X2_placeOf rfl rfl rfl vdX2_placeOf ⟨Nat.le_of_ble_eq_true rfl, Nat.le_of_ble_eq_true rfl⟩) (oB.recv hK hST.fio rfl) hST.fi hK rfl hl.1 rfl dX6_openSum_27 hcs (Nat.le_of_ble_eq_true rfl) ?_
      have hfk := hI.fil (k := k) hk.1 (by omega)
      rw [show (if 0 ≤ k ∧ k < σ 3 then σ (189 + k) else -1) = (σ (189 + k)) from (if_pos (show 0 ≤ k ∧ k < σ 3 from ⟨hk.1, by omega⟩))]
      refine lv_iload_n (pc := 30) E.1 E.2 dX6_openSum_30 rfl (lv_at hl 3 rfl) ?_
      refine z_rVi (pc := 31) (As := [.int (iI (σ (189 + k))), .int (iI f)]) (rest := []) E hml hown hts (mX3_isOpenTo lL G (fun k => o (1 + k)) σ (σ (189 + k)) f hI (Or.inr hfk.1) (by omega)) (cwV 2 hts gX6_openSum_X3_isOpenTo rfl rfl rfl vdX3_isOpenTo ⟨Nat.le_of_ble_eq_true rfl, Nat.le_of_ble_eq_true rfl⟩) (oB.recv hK hST.foo rfl) hST.fo hK rfl hl.1 rfl dX6_openSum_31 hcs (Nat.le_of_ble_eq_true rfl) ?_
      refine z_ifb_eq (pc := 34) (tgt := 50) E dX6_openSum_34 (by decide) (fun h34 => ?_) (fun h34 => ?_)
      · refine lv_iinc (pc := 50) (v := iI (k + 1)) (lv' := [(4, .int (iI (k + 1))), (3, .int (iI a)), (0, .ref (o 0)), (1, .int (iI f)), (2, .int (iI b))]) E.1 E.2 dX6_openSum_50 hl (k := 0) rfl (iI_add _ _) (by decide) rfl (fun ls hl => ?_)
        refine lv_goto (pc := 53) (tgt := 5) E.1 E.2 dX6_openSum_53 (by decide) ?_
        exact ihL5 a (k + 1) (by omega) (by rw [cn_s _ hk.1, ← hn]; unfold opP; first | (rw [if_pos h34]; congr 1; rcases hb with q | q <;> subst q <;> rfl) | (rw [if_neg h34]; omega)) (by omega) ls (lv_sub hl [0, 1, 2, 3, 4] rfl)
      · refine lv_iload_n (pc := 37) E.1 E.2 dX6_openSum_37 rfl (lv_at hl 1 rfl) ?_
        refine lv_aload_n (pc := 38) E.1 E.2 dX6_openSum_38 rfl (lv_at hl 2 rfl) ?_
        refine g6_1 (pc := 39) E hts hin6 hown hK hST.1 (hts _ (List.mem_of_getElem? (i := 1) rfl)) dX6_openSum_39 ?_
        refine lv_iload (pc := 42) E.1 E.2 dX6_openSum_42 (lv_at hl 0 rfl) ?_
        refine lv_iload_n (pc := 44) E.1 E.2 dX6_openSum_44 rfl (lv_at hl 4 rfl) ?_
        refine z_rVi (pc := 45) (As := [.int (iI k), .int (iI b)]) (rest := [.int (iI a)]) E hml hown hts (mX2_weightOf lL G (fun k => o (5 + k)) σ k b hI (by omega) (by omega)) (cwV 2 hts gX6_openSum_X2_weightOf rfl rfl rfl vdX2_weightOf ⟨Nat.le_of_ble_eq_true rfl, Nat.le_of_ble_eq_true rfl⟩) (oB.recv hK hST.fio rfl) hST.fi hK rfl hl.1 rfl dX6_openSum_45 hcs (Nat.le_of_ble_eq_true rfl) ?_
        refine z_iadd (pc := 48) E dX6_openSum_48 ?_
        refine lv_istore_n (pc := 49) (lv' := [(3, .int (iI (a + (if b = 0 then σ (249 + k) else 1)))), (4, .int (iI k)), (0, .ref (o 0)), (1, .int (iI f)), (2, .int (iI b))]) E.1 E.2 dX6_openSum_49 rfl hl (by decide) rfl (fun ls hl => ?_)
        refine lv_iinc (pc := 50) (v := iI (k + 1)) (lv' := [(4, .int (iI (k + 1))), (3, .int (iI (a + (if b = 0 then σ (249 + k) else 1)))), (0, .ref (o 0)), (1, .int (iI f)), (2, .int (iI b))]) E.1 E.2 dX6_openSum_50 hl (k := 1) rfl (iI_add _ _) (by decide) rfl (fun ls hl => ?_)
        refine lv_goto (pc := 53) (tgt := 5) E.1 E.2 dX6_openSum_53 (by decide) ?_
        exact ihL5 (a + (if b = 0 then σ (249 + k) else 1)) (k + 1) (by omega) (by rw [cn_s _ hk.1, ← hn]; unfold opP; first | (rw [if_pos h34]; congr 1; rcases hb with q | q <;> subst q <;> rfl) | (rw [if_neg h34]; omega)) (by omega) ls (lv_sub hl [0, 1, 2, 3, 4] rfl)
set_option maxHeartbeats 1000000 in
set_option maxRecDepth 100000 in
theorem mX6_graceEnd (lL : Launch) (G : GG) (o : Nat → Nat) (σ : Int → Int) (p : Int) (k : Int) (hI : In σ) (hp : 0 ≤ p ∧ p ≤ 7) (hk : k = 0 ∨ k = 1) : Met lL yX6_graceEnd wsX6_graceEnd ({ frames := 1, cells := 0, slots := 0, locals := 21 } : Room) (va_Pc [.ref (o 0), .int (iI p), .int (iI k)] (fun U => ST G o σ U.heap ∧ KK G U)) (vp_Si (fun r => r = (iI (geS σ p k)))) 0 0 (fun _ => False) := by
  refine z_met (P := (fun H : Heap => ST G o σ H)) (by decide) rfl (Nat.le_of_ble_eq_true rfl) (fun pp ee ss mm below meth cC E hr hml hown hts hlocks hST hK ls hl => ?_)
  have hl : lv_has ls 4 [(0, .ref (o 0)), (1, .int (iI p)), (2, .int (iI k))] := hl
  have hcs : 0 ≤ (({ frames := 1, cells := 0, slots := 0, locals := 21 } : Room)).cells ∧ 0 ≤ (({ frames := 1, cells := 0, slots := 0, locals := 21 } : Room)).slots := ⟨Nat.zero_le _, Nat.zero_le _⟩
  have hin6 : ∀ w ∈ wsX60, w ∈ wsX6_graceEnd := fun w h => List.mem_cons_of_mem _ (List.mem_append_left _ (List.mem_append_right _ (h)))
  have hF := hI.F
  have hMm := hI.M
  have hGn := hI.Gn
  have hTi := hI.ti
  have hGr := hI.gr
  refine lv_aload_n (pc := 0) E.1 E.2 dX6_graceEnd_0 rfl (lv_at hl 0 rfl) ?_
  refine g6_2 (pc := 1) E hts hin6 hown hK hST.1 (hts _ (List.mem_of_getElem? (i := 1) rfl)) dX6_graceEnd_1 ?_
  refine lv_iload_n (pc := 4) E.1 E.2 dX6_graceEnd_4 rfl (lv_at hl 1 rfl) ?_
  refine lv_iload_n (pc := 5) E.1 E.2 dX6_graceEnd_5 rfl (lv_at hl 2 rfl) ?_
  refine z_rSNi (pc := 6) (P := fun _ => True) (As := [.int (iI p), .int (iI k)]) (rest := [.ref (o 8)]) E hml hown hts (mX7_accountOf lL G p k) ⟨va_cnB 2 hts gX6_graceEnd_X7_accountOf_n98 rfl rfl rfl hK.2.2.2.2.2.2.2.2.1 (hts _ (List.mem_of_getElem? (i := 4) rfl)) vdX7_accountOf.2 ⟨Nat.le_of_ble_eq_true rfl, Nat.le_of_ble_eq_true rfl⟩, (hts _ (List.mem_of_getElem? (i := 3) rfl)), trivial⟩ trivial hK rfl hl.1 rfl dX6_graceEnd_6 hcs (Nat.le_of_ble_eq_true rfl) ?_
  have hac := hI.acc (k := 2 * p + k) (by omega) (by omega)
  refine z_rVi (pc := 9) (As := [.int (iI (2 * p + k))]) (rest := []) E hml hown hts (mX0_clockOf lL G (fun k => o (8 + k)) σ (2 * p + k)  (by omega)) (cwV 1 hts gX6_graceEnd_X0_clockOf rfl rfl rfl vdX0_clockOf ⟨Nat.le_of_ble_eq_true rfl, Nat.le_of_ble_eq_true rfl⟩) (oB.recv hK hST.aco rfl) hST.ac hK rfl hl.1 rfl dX6_graceEnd_9 hcs (Nat.le_of_ble_eq_true rfl) ?_
  rw [show (if 0 ≤ (2 * p + k) ∧ (2 * p + k) < 16 then σ (53 + (2 * p + k)) else -1) = (σ (53 + (2 * p + k))) from (if_pos (by omega))]
  refine lv_istore_n (pc := 12) (lv' := [(3, .int (iI (σ (53 + (2 * p + k))))), (0, .ref (o 0)), (1, .int (iI p)), (2, .int (iI k))]) E.1 E.2 dX6_graceEnd_12 rfl hl (by decide) rfl (fun ls hl => ?_)
  refine lv_iload_n (pc := 13) E.1 E.2 dX6_graceEnd_13 rfl (lv_at hl 0 rfl) ?_
  refine z_iconst (pc := 14) E dX6_graceEnd_14 ?_
  refine z_icmp_ne (pc := 15) (tgt := 22) E ⟨by omega, by omega⟩ (by decide) dX6_graceEnd_15 (by decide) (fun h15 => ?_) (fun h15 => ?_)
  · refine lv_iload_n (pc := 22) E.1 E.2 dX6_graceEnd_22 rfl (lv_at hl 0 rfl) ?_
    refine lv_aload_n (pc := 23) E.1 E.2 dX6_graceEnd_23 rfl (lv_at hl 1 rfl) ?_
    refine g6_5 (pc := 24) E hts hin6 hown hK hST.1 (hts _ (List.mem_of_getElem? (i := 2) rfl)) dX6_graceEnd_24 ?_
    refine z_iadd (pc := 27) E dX6_graceEnd_27 ?_
    exact z_retRi E hr (congrArg iI (by unfold geS; first | (rw [if_pos h15]) | (rw [if_neg h15]))) hlocks dX6_graceEnd_28
  · refine z_iconst (pc := 18) E dX6_graceEnd_18 ?_
    refine lv_goto (pc := 19) (tgt := 28) E.1 E.2 dX6_graceEnd_19 (by decide) ?_
    exact z_retRi E hr (congrArg iI (by unfold geS; first | (rw [if_pos h15]) | (rw [if_neg h15]))) hlocks dX6_graceEnd_28
