theorem vdJ0_coder_7d493 : yJ0_coder_7d493.cls = RJ0 ∧ yJ0_coder_7d493.cls ≠ "java/lang/invoke/MethodHandle" ∧ yJ0_coder_7d493.cls ≠ "java/lang/invoke/VarHandle" ∧ (parseMethodDescriptor yJ0_coder_7d493.desc).map (fun d => d.parameters.length) = some 0 := by decide +kernel
theorem vdJ0_isLatin1_aae02 : yJ0_isLatin1_aae02.cls = RJ0 ∧ yJ0_isLatin1_aae02.cls ≠ "java/lang/invoke/MethodHandle" ∧ yJ0_isLatin1_aae02.cls ≠ "java/lang/invoke/VarHandle" ∧ (parseMethodDescriptor yJ0_isLatin1_aae02.desc).map (fun d => d.parameters.length) = some 0 := by decide +kernel
theorem vdJ0_length_8abf5 : yJ0_length_8abf5.cls = RJ0 ∧ yJ0_length_8abf5.cls ≠ "java/lang/invoke/MethodHandle" ∧ yJ0_length_8abf5.cls ≠ "java/lang/invoke/VarHandle" ∧ (parseMethodDescriptor yJ0_length_8abf5.desc).map (fun d => d.parameters.length) = some 0 := by decide +kernel
theorem vdJ3_checkIndex_8e157 : yJ3_checkIndex_8e157.cls = RJ3 ∧ yJ3_checkIndex_8e157.cls ≠ "java/lang/invoke/MethodHandle" ∧ yJ3_checkIndex_8e157.cls ≠ "java/lang/invoke/VarHandle" ∧ (parseMethodDescriptor yJ3_checkIndex_8e157.desc).map (fun d => d.parameters.length) = some 3 := by decide +kernel
theorem vdJ0_checkIndex_df160 : yJ0_checkIndex_df160.cls = RJ0 ∧ yJ0_checkIndex_df160.cls ≠ "java/lang/invoke/MethodHandle" ∧ yJ0_checkIndex_df160.cls ≠ "java/lang/invoke/VarHandle" ∧ (parseMethodDescriptor yJ0_checkIndex_df160.desc).map (fun d => d.parameters.length) = some 2 := by decide +kernel
theorem vdJ1_charAt_3b067 : yJ1_charAt_3b067.cls = RJ1 ∧ yJ1_charAt_3b067.cls ≠ "java/lang/invoke/MethodHandle" ∧ yJ1_charAt_3b067.cls ≠ "java/lang/invoke/VarHandle" ∧ (parseMethodDescriptor yJ1_charAt_3b067.desc).map (fun d => d.parameters.length) = some 2 := by decide +kernel
theorem vdJ0_charAt_5068e : yJ0_charAt_5068e.cls = RJ0 ∧ yJ0_charAt_5068e.cls ≠ "java/lang/invoke/MethodHandle" ∧ yJ0_charAt_5068e.cls ≠ "java/lang/invoke/VarHandle" ∧ (parseMethodDescriptor yJ0_charAt_5068e.desc).map (fun d => d.parameters.length) = some 1 := by decide +kernel
theorem vdX8_isWord : yX8_isWord.cls = RX8 ∧ yX8_isWord.cls ≠ "java/lang/invoke/MethodHandle" ∧ yX8_isWord.cls ≠ "java/lang/invoke/VarHandle" ∧ (parseMethodDescriptor yX8_isWord.desc).map (fun d => d.parameters.length) = some 1 := by decide +kernel
set_option maxHeartbeats 1000000 in
set_option maxRecDepth 100000 in
theorem mJ0_coder_7d493 (lL : Launch) (G : GG) (aK aV : Nat → Nat) (AK : Nat → Prop) (i : Nat) (hi : i < 5) : Met lL yJ0_coder_7d493 wsJ0_coder_7d493 ({ frames := 0, cells := 0, slots := 0, locals := 0 } : Room) (va_Pc [.ref (aK i)] (fun U => True ∧ KK G U ∧ KS aK aV AK U U.heap)) (vp_Si (fun r => r = (iI 0))) 0 0 (fun _ => False) := by
  refine z_metS (aK := aK) (aV := aV) (AK := AK) (P := (fun H : Heap => True)) (by decide +kernel) rfl (Nat.le_of_ble_eq_true rfl) (fun pp ee ss mm below meth cC E hr hml hown hts hlocks hM hK ls hl => ?_)
  have hl : lv_has ls 1 [(0, .ref (aK i))] := hl
  have hcs : 0 ≤ (({ frames := 0, cells := 0, slots := 0, locals := 0 } : Room)).cells ∧ 0 ≤ (({ frames := 0, cells := 0, slots := 0, locals := 0 } : Room)).slots := ⟨Nat.zero_le _, Nat.zero_le _⟩
  have hKS := hK.2
  have hK := hK.1
  have hsl := sl_b hi
  refine va_gets (pc := 0) E.1 E.2 (sz_comp hKS.2.1) va_S.rf hown (hts _ (List.mem_of_getElem? (i := 1) rfl)) (fun x h => h) dJ0_coder_7d493_0 ?_
  refine z_if_eq (pc := 3) (tgt := 13) E (by decide) dJ0_coder_7d493_3 (by decide) (fun h3 => ?_) (fun h3 => ?_)
  · exact absurd h3 (by decide)
  · refine lv_aload_n (pc := 6) E.1 E.2 dJ0_coder_7d493_6 rfl (lv_at hl 0 rfl) ?_
    refine vk_getf (pc := 7) E.1 E.2 (sz_coder (hKS.1.1 i hi).2.1) va_S.rf hown (hts _ (List.mem_of_getElem? (i := 2) rfl)) (fun x h => h) dJ0_coder_7d493_7 ?_
    refine lv_goto (pc := 10) (tgt := 14) E.1 E.2 dJ0_coder_7d493_10 (by decide) ?_
    exact z_retRb E hr rfl rfl hlocks dJ0_coder_7d493_14
set_option maxHeartbeats 1000000 in
set_option maxRecDepth 100000 in
theorem mJ0_isLatin1_aae02 (lL : Launch) (G : GG) (aK aV : Nat → Nat) (AK : Nat → Prop) (i : Nat) (hi : i < 5) : Met lL yJ0_isLatin1_aae02 wsJ0_isLatin1_aae02 ({ frames := 0, cells := 0, slots := 0, locals := 0 } : Room) (va_Pc [.ref (aK i)] (fun U => True ∧ KK G U ∧ KS aK aV AK U U.heap)) (vp_Si (fun r => r = (iI 1))) 0 0 (fun _ => False) := by
  refine z_metS (aK := aK) (aV := aV) (AK := AK) (P := (fun H : Heap => True)) (by decide +kernel) rfl (Nat.le_of_ble_eq_true rfl) (fun pp ee ss mm below meth cC E hr hml hown hts hlocks hM hK ls hl => ?_)
  have hl : lv_has ls 1 [(0, .ref (aK i))] := hl
  have hcs : 0 ≤ (({ frames := 0, cells := 0, slots := 0, locals := 0 } : Room)).cells ∧ 0 ≤ (({ frames := 0, cells := 0, slots := 0, locals := 0 } : Room)).slots := ⟨Nat.zero_le _, Nat.zero_le _⟩
  have hKS := hK.2
  have hK := hK.1
  have hsl := sl_b hi
  refine va_gets (pc := 0) E.1 E.2 (sz_comp hKS.2.1) va_S.rf hown (hts _ (List.mem_of_getElem? (i := 1) rfl)) (fun x h => h) dJ0_isLatin1_aae02_0 ?_
  refine z_if_eq (pc := 3) (tgt := 17) E (by decide) dJ0_isLatin1_aae02_3 (by decide) (fun h3 => ?_) (fun h3 => ?_)
  · exact absurd h3 (by decide)
  · refine lv_aload_n (pc := 6) E.1 E.2 dJ0_isLatin1_aae02_6 rfl (lv_at hl 0 rfl) ?_
    refine vk_getf (pc := 7) E.1 E.2 (sz_coder (hKS.1.1 i hi).2.1) va_S.rf hown (hts _ (List.mem_of_getElem? (i := 2) rfl)) (fun x h => h) dJ0_isLatin1_aae02_7 ?_
    refine z_if_ne (pc := 10) (tgt := 17) E (by decide) dJ0_isLatin1_aae02_10 (by decide) (fun h10 => ?_) (fun h10 => ?_)
    · exact absurd h10 (by decide)
    · refine z_iconst (pc := 13) E dJ0_isLatin1_aae02_13 ?_
      refine lv_goto (pc := 14) (tgt := 18) E.1 E.2 dJ0_isLatin1_aae02_14 (by decide) ?_
      exact z_retRz E hr rfl rfl hlocks dJ0_isLatin1_aae02_18
set_option maxHeartbeats 1000000 in
set_option maxRecDepth 100000 in
theorem mJ0_length_8abf5 (lL : Launch) (G : GG) (aK aV : Nat → Nat) (AK : Nat → Prop) (i : Nat) (hi : i < 5) : Met lL yJ0_length_8abf5 wsJ0_length_8abf5 ({ frames := 1, cells := 0, slots := 0, locals := 20 } : Room) (va_Pc [.ref (aK i)] (fun U => True ∧ KK G U ∧ KS aK aV AK U U.heap)) (vp_Si (fun r => r = (iI (sl i)))) 0 0 (fun _ => False) := by
  refine z_metS (aK := aK) (aV := aV) (AK := AK) (P := (fun H : Heap => True)) (by decide +kernel) rfl (Nat.le_of_ble_eq_true rfl) (fun pp ee ss mm below meth cC E hr hml hown hts hlocks hM hK ls hl => ?_)
  have hl : lv_has ls 1 [(0, .ref (aK i))] := hl
  have hcs : 0 ≤ (({ frames := 1, cells := 0, slots := 0, locals := 20 } : Room)).cells ∧ 0 ≤ (({ frames := 1, cells := 0, slots := 0, locals := 20 } : Room)).slots := ⟨Nat.zero_le _, Nat.zero_le _⟩
  have hKS := hK.2
  have hK := hK.1
  have hsl := sl_b hi
  refine lv_aload_n (pc := 0) E.1 E.2 dJ0_length_8abf5_0 rfl (lv_at hl 0 rfl) ?_
  refine vk_getf (pc := 1) E.1 E.2 (hKS.1.1 i hi).2.2.1 va_S.rf hown (hts _ (List.mem_of_getElem? (i := 1) rfl)) (fun x h => h) dJ0_length_8abf5_1 ?_
  refine va_tlen (pc := 4) E.1 E.2 (hKS.1.1 i hi).2.2.2 va_S.rf (sz_len hi) dJ0_length_8abf5_4 ?_
  refine lv_aload_n (pc := 5) E.1 E.2 dJ0_length_8abf5_5 rfl (lv_at hl 0 rfl) ?_
  refine zs_rVi (pc := 6) (P := fun _ => True) (As := []) (rest := [.int (iI (sl i))]) E hml hown hts (mJ0_coder_7d493 lL G aK aV AK i hi) (cwV 0 hts gJ0_length_8abf5_J0_coder_7d493 rfl rfl rfl vdJ0_coder_7d493 ⟨Nat.le_of_ble_eq_true rfl, Nat.le_of_ble_eq_true rfl⟩) (vk_recv hKS.1 hi va_S.rf) trivial (And.intro hK hKS) rfl hl.1 rfl dJ0_length_8abf5_6 hcs (Nat.le_of_ble_eq_true rfl) ?_
  refine z_ishr (pc := 9) (n := 0) E ⟨by omega, by omega⟩ (by decide) dJ0_length_8abf5_9 ?_
  rw [show sl i / ((2 ^ 0 : Nat) : Int) = sl i from Int.ediv_one _]
  exact z_retRi E hr rfl hlocks dJ0_length_8abf5_10
set_option maxHeartbeats 1000000 in
set_option maxRecDepth 100000 in
theorem mJ3_checkIndex_8e157 (lL : Launch) (G : GG) (k n : Int) (f : Nat) (hk : 0 ≤ k ∧ k < n) (hn : n < 2147483648) : Met lL yJ3_checkIndex_8e157 wsJ3_checkIndex_8e157 ({ frames := 0, cells := 0, slots := 0, locals := 0 } : Room) (va_Pc [.int (iI k), .int (iI n), .ref f] (fun U => True ∧ KK G U)) (vp_Si (fun r => r = (iI k))) 0 0 (fun _ => False) := by
  refine z_metF (P := (fun H : Heap => True)) (by decide +kernel) rfl (Nat.le_of_ble_eq_true rfl) (fun pp ee ss mm below meth cC E hr hml hown hts hlocks hM hK ls hl => ?_)
  have hl : lv_has ls 3 [(0, .int (iI k)), (1, .int (iI n)), (2, .ref f)] := hl
  have hcs : 0 ≤ (({ frames := 0, cells := 0, slots := 0, locals := 0 } : Room)).cells ∧ 0 ≤ (({ frames := 0, cells := 0, slots := 0, locals := 0 } : Room)).slots := ⟨Nat.zero_le _, Nat.zero_le _⟩
  refine lv_iload_n (pc := 0) E.1 E.2 dJ3_checkIndex_8e157_0 rfl (lv_at hl 0 rfl) ?_
  refine z_if_lt (pc := 1) (tgt := 9) E ⟨by omega, by omega⟩ dJ3_checkIndex_8e157_1 (by decide) (fun h1 => ?_) (fun h1 => ?_)
  · exact absurd h1 (by omega)
  · refine lv_iload_n (pc := 4) E.1 E.2 dJ3_checkIndex_8e157_4 rfl (lv_at hl 0 rfl) ?_
    refine lv_iload_n (pc := 5) E.1 E.2 dJ3_checkIndex_8e157_5 rfl (lv_at hl 1 rfl) ?_
    refine z_icmp_lt (pc := 6) (tgt := 16) E ⟨by omega, by omega⟩ ⟨by omega, by omega⟩ dJ3_checkIndex_8e157_6 (by decide) (fun h6 => ?_) (fun h6 => ?_)
    · refine lv_iload_n (pc := 16) E.1 E.2 dJ3_checkIndex_8e157_16 rfl (lv_at hl 0 rfl) ?_
      exact z_retRi E hr rfl hlocks dJ3_checkIndex_8e157_17
    · exact absurd h6 (by omega)
set_option maxHeartbeats 1000000 in
set_option maxRecDepth 100000 in
theorem mJ3n_checkIndex_8e157 (lL : Launch) (G : GG) (k n : Int) (hk : 0 ≤ k ∧ k < n) (hn : n < 2147483648) : Met lL yJ3_checkIndex_8e157 wsJ3_checkIndex_8e157 ({ frames := 0, cells := 0, slots := 0, locals := 0 } : Room) (va_Pc [.int (iI k), .int (iI n), .null] (fun U => True ∧ KK G U)) (vp_Si (fun r => r = (iI k))) 0 0 (fun _ => False) := by
  refine z_metF (P := (fun H : Heap => True)) (by decide +kernel) rfl (Nat.le_of_ble_eq_true rfl) (fun pp ee ss mm below meth cC E hr hml hown hts hlocks hM hK ls hl => ?_)
  have hl : lv_has ls 3 [(0, .int (iI k)), (1, .int (iI n)), (2, .null)] := hl
  have hcs : 0 ≤ (({ frames := 0, cells := 0, slots := 0, locals := 0 } : Room)).cells ∧ 0 ≤ (({ frames := 0, cells := 0, slots := 0, locals := 0 } : Room)).slots := ⟨Nat.zero_le _, Nat.zero_le _⟩
  refine lv_iload_n (pc := 0) E.1 E.2 dJ3_checkIndex_8e157_0 rfl (lv_at hl 0 rfl) ?_
  refine z_if_lt (pc := 1) (tgt := 9) E ⟨by omega, by omega⟩ dJ3_checkIndex_8e157_1 (by decide) (fun h1 => ?_) (fun h1 => ?_)
  · exact absurd h1 (by omega)
  · refine lv_iload_n (pc := 4) E.1 E.2 dJ3_checkIndex_8e157_4 rfl (lv_at hl 0 rfl) ?_
    refine lv_iload_n (pc := 5) E.1 E.2 dJ3_checkIndex_8e157_5 rfl (lv_at hl 1 rfl) ?_
    refine z_icmp_lt (pc := 6) (tgt := 16) E ⟨by omega, by omega⟩ ⟨by omega, by omega⟩ dJ3_checkIndex_8e157_6 (by decide) (fun h6 => ?_) (fun h6 => ?_)
    · refine lv_iload_n (pc := 16) E.1 E.2 dJ3_checkIndex_8e157_16 rfl (lv_at hl 0 rfl) ?_
      exact z_retRi E hr rfl hlocks dJ3_checkIndex_8e157_17
    · exact absurd h6 (by omega)
set_option maxHeartbeats 1000000 in
set_option maxRecDepth 100000 in
theorem mJ0_checkIndex_df160 (lL : Launch) (G : GG) (aK aV : Nat → Nat) (AK : Nat → Prop) (k n : Int) (hk : 0 ≤ k ∧ k < n) (hn : n < 2147483648) : Met lL yJ0_checkIndex_df160 wsJ0_checkIndex_df160 ({ frames := 1, cells := 0, slots := 0, locals := 22 } : Room) (va_Pc [.int (iI k), .int (iI n)] (fun U => True ∧ KK G U ∧ KS aK aV AK U U.heap)) zSv 0 0 (fun _ => False) := by
  refine z_metS (aK := aK) (aV := aV) (AK := AK) (P := (fun H : Heap => True)) (by decide +kernel) rfl (Nat.le_of_ble_eq_true rfl) (fun pp ee ss mm below meth cC E hr hml hown hts hlocks hM hK ls hl => ?_)
  have hl : lv_has ls 2 [(0, .int (iI k)), (1, .int (iI n))] := hl
  have hcs : 0 ≤ (({ frames := 1, cells := 0, slots := 0, locals := 22 } : Room)).cells ∧ 0 ≤ (({ frames := 1, cells := 0, slots := 0, locals := 22 } : Room)).slots := ⟨Nat.zero_le _, Nat.zero_le _⟩
  have hKS := hK.2
  have hK := hK.1
  refine lv_iload_n (pc := 0) E.1 E.2 dJ0_checkIndex_df160_0 rfl (lv_at hl 0 rfl) ?_
  refine lv_iload_n (pc := 1) E.1 E.2 dJ0_checkIndex_df160_1 rfl (lv_at hl 1 rfl) ?_
  rcases hKS.2.2.1 with hq9 | ⟨q9, hq9⟩
  · refine va_gets (pc := 2) E.1 E.2 hq9 va_S.rf hown (hts _ (List.mem_of_getElem? (i := 1) rfl)) (fun x h => h) dJ0_checkIndex_df160_2 ?_
    refine z_rSi (pc := 5) (P := fun _ => True) (As := [.int (iI k), .int (iI n), .null]) (rest := []) E hml hown hts (mJ3n_checkIndex_8e157 lL G k n (by omega) (by omega)) (va_cwS 3 hts gJ0_checkIndex_df160_J3_checkIndex_8e157 rfl rfl rfl vdJ3_checkIndex_8e157.2 ⟨Nat.le_of_ble_eq_true rfl, Nat.le_of_ble_eq_true rfl⟩) trivial hK rfl hl.1 rfl dJ0_checkIndex_df160_5 hcs (Nat.le_of_ble_eq_true rfl) ?_
    refine lv_pop (pc := 8) E.1 E.2 dJ0_checkIndex_df160_8 rfl ?_
    exact z_retRv E hr hlocks dJ0_checkIndex_df160_9
  · refine va_gets (pc := 2) E.1 E.2 hq9 va_S.rf hown (hts _ (List.mem_of_getElem? (i := 1) rfl)) (fun x h => h) dJ0_checkIndex_df160_2 ?_
    refine z_rSi (pc := 5) (P := fun _ => True) (As := [.int (iI k), .int (iI n), .ref q9]) (rest := []) E hml hown hts (mJ3_checkIndex_8e157 lL G k n q9 (by omega) (by omega)) (va_cwS 3 hts gJ0_checkIndex_df160_J3_checkIndex_8e157 rfl rfl rfl vdJ3_checkIndex_8e157.2 ⟨Nat.le_of_ble_eq_true rfl, Nat.le_of_ble_eq_true rfl⟩) trivial hK rfl hl.1 rfl dJ0_checkIndex_df160_5 hcs (Nat.le_of_ble_eq_true rfl) ?_
    refine lv_pop (pc := 8) E.1 E.2 dJ0_checkIndex_df160_8 rfl ?_
    exact z_retRv E hr hlocks dJ0_checkIndex_df160_9
set_option maxHeartbeats 1000000 in
set_option maxRecDepth 100000 in
theorem mJ1_charAt_3b067 (lL : Launch) (G : GG) (aK aV : Nat → Nat) (AK : Nat → Prop) (i : Nat) (hi : i < 5) (k : Int) (hk : 0 ≤ k ∧ k < sl i) : Met lL yJ1_charAt_3b067 wsJ1_charAt_3b067 ({ frames := 2, cells := 0, slots := 0, locals := 43 } : Room) (va_Pc [.ref (aV i), .int (iI k)] (fun U => True ∧ KK G U ∧ KS aK aV AK U U.heap)) (vp_Si (fun r => r = (iI (sch i k)))) 0 0 (fun _ => False) := by
  refine z_metS (aK := aK) (aV := aV) (AK := AK) (P := (fun H : Heap => True)) (by decide +kernel) rfl (Nat.le_of_ble_eq_true rfl) (fun pp ee ss mm below meth cC E hr hml hown hts hlocks hM hK ls hl => ?_)
  have hl : lv_has ls 2 [(0, .ref (aV i)), (1, .int (iI k))] := hl
  have hcs : 0 ≤ (({ frames := 2, cells := 0, slots := 0, locals := 43 } : Room)).cells ∧ 0 ≤ (({ frames := 2, cells := 0, slots := 0, locals := 43 } : Room)).slots := ⟨Nat.zero_le _, Nat.zero_le _⟩
  have hKS := hK.2
  have hK := hK.1
  have hsl := sl_b hi
  refine lv_iload_n (pc := 0) E.1 E.2 dJ1_charAt_3b067_0 rfl (lv_at hl 1 rfl) ?_
  refine lv_aload_n (pc := 1) E.1 E.2 dJ1_charAt_3b067_1 rfl (lv_at hl 0 rfl) ?_
  refine va_tlen (pc := 2) E.1 E.2 (hKS.1.1 i hi).2.2.2 va_S.rf (sz_len hi) dJ1_charAt_3b067_2 ?_
  refine zs_rSv (pc := 3) (P := fun _ => True) (As := [.int (iI k), .int (iI (sl i))]) (rest := []) E hml hown hts (mJ0_checkIndex_df160 lL G aK aV AK k (sl i) (by omega) (by omega)) (va_cwS 2 hts gJ1_charAt_3b067_J0_checkIndex_df160 rfl rfl rfl vdJ0_checkIndex_df160.2 ⟨Nat.le_of_ble_eq_true rfl, Nat.le_of_ble_eq_true rfl⟩) trivial (And.intro hK hKS) rfl hl.1 rfl dJ1_charAt_3b067_3 hcs (Nat.le_of_ble_eq_true rfl) ?_
  refine lv_aload_n (pc := 6) E.1 E.2 dJ1_charAt_3b067_6 rfl (lv_at hl 0 rfl) ?_
  refine lv_iload_n (pc := 7) E.1 E.2 dJ1_charAt_3b067_7 rfl (lv_at hl 1 rfl) ?_
  refine va_tb (pc := 8) E.1 E.2 (v := .int (iI (sch i k))) (hKS.1.1 i hi).2.2.2 va_S.rf (sz_in hi hk) (sz_at hi hk) dJ1_charAt_3b067_8 ?_
  refine z_sipush (pc := 9) E (by decide) dJ1_charAt_3b067_9 ?_
  refine z_iand255 (pc := 12) E dJ1_charAt_3b067_12 ?_
  refine lv_i2c (pc := 13) E.1 E.2 dJ1_charAt_3b067_13 (sz_c hi hk) ?_
  exact z_retRc E hr (sz_n hi hk) rfl hlocks dJ1_charAt_3b067_14
set_option maxHeartbeats 1000000 in
set_option maxRecDepth 100000 in
theorem mJ0_charAt_5068e (lL : Launch) (G : GG) (aK aV : Nat → Nat) (AK : Nat → Prop) (i : Nat) (hi : i < 5) (k : Int) (hk : 0 ≤ k ∧ k < sl i) : Met lL yJ0_charAt_5068e wsJ0_charAt_5068e ({ frames := 4, cells := 0, slots := 0, locals := 85 } : Room) (va_Pc [.ref (aK i), .int (iI k)] (fun U => True ∧ KK G U ∧ KS aK aV AK U U.heap)) (vp_Si (fun r => r = (iI (sch i k)))) 0 0 (fun _ => False) := by
  refine z_metS (aK := aK) (aV := aV) (AK := AK) (P := (fun H : Heap => True)) (by decide +kernel) rfl (Nat.le_of_ble_eq_true rfl) (fun pp ee ss mm below meth cC E hr hml hown hts hlocks hM hK ls hl => ?_)
  have hl : lv_has ls 2 [(0, .ref (aK i)), (1, .int (iI k))] := hl
  have hcs : 0 ≤ (({ frames := 4, cells := 0, slots := 0, locals := 85 } : Room)).cells ∧ 0 ≤ (({ frames := 4, cells := 0, slots := 0, locals := 85 } : Room)).slots := ⟨Nat.zero_le _, Nat.zero_le _⟩
  have hKS := hK.2
  have hK := hK.1
  have hsl := sl_b hi
  refine lv_aload_n (pc := 0) E.1 E.2 dJ0_charAt_5068e_0 rfl (lv_at hl 0 rfl) ?_
  refine zs_rVi (pc := 1) (P := fun _ => True) (As := []) (rest := []) E hml hown hts (mJ0_isLatin1_aae02 lL G aK aV AK i hi) (cwV 0 hts gJ0_charAt_5068e_J0_isLatin1_aae02 rfl rfl rfl vdJ0_isLatin1_aae02 ⟨Nat.le_of_ble_eq_true rfl, Nat.le_of_ble_eq_true rfl⟩) (vk_recv hKS.1 hi va_S.rf) trivial (And.intro hK hKS) rfl hl.1 rfl dJ0_charAt_5068e_1 hcs (Nat.le_of_ble_eq_true rfl) ?_
  refine z_if_eq (pc := 4) (tgt := 16) E (by decide) dJ0_charAt_5068e_4 (by decide) (fun h4 => ?_) (fun h4 => ?_)
  · exact absurd h4 (by decide)
  · refine lv_aload_n (pc := 7) E.1 E.2 dJ0_charAt_5068e_7 rfl (lv_at hl 0 rfl) ?_
    refine vk_getf (pc := 8) E.1 E.2 (hKS.1.1 i hi).2.2.1 va_S.rf hown (hts _ (List.mem_of_getElem? (i := 1) rfl)) (fun x h => h) dJ0_charAt_5068e_8 ?_
    refine lv_iload_n (pc := 11) E.1 E.2 dJ0_charAt_5068e_11 rfl (lv_at hl 1 rfl) ?_
    refine zs_rSi (pc := 12) (P := fun _ => True) (As := [.ref (aV i), .int (iI k)]) (rest := []) E hml hown hts (mJ1_charAt_3b067 lL G aK aV AK i hi k hk) (va_cwS 2 hts gJ0_charAt_5068e_J1_charAt_3b067 rfl rfl rfl vdJ1_charAt_3b067.2 ⟨Nat.le_of_ble_eq_true rfl, Nat.le_of_ble_eq_true rfl⟩) trivial (And.intro hK hKS) rfl hl.1 rfl dJ0_charAt_5068e_12 hcs (Nat.le_of_ble_eq_true rfl) ?_
    exact z_retRc E hr (sz_n hi hk) rfl hlocks dJ0_charAt_5068e_15
set_option maxHeartbeats 1000000 in
set_option maxRecDepth 100000 in
theorem mX8_isWord (lL : Launch) (G : GG) (o : Nat → Nat) (μ σ φ κ β ω : Int → Int) (n c : Int) (aK aV : Nat → Nat) (AK : Nat → Prop) (i : Nat) (hi : i < 5) (hb : TX β) (hw : μ 12 = 0) (htk : TKw β n μ c) : Met lL yX8_isWord wsX8_isWord ({ frames := 5, cells := 0, slots := 0, locals := 106 } : Room) (va_Pc [.ref (o 0), .ref (aK i)] (fun U => W8 G o (mV o μ) σ φ κ β ω U.heap ∧ KK G U ∧ KS aK aV AK U U.heap)) (vp_Si (fun r => r = (iI (if RWd β n c = 0 ∧ Wo β n c = wcS i then 1 else 0)))) 0 0 (fun _ => False) := by
  refine z_metS (aK := aK) (aV := aV) (AK := AK) (P := (fun H : Heap => W8 G o (mV o μ) σ φ κ β ω H)) (by decide +kernel) rfl (Nat.le_of_ble_eq_true rfl) (fun pp ee ss mm below meth cC E hr hml hown hts hlocks hM hK ls hl => ?_)
  have hl : lv_has ls 3 [(0, .ref (o 0)), (1, .ref (aK i))] := hl
  have hcs : 0 ≤ (({ frames := 5, cells := 0, slots := 0, locals := 106 } : Room)).cells ∧ 0 ≤ (({ frames := 5, cells := 0, slots := 0, locals := 106 } : Room)).slots := ⟨Nat.zero_le _, Nat.zero_le _⟩
  have hKS := hK.2
  have hK := hK.1
  have hin8 : ∀ w ∈ wsX80, w ∈ wsX8_isWord := fun w h => List.mem_cons_of_mem _ (List.mem_append_right _ (h))
  have hsl := sl_b hi
  have h7 := htk.n7
  have h9 := htk.be9
  have h8 := htk.at8
  have h10 := htk.ki10
  have hcn := htk.c0
  have hsn := htk.skb
  have htn := htk.teb
  have hkd := Kd_b β n c
  refine lv_aload_n (pc := 0) E.1 E.2 dX8_isWord_0 rfl (lv_at hl 0 rfl) ?_
  refine g8_12 (pc := 1) E hts hin8 hown hK hM.1 (hts _ (List.mem_of_getElem? (i := 1) rfl)) dX8_isWord_1 ?_
  refine z_if_ne (pc := 4) (tgt := 30) E ⟨by omega, by omega⟩ dX8_isWord_4 (by decide) (fun h4 => ?_) (fun h4 => ?_)
  · exact absurd h4 (by first | exact hw | exact fun q => hw q | omega)
  · refine lv_aload_n (pc := 7) E.1 E.2 dX8_isWord_7 rfl (lv_at hl 0 rfl) ?_
    refine g8_10 (pc := 8) E hts hin8 hown hK hM.1 (hts _ (List.mem_of_getElem? (i := 2) rfl)) dX8_isWord_8 ?_
    refine z_if_ne (pc := 11) (tgt := 30) E ⟨by omega, by omega⟩ dX8_isWord_11 (by decide) (fun h11 => ?_) (fun h11 => ?_)
    · refine z_iconst (pc := 30) E dX8_isWord_30 ?_
      exact z_retRz E hr rfl (congrArg iI (by first | (refine (if_neg (fun z => ?_)).symm; have z1 := RWd_0 z.1; omega) | (refine (if_neg (fun z => ?_)).symm; have z1 := RWd_0 z.1; have z2 := (wo_i hi (by omega) z1.1 z1.2).mp z.2; omega) | (refine (if_pos (And.intro (RWd_y ⟨by omega, by omega⟩) (hwi.mpr ⟨by omega, fun j h0 h1 => hj j h0 (by omega)⟩))).symm))) hlocks dX8_isWord_31
    · refine lv_aload_n (pc := 14) E.1 E.2 dX8_isWord_14 rfl (lv_at hl 0 rfl) ?_
      refine g8_9 (pc := 15) E hts hin8 hown hK hM.1 (hts _ (List.mem_of_getElem? (i := 3) rfl)) dX8_isWord_15 ?_
      refine lv_aload_n (pc := 18) E.1 E.2 dX8_isWord_18 rfl (lv_at hl 0 rfl) ?_
      refine g8_8 (pc := 19) E hts hin8 hown hK hM.1 (hts _ (List.mem_of_getElem? (i := 4) rfl)) dX8_isWord_19 ?_
      refine z_isub (pc := 22) E dX8_isWord_22 ?_
      refine lv_aload_n (pc := 23) E.1 E.2 dX8_isWord_23 rfl (lv_at hl 1 rfl) ?_
      refine zs_rVi (pc := 24) (P := fun _ => True) (As := []) (rest := [.int (iI ((μ 9) - (μ 8)))]) E hml hown hts (mJ0_length_8abf5 lL G aK aV AK i hi) (cwV 0 hts gX8_isWord_J0_length_8abf5 rfl rfl rfl vdJ0_length_8abf5 ⟨Nat.le_of_ble_eq_true rfl, Nat.le_of_ble_eq_true rfl⟩) (vk_recv hKS.1 hi va_S.rf) trivial (And.intro hK hKS) rfl hl.1 rfl dX8_isWord_24 hcs (Nat.le_of_ble_eq_true rfl) ?_
      refine z_icmp_eq (pc := 27) (tgt := 32) E ⟨by omega, by omega⟩ ⟨by omega, by omega⟩ dX8_isWord_27 (by decide) (fun h27 => ?_) (fun h27 => ?_)
      · have hwi := wo_i (b := β) (n := n) (c := c) hi (by omega) (by omega) (by omega)
        refine z_iconst (pc := 32) E dX8_isWord_32 ?_
        refine lv_istore_n (pc := 33) (lv' := [(2, .int (iI 0)), (0, .ref (o 0)), (1, .ref (aK i))]) E.1 E.2 dX8_isWord_33 rfl hl (by decide) rfl (fun ls hl => ?_)
        suffices L34 : ∀ (nf : Nat), ∀ (k : Int), (0 ≤ k ∧ k ≤ sl i) → (∀ j : Int, 0 ≤ j → j < k → β (Sk β n c + j) = sch i j) → ((sl i - k).toNat) < nf → ∀ ls : Array Slot, lv_has ls 3 [(2, .int (iI k)), (0, .ref (o 0)), (1, .ref (aK i))] → W pp lL ee ({ frames := 5, cells := 0, slots := 0, locals := 106 } : Room) ss mm [.ref (o 0), .ref (aK i)].toArray below meth cC ss.heap [] 0 0 (MQ below (vp_Si (fun r => r = (iI (if RWd β n c = 0 ∧ Wo β n c = wcS i then 1 else 0)))) [.ref (o 0), .ref (aK i)].toArray ss 0 0 (fun _ => False)) (F0 mm 34 ls []) from L34 _ 0 (by omega) (fun j h0 h1 => by omega) (Nat.lt_succ_self _) ls (lv_sub hl [0, 1, 2] rfl)
        intro nfL34
        induction nfL34 with
        | zero => intro k hk hj hmzL34; exact absurd hmzL34 (Nat.not_lt_zero _)
        | succ nfL34 ihL34 =>
          intro k hk hj hmzL34 ls hl
          refine lv_iload_n (pc := 34) E.1 E.2 dX8_isWord_34 rfl (lv_at hl 0 rfl) ?_
          refine lv_aload_n (pc := 35) E.1 E.2 dX8_isWord_35 rfl (lv_at hl 2 rfl) ?_
          refine zs_rVi (pc := 36) (P := fun _ => True) (As := []) (rest := [.int (iI k)]) E hml hown hts (mJ0_length_8abf5 lL G aK aV AK i hi) (cwV 0 hts gX8_isWord_J0_length_8abf5 rfl rfl rfl vdJ0_length_8abf5 ⟨Nat.le_of_ble_eq_true rfl, Nat.le_of_ble_eq_true rfl⟩) (vk_recv hKS.1 hi va_S.rf) trivial (And.intro hK hKS) rfl hl.1 rfl dX8_isWord_36 hcs (Nat.le_of_ble_eq_true rfl) ?_
          refine z_icmp_ge (pc := 39) (tgt := 69) E ⟨by omega, by omega⟩ ⟨by omega, by omega⟩ dX8_isWord_39 (by decide) (fun h39 => ?_) (fun h39 => ?_)
          · refine z_iconst (pc := 69) E dX8_isWord_69 ?_
            exact z_retRz E hr rfl (congrArg iI (by first | (refine (if_neg (fun z => ?_)).symm; have z1 := RWd_0 z.1; omega) | (refine (if_neg (fun z => ?_)).symm; have z1 := RWd_0 z.1; have z2 := (wo_i hi (by omega) z1.1 z1.2).mp z.2; omega) | (refine (if_pos (And.intro (RWd_y ⟨by omega, by omega⟩) (hwi.mpr ⟨by omega, fun j h0 h1 => hj j h0 (by omega)⟩))).symm))) hlocks dX8_isWord_70
          · refine lv_aload_n (pc := 42) E.1 E.2 dX8_isWord_42 rfl (lv_at hl 1 rfl) ?_
            refine g8_5 (pc := 43) E hts hin8 hown hK hM.1 (hts _ (List.mem_of_getElem? (i := 5) rfl)) dX8_isWord_43 ?_
            refine lv_aload_n (pc := 46) E.1 E.2 dX8_isWord_46 rfl (lv_at hl 1 rfl) ?_
            refine g8_8 (pc := 47) E hts hin8 hown hK hM.1 (hts _ (List.mem_of_getElem? (i := 4) rfl)) dX8_isWord_47 ?_
            refine lv_iload_n (pc := 50) E.1 E.2 dX8_isWord_50 rfl (lv_at hl 0 rfl) ?_
            refine z_iadd (pc := 51) E dX8_isWord_51 ?_
            have hbk := hb (μ 8 + k) (by omega) (by omega)
            refine z_iaload (pc := 52) E hK hM.2.2.2.2.1 ⟨by omega, by omega⟩ (by decide) dX8_isWord_52 ?_
            refine lv_aload_n (pc := 53) E.1 E.2 dX8_isWord_53 rfl (lv_at hl 2 rfl) ?_
            refine lv_iload_n (pc := 54) E.1 E.2 dX8_isWord_54 rfl (lv_at hl 0 rfl) ?_
            refine zs_rVi (pc := 55) (P := fun _ => True) (As := [.int (iI k)]) (rest := [.int (iI (β ((μ 8) + k)))]) E hml hown hts (mJ0_charAt_5068e lL G aK aV AK i hi k ⟨by omega, by omega⟩) (cwV 1 hts gX8_isWord_J0_charAt_5068e rfl rfl rfl vdJ0_charAt_5068e ⟨Nat.le_of_ble_eq_true rfl, Nat.le_of_ble_eq_true rfl⟩) (vk_recv hKS.1 hi va_S.rf) trivial (And.intro hK hKS) rfl hl.1 rfl dX8_isWord_55 hcs (Nat.le_of_ble_eq_true rfl) ?_
            have hsk := sch_b hi (k := k) ⟨by omega, by omega⟩
            refine z_icmp_eq (pc := 58) (tgt := 63) E ⟨by omega, by omega⟩ ⟨by omega, by omega⟩ dX8_isWord_58 (by decide) (fun h58 => ?_) (fun h58 => ?_)
            · refine lv_iinc (pc := 63) (v := iI (k + 1)) (lv' := [(2, .int (iI (k + 1))), (0, .ref (o 0)), (1, .ref (aK i))]) E.1 E.2 dX8_isWord_63 hl (k := 0) rfl (iI_add _ _) (by decide) rfl (fun ls hl => ?_)
              refine lv_goto (pc := 66) (tgt := 34) E.1 E.2 dX8_isWord_66 (by decide) ?_
              exact ihL34 (k + 1) (by omega) (fun j h0 h1 => by by_cases z : j = k; (rw [z, ← h8]; exact h58); exact hj j h0 (by omega)) (by omega) ls (lv_sub hl [0, 1, 2] rfl)
            · refine z_iconst (pc := 61) E dX8_isWord_61 ?_
              exact z_retRz E hr rfl (congrArg iI (by first | (refine (if_neg (fun z => ?_)).symm; have z1 := RWd_0 z.1; omega) | (refine (if_neg (fun z => ?_)).symm; have z1 := RWd_0 z.1; have z2 := (wo_i hi (by omega) z1.1 z1.2).mp z.2; omega) | (refine (if_neg (fun z => ?_)).symm; have z2 := (hwi.mp z.2).2 k (by omega) (by omega); rw [← h8] at z2; exact h58 z2) | (refine (if_pos (And.intro (RWd_y ⟨by omega, by omega⟩) (hwi.mpr ⟨by omega, fun j h0 h1 => hj j h0 (by omega)⟩))).symm))) hlocks dX8_isWord_62
      · refine z_iconst (pc := 30) E dX8_isWord_30 ?_
        exact z_retRz E hr rfl (congrArg iI (by first | (refine (if_neg (fun z => ?_)).symm; have z1 := RWd_0 z.1; omega) | (refine (if_neg (fun z => ?_)).symm; have z1 := RWd_0 z.1; have z2 := (wo_i hi (by omega) z1.1 z1.2).mp z.2; omega) | (refine (if_pos (And.intro (RWd_y ⟨by omega, by omega⟩) (hwi.mpr ⟨by omega, fun j h0 h1 => hj j h0 (by omega)⟩))).symm))) hlocks dX8_isWord_31
