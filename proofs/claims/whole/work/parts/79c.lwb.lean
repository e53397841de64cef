set_option maxRecDepth 100000 in
theorem mbL_append (lL : Launch) (hst0 : lL.stackTraces = false) (G : GG) (o : Nat → Nat) (ν σ : Int → Int) (π : Nat → Int → Int) (δ τ ω : Int → Int) (a : Int) (b : Int) (c : Int) (d : Int) (e : Int) (hI : In σ) (ha : -2147483648 ≤ a ∧ a < 2147483648) (hb : -2147483648 ≤ b ∧ b < 2147483648) (hc : -2147483648 ≤ c ∧ c < 2147483648) (hd : -2147483648 ≤ d ∧ d < 2147483648) (he : -2147483648 ≤ e ∧ e < 2147483648) (hm : ν 21 ≤ 900) (hbad : ¬ (ν 21 ≤ 880)) (q9 : Nat) (fq : Int → Int) : Met lL yL_append wsL_append ({ frames := 7, cells := 1, slots := 6, locals := 125 } : Room) (va_Pc [.ref (o 0), .int (iI a), .int (iI b), .int (iI c), .int (iI d), .int (iI e), .ref q9] (fun U => LQ G o ν σ π δ τ ω q9 fq U.heap ∧ KK G U ∧ KX FF0 U U.heap)) (va_Qi (fun r (_ : Unit) => r = iI 1) (fun _ tZ => LQ G o ν σ π δ τ ω q9 fq tZ.heap) FF0) 1 6 FF0 := by
  refine z_metH (P := fun H : Heap => LQ G o ν σ π δ τ ω q9 fq H) (by decide) rfl (Nat.le_of_ble_eq_true rfl) (fun pp ee ss mm below meth cC E hr hml hown hts hlocks htab hP hK hX ls hl => ?_)
  have hl : lv_has ls 8 [(0, .ref (o 0)), (1, .int (iI a)), (2, .int (iI b)), (3, .int (iI c)), (4, .int (iI d)), (5, .int (iI e)), (6, .ref q9)] := hl
  obtain ⟨hM, hA⟩ := hP
  refine lv_aload (pc := 0) E.1 E.2 dL_append_0 (lv_at hl 6 rfl) ?_
  refine z_iconst (pc := 2) E dL_append_2 ?_
  refine lv_aload_n (pc := 3) E.1 E.2 dL_append_3 rfl (lv_at hl 0 rfl) ?_
  refine lv_iload_n (pc := 4) E.1 E.2 dL_append_4 rfl (lv_at hl 1 rfl) ?_
  refine lv_iload_n (pc := 5) E.1 E.2 dL_append_5 rfl (lv_at hl 2 rfl) ?_
  refine lv_iload_n (pc := 6) E.1 E.2 dL_append_6 rfl (lv_at hl 3 rfl) ?_
  refine lv_iload (pc := 7) E.1 E.2 dL_append_7 (lv_at hl 4 rfl) ?_
  refine lv_iload (pc := 9) E.1 E.2 dL_append_9 (lv_at hl 5 rfl) ?_
  have hS : va_S FF0 ss.heap ss.heap [] := va_S.rf
  refine z_thrown (pc := 11) (a := ([.ref (o 0), .int (iI a), .int (iI b), .int (iI c), .int (iI d), .int (iI e)] : List Value).toArray) (rest := [.int (iI 0), .ref q9]) (vx_runV (As := [.int (iI a), .int (iI b), .int (iI c), .int (iI d), .int (iI e)]) ⟨E.1, E.2, hml, hown, hts⟩ (mxX7_append lL hst0 G o ν σ π δ τ ω a b c d e hI ha hb hc hd he hm hbad) (cwV 5 hts gL_append_X7_append rfl rfl rfl vdX7_append ⟨Nat.le_of_ble_eq_true rfl, Nat.le_of_ble_eq_true rfl⟩) (z_preVX (P := fun H : Heap => QT G o ν σ π δ τ ω H) (hM.ob.recv hK rfl) hM hK hX) rfl rfl hl.1 rfl (lv_room (Nat.le_of_ble_eq_true rfl)) dL_append_11 ⟨Nat.le_of_ble_eq_true rfl, Nat.le_of_ble_eq_true rfl⟩) (fun ce q8 H locs hoth hS hce hcv hcl => ?_)
  have hM2 := hM.kp (fun k hk => hoth _ (hM.lt k hk))
  have hA2 := hA.kp (hoth _ hA.lt)
  refine vx_catch (own := RL) (name := xS) (E := xS) hown [] ⟨0, 16, 19, 13⟩ [] (htab.trans rfl) (fun z hz => absurd hz List.not_mem_nil) (by decide) (by decide) (hts _ (List.mem_of_getElem? (i := 1) rfl)) (z_cast hX (by decide)) hce hcv hcl ?_
  refine lv_astore (pc := 19) (lv' := [(7, .ref q8), (0, .ref (o 0)), (1, .int (iI a)), (2, .int (iI b)), (3, .int (iI c)), (4, .int (iI d)), (5, .int (iI e)), (6, .ref q9)]) E.1 E.2 dL_append_19 hl (by decide) rfl (fun ls hl => ?_)
  refine z_iconst (pc := 21) E dL_append_21 ?_
  exact z_retWi (pc := 22) (P1 := fun H : Heap => LQ G o ν σ π δ τ ω q9 fq H) E hr rfl ⟨hM2, hA2⟩ hS hlocks dL_append_22
set_option maxRecDepth 100000 in
theorem mbL_load (lL : Launch) (hst0 : lL.stackTraces = false) (G : GG) (o : Nat → Nat) (ν σ : Int → Int) (π : Nat → Int → Int) (δ β ω : Int → Int) (n : Int) (hI : In σ) (hn : -2147483648 ≤ n ∧ n < 2147483648) (h21 : 0 ≤ ν 21 ∧ ν 21 ≤ 900) (hbad : ¬ kxLoad (ν 21) n = 0) (q9 : Nat) (fq : Int → Int) : Met lL yL_load wsL_load ({ frames := 8, cells := 1, slots := 6, locals := 174 } : Room) (va_Pc [.ref (o 0), .int (iI n), .ref q9] (fun U => LQ G o ν σ π δ (fun j => sg8 (β j)) ω q9 fq U.heap ∧ KK G U ∧ KX FF0 U U.heap)) (va_Qi (fun r (_ : Unit) => r = iI (kxLoad (ν 21) n)) (fun _ tZ => LQ G o ν σ π δ (fun j => sg8 (β j)) ω q9 fq tZ.heap) FF0) 1 6 FF0 := by
  refine z_metH (P := fun H : Heap => LQ G o ν σ π δ (fun j => sg8 (β j)) ω q9 fq H) (by decide) rfl (Nat.le_of_ble_eq_true rfl) (fun pp ee ss mm below meth cC E hr hml hown hts hlocks htab hP hK hX ls hl => ?_)
  have hl : lv_has ls 4 [(0, .ref (o 0)), (1, .int (iI n)), (2, .ref q9)] := hl
  obtain ⟨hM, hA⟩ := hP
  refine lv_aload_n (pc := 0) E.1 E.2 dL_load_0 rfl (lv_at hl 2 rfl) ?_
  refine z_iconst (pc := 1) E dL_load_1 ?_
  refine lv_aload_n (pc := 2) E.1 E.2 dL_load_2 rfl (lv_at hl 0 rfl) ?_
  refine lv_iload_n (pc := 3) E.1 E.2 dL_load_3 rfl (lv_at hl 1 rfl) ?_
  have hS : va_S FF0 ss.heap ss.heap [] := va_S.rf
  refine z_thrown (pc := 4) (a := ([.ref (o 0), .int (iI n)] : List Value).toArray) (rest := [.int (iI 0), .ref q9]) (vx_runV (As := [.int (iI n)]) ⟨E.1, E.2, hml, hown, hts⟩ (mxX7_load lL hst0 G o ν σ π δ β ω n hI hn h21 hbad) (cwV 1 hts gL_load_X7_load rfl rfl rfl vdX7_load ⟨Nat.le_of_ble_eq_true rfl, Nat.le_of_ble_eq_true rfl⟩) (z_preVX (P := fun H : Heap => QT G o ν σ π δ (fun j => sg8 (β j)) ω H) (hM.ob.recv hK rfl) hM hK hX) rfl rfl hl.1 rfl (lv_room (Nat.le_of_ble_eq_true rfl)) dL_load_4 ⟨Nat.le_of_ble_eq_true rfl, Nat.le_of_ble_eq_true rfl⟩) (fun ce q8 H locs hoth hS hce hcv hcl => ?_)
  have hM2 := hM.kp (fun k hk => hoth _ (hM.lt k hk))
  have hA2 := hA.kp (hoth _ hA.lt)
  have hk9 : (kxLoad (ν 21) n) = 1 := (show (kxLoad (ν 21) n) = 0 ∨ (kxLoad (ν 21) n) = 1 by unfold kxLoad; (try unfold kxPK); (repeat' split) <;> simp).resolve_left hbad
  have hk := hk9
  rw [show exq xA xA xA (kxLoad (ν 21) n) = xA by rw [hk]; rfl] at hcl
  refine vx_catch (own := RL) (name := xA) (E := xA) hown [] ⟨0, 9, 12, 19⟩ [] (htab.trans rfl) (fun z hz => absurd hz List.not_mem_nil) (by decide) (by decide) (hts _ (List.mem_of_getElem? (i := 1) rfl)) (z_cast hX (by decide)) hce hcv hcl ?_
  refine lv_astore_n (pc := 12) (lv' := [(3, .ref q8), (0, .ref (o 0)), (1, .int (iI n)), (2, .ref q9)]) E.1 E.2 dL_load_12 rfl hl (by decide) rfl (fun ls hl => ?_)
  refine z_iconst (pc := 13) E dL_load_13 ?_
  exact z_retWi (pc := 14) (P1 := fun H : Heap => LQ G o ν σ π δ (fun j => sg8 (β j)) ω q9 fq H) E hr (by rw [hk]) ⟨hM2, hA2⟩ hS hlocks dL_load_14
set_option maxRecDepth 100000 in
theorem mbL_count (lL : Launch) (hst0 : lL.stackTraces = false) (G : GG) (o : Nat → Nat) (ν σ : Int → Int) (π : Nat → Int → Int) (δ τ ω : Int → Int) (w : Int) (hI : In σ) (hw : -2147483648 ≤ w ∧ w < 2147483648) (hbad : ¬ ((kxCount w) = 0)) (q9 : Nat) (fq : Int → Int) : Met lL yL_count wsL_count ({ frames := 7, cells := 1, slots := 6, locals := 131 } : Room) (va_Pc [.ref (o 0), .int (iI w), .ref q9] (fun U => LQ G o ν σ π δ τ ω q9 fq U.heap ∧ KK G U ∧ KX FF0 U U.heap)) (va_Qi (fun r (_ : Unit) => r = iI (kxCount w)) (fun _ tZ => LQ G o ν σ π δ τ ω q9 fq tZ.heap) FF0) 1 6 FF0 := by
  refine z_metH (P := fun H : Heap => LQ G o ν σ π δ τ ω q9 fq H) (by decide) rfl (Nat.le_of_ble_eq_true rfl) (fun pp ee ss mm below meth cC E hr hml hown hts hlocks htab hP hK hX ls hl => ?_)
  have hl : lv_has ls 4 [(0, .ref (o 0)), (1, .int (iI w)), (2, .ref q9)] := hl
  obtain ⟨hM, hA⟩ := hP
  refine lv_aload_n (pc := 0) E.1 E.2 dL_count_0 rfl (lv_at hl 2 rfl) ?_
  refine z_iconst (pc := 1) E dL_count_1 ?_
  refine lv_aload_n (pc := 2) E.1 E.2 dL_count_2 rfl (lv_at hl 0 rfl) ?_
  refine lv_iload_n (pc := 3) E.1 E.2 dL_count_3 rfl (lv_at hl 1 rfl) ?_
  have hS : va_S FF0 ss.heap ss.heap [] := va_S.rf
  refine z_thrown (pc := 4) (a := ([.ref (o 0), .int (iI w)] : List Value).toArray) (rest := [.int (iI 0), .ref q9]) (vx_runV (As := [.int (iI w)]) ⟨E.1, E.2, hml, hown, hts⟩ (mxX7_count lL hst0 G o ν σ π δ τ ω w hI hw hbad) (cwV 1 hts gL_count_X7_count rfl rfl rfl vdX7_count ⟨Nat.le_of_ble_eq_true rfl, Nat.le_of_ble_eq_true rfl⟩) (z_preVX (P := fun H : Heap => QT G o ν σ π δ τ ω H) (hM.ob.recv hK rfl) hM hK hX) rfl rfl hl.1 rfl (lv_room (Nat.le_of_ble_eq_true rfl)) dL_count_4 ⟨Nat.le_of_ble_eq_true rfl, Nat.le_of_ble_eq_true rfl⟩) (fun ce q8 H locs hoth hS hce hcv hcl => ?_)
  have hM2 := hM.kp (fun k hk => hoth _ (hM.lt k hk))
  have hA2 := hA.kp (hoth _ hA.lt)
  have hk9 : (kxCount w) = 1 := (show (kxCount w) = 0 ∨ (kxCount w) = 1 by unfold kxCount; (try unfold kxPK); (repeat' split) <;> simp).resolve_left hbad
  have hk := hk9
  rw [show exq xA xI xI (kxCount w) = xA by rw [hk]; rfl] at hcl
  refine vx_catch (own := RL) (name := xA) (E := xA) hown [] ⟨0, 9, 12, 19⟩ [] (htab.trans rfl) (fun z hz => absurd hz List.not_mem_nil) (by decide) (by decide) (hts _ (List.mem_of_getElem? (i := 1) rfl)) (z_cast hX (by decide)) hce hcv hcl ?_
  refine lv_astore_n (pc := 12) (lv' := [(3, .ref q8), (0, .ref (o 0)), (1, .int (iI w)), (2, .ref q9)]) E.1 E.2 dL_count_12 rfl hl (by decide) rfl (fun ls hl => ?_)
  refine z_iconst (pc := 13) E dL_count_13 ?_
  exact z_retWi (pc := 14) (P1 := fun H : Heap => LQ G o ν σ π δ τ ω q9 fq H) E hr (by rw [hk]) ⟨hM2, hA2⟩ hS hlocks dL_count_14
set_option maxRecDepth 100000 in
theorem mbL_folder (lL : Launch) (hst0 : lL.stackTraces = false) (G : GG) (o : Nat → Nat) (ν σ : Int → Int) (π : Nat → Int → Int) (δ τ ω : Int → Int) (f : Int) (w : Int) (hI : In σ) (hf : -2147483648 ≤ f ∧ f < 2147483648) (hw : -2147483648 ≤ w ∧ w < 2147483648) (hbad : ¬ ((kxFolder σ f w) = 0)) (q9 : Nat) (fq : Int → Int) : Met lL yL_folder wsL_folder ({ frames := 8, cells := 1, slots := 6, locals := 143 } : Room) (va_Pc [.ref (o 0), .int (iI f), .int (iI w), .ref q9] (fun U => LQ G o ν σ π δ τ ω q9 fq U.heap ∧ KK G U ∧ KX FF0 U U.heap)) (va_Qi (fun r (_ : Unit) => r = iI (kxFolder σ f w)) (fun _ tZ => LQ G o ν σ π δ τ ω q9 fq tZ.heap) FF0) 1 6 FF0 := by
  refine z_metH (P := fun H : Heap => LQ G o ν σ π δ τ ω q9 fq H) (by decide) rfl (Nat.le_of_ble_eq_true rfl) (fun pp ee ss mm below meth cC E hr hml hown hts hlocks htab hP hK hX ls hl => ?_)
  have hl : lv_has ls 5 [(0, .ref (o 0)), (1, .int (iI f)), (2, .int (iI w)), (3, .ref q9)] := hl
  obtain ⟨hM, hA⟩ := hP
  refine lv_aload_n (pc := 0) E.1 E.2 dL_folder_0 rfl (lv_at hl 3 rfl) ?_
  refine z_iconst (pc := 1) E dL_folder_1 ?_
  refine lv_aload_n (pc := 2) E.1 E.2 dL_folder_2 rfl (lv_at hl 0 rfl) ?_
  refine lv_iload_n (pc := 3) E.1 E.2 dL_folder_3 rfl (lv_at hl 1 rfl) ?_
  refine lv_iload_n (pc := 4) E.1 E.2 dL_folder_4 rfl (lv_at hl 2 rfl) ?_
  have hS : va_S FF0 ss.heap ss.heap [] := va_S.rf
  refine z_thrown (pc := 5) (a := ([.ref (o 0), .int (iI f), .int (iI w)] : List Value).toArray) (rest := [.int (iI 0), .ref q9]) (vx_runV (As := [.int (iI f), .int (iI w)]) ⟨E.1, E.2, hml, hown, hts⟩ (mxX7_folder lL hst0 G o ν σ π δ τ ω f w hI hf hw hbad) (cwV 2 hts gL_folder_X7_folder rfl rfl rfl vdX7_folder ⟨Nat.le_of_ble_eq_true rfl, Nat.le_of_ble_eq_true rfl⟩) (z_preVX (P := fun H : Heap => QT G o ν σ π δ τ ω H) (hM.ob.recv hK rfl) hM hK hX) rfl rfl hl.1 rfl (lv_room (Nat.le_of_ble_eq_true rfl)) dL_folder_5 ⟨Nat.le_of_ble_eq_true rfl, Nat.le_of_ble_eq_true rfl⟩) (fun ce q8 H locs hoth hS hce hcv hcl => ?_)
  have hM2 := hM.kp (fun k hk => hoth _ (hM.lt k hk))
  have hA2 := hA.kp (hoth _ hA.lt)
  have hk9 : (kxFolder σ f w) = 1 ∨ (kxFolder σ f w) = 2 := (show (kxFolder σ f w) = 0 ∨ (kxFolder σ f w) = 1 ∨ (kxFolder σ f w) = 2 by unfold kxFolder; (try unfold kxPK); (repeat' split) <;> simp).resolve_left hbad
  rcases hk9 with hk | hk
  · rw [show exq xI xA xI (kxFolder σ f w) = xI by rw [hk]; rfl] at hcl
    refine vx_catch (own := RL) (name := xI) (E := xI) hown [] ⟨0, 10, 13, 28⟩ [⟨0, 10, 17, 19⟩] (htab.trans rfl) (fun z hz => absurd hz List.not_mem_nil) (by decide) (by decide) (hts _ (List.mem_of_getElem? (i := 1) rfl)) (z_cast hX (by decide)) hce hcv hcl ?_
    refine lv_astore (pc := 13) (lv' := [(4, .ref q8), (0, .ref (o 0)), (1, .int (iI f)), (2, .int (iI w)), (3, .ref q9)]) E.1 E.2 dL_folder_13 hl (by decide) rfl (fun ls hl => ?_)
    refine z_iconst (pc := 15) E dL_folder_15 ?_
    exact z_retWi (pc := 16) (P1 := fun H : Heap => LQ G o ν σ π δ τ ω q9 fq H) E hr (by rw [hk]) ⟨hM2, hA2⟩ hS hlocks dL_folder_16
  · rw [show exq xI xA xI (kxFolder σ f w) = xA by rw [hk]; rfl] at hcl
    refine vx_catch (own := RL) (name := xA) (E := xA) hown [⟨0, 10, 13, 28⟩] ⟨0, 10, 17, 19⟩ [] (htab.trans rfl) (List.forall_mem_cons.mpr ⟨Or.inr ⟨by decide, xI, (hts _ (List.mem_of_getElem? (i := 1) rfl)), hX.2.2.2.2 xA (by decide) xI (by decide) (by decide)⟩, fun z hz => absurd hz List.not_mem_nil⟩) (by decide) (by decide) (hts _ (List.mem_of_getElem? (i := 2) rfl)) (z_cast hX (by decide)) hce hcv hcl ?_
    refine lv_astore (pc := 17) (lv' := [(4, .ref q8), (0, .ref (o 0)), (1, .int (iI f)), (2, .int (iI w)), (3, .ref q9)]) E.1 E.2 dL_folder_17 hl (by decide) rfl (fun ls hl => ?_)
    refine z_iconst (pc := 19) E dL_folder_19 ?_
    exact z_retWi (pc := 20) (P1 := fun H : Heap => LQ G o ν σ π δ τ ω q9 fq H) E hr (by rw [hk]) ⟨hM2, hA2⟩ hS hlocks dL_folder_20
set_option maxRecDepth 100000 in
theorem mbL_walked (lL : Launch) (hst0 : lL.stackTraces = false) (G : GG) (o : Nat → Nat) (ν σ : Int → Int) (π : Nat → Int → Int) (δ τ ω : Int → Int) (i : Int) (hI : In σ) (hi : -2147483648 ≤ i ∧ i < 2147483648) (hbad : ¬ ((kxFo σ i) = 0)) (q9 : Nat) (fq : Int → Int) : Met lL yL_walked wsL_walked ({ frames := 8, cells := 1, slots := 6, locals := 144 } : Room) (va_Pc [.ref (o 0), .int (iI i), .ref q9] (fun U => LQ G o ν σ π δ τ ω q9 fq U.heap ∧ KK G U ∧ KX FF0 U U.heap)) (va_Qi (fun r (_ : Unit) => r = iI (kxFo σ i)) (fun _ tZ => LQ G o ν σ π δ τ ω q9 fq tZ.heap) FF0) 1 6 FF0 := by
  refine z_metH (P := fun H : Heap => LQ G o ν σ π δ τ ω q9 fq H) (by decide) rfl (Nat.le_of_ble_eq_true rfl) (fun pp ee ss mm below meth cC E hr hml hown hts hlocks htab hP hK hX ls hl => ?_)
  have hl : lv_has ls 4 [(0, .ref (o 0)), (1, .int (iI i)), (2, .ref q9)] := hl
  obtain ⟨hM, hA⟩ := hP
  refine lv_aload_n (pc := 0) E.1 E.2 dL_walked_0 rfl (lv_at hl 2 rfl) ?_
  refine z_iconst (pc := 1) E dL_walked_1 ?_
  refine lv_aload_n (pc := 2) E.1 E.2 dL_walked_2 rfl (lv_at hl 0 rfl) ?_
  refine lv_iload_n (pc := 3) E.1 E.2 dL_walked_3 rfl (lv_at hl 1 rfl) ?_
  have hS : va_S FF0 ss.heap ss.heap [] := va_S.rf
  refine z_thrown (pc := 4) (a := ([.ref (o 0), .int (iI i)] : List Value).toArray) (rest := [.int (iI 0), .ref q9]) (vx_runV (As := [.int (iI i)]) ⟨E.1, E.2, hml, hown, hts⟩ (mxX7_walked lL hst0 G o ν σ π δ τ ω i hI hi hbad) (cwV 1 hts gL_walked_X7_walked rfl rfl rfl vdX7_walked ⟨Nat.le_of_ble_eq_true rfl, Nat.le_of_ble_eq_true rfl⟩) (z_preVX (P := fun H : Heap => QT G o ν σ π δ τ ω H) (hM.ob.recv hK rfl) hM hK hX) rfl rfl hl.1 rfl (lv_room (Nat.le_of_ble_eq_true rfl)) dL_walked_4 ⟨Nat.le_of_ble_eq_true rfl, Nat.le_of_ble_eq_true rfl⟩) (fun ce q8 H locs hoth hS hce hcv hcl => ?_)
  have hM2 := hM.kp (fun k hk => hoth _ (hM.lt k hk))
  have hA2 := hA.kp (hoth _ hA.lt)
  have hk9 : (kxFo σ i) = 1 := (show (kxFo σ i) = 0 ∨ (kxFo σ i) = 1 by unfold kxFo; (try unfold kxPK); (repeat' split) <;> simp).resolve_left hbad
  have hk := hk9
  rw [show exq xI xI xI (kxFo σ i) = xI by rw [hk]; rfl] at hcl
  refine vx_catch (own := RL) (name := xI) (E := xI) hown [] ⟨0, 9, 12, 28⟩ [] (htab.trans rfl) (fun z hz => absurd hz List.not_mem_nil) (by decide) (by decide) (hts _ (List.mem_of_getElem? (i := 1) rfl)) (z_cast hX (by decide)) hce hcv hcl ?_
  refine lv_astore_n (pc := 12) (lv' := [(3, .ref q8), (0, .ref (o 0)), (1, .int (iI i)), (2, .ref q9)]) E.1 E.2 dL_walked_12 rfl hl (by decide) rfl (fun ls hl => ?_)
  refine z_iconst (pc := 13) E dL_walked_13 ?_
  exact z_retWi (pc := 14) (P1 := fun H : Heap => LQ G o ν σ π δ τ ω q9 fq H) E hr (by rw [hk]) ⟨hM2, hA2⟩ hS hlocks dL_walked_14
set_option maxRecDepth 100000 in
theorem mbL_heaviest (lL : Launch) (hst0 : lL.stackTraces = false) (G : GG) (o : Nat → Nat) (ν σ : Int → Int) (π : Nat → Int → Int) (δ τ ω : Int → Int) (f : Int) (hI : In σ) (hf : -2147483648 ≤ f ∧ f < 2147483648) (hbad : ¬ ((kxHeav σ f) = 0)) (q9 : Nat) (fq : Int → Int) : Met lL yL_heaviest wsL_heaviest ({ frames := 8, cells := 1, slots := 6, locals := 143 } : Room) (va_Pc [.ref (o 0), .int (iI f), .ref q9] (fun U => LQ G o ν σ π δ τ ω q9 fq U.heap ∧ KK G U ∧ KX FF0 U U.heap)) (va_Qi (fun r (_ : Unit) => r = iI (kxHeav σ f)) (fun _ tZ => LQ G o ν σ π δ τ ω q9 fq tZ.heap) FF0) 1 6 FF0 := by
  refine z_metH (P := fun H : Heap => LQ G o ν σ π δ τ ω q9 fq H) (by decide) rfl (Nat.le_of_ble_eq_true rfl) (fun pp ee ss mm below meth cC E hr hml hown hts hlocks htab hP hK hX ls hl => ?_)
  have hl : lv_has ls 4 [(0, .ref (o 0)), (1, .int (iI f)), (2, .ref q9)] := hl
  obtain ⟨hM, hA⟩ := hP
  refine lv_aload_n (pc := 0) E.1 E.2 dL_heaviest_0 rfl (lv_at hl 2 rfl) ?_
  refine z_iconst (pc := 1) E dL_heaviest_1 ?_
  refine lv_aload_n (pc := 2) E.1 E.2 dL_heaviest_2 rfl (lv_at hl 0 rfl) ?_
  refine lv_iload_n (pc := 3) E.1 E.2 dL_heaviest_3 rfl (lv_at hl 1 rfl) ?_
  have hS : va_S FF0 ss.heap ss.heap [] := va_S.rf
  refine z_thrown (pc := 4) (a := ([.ref (o 0), .int (iI f)] : List Value).toArray) (rest := [.int (iI 0), .ref q9]) (vx_runV (As := [.int (iI f)]) ⟨E.1, E.2, hml, hown, hts⟩ (mxX7_heaviest lL hst0 G o ν σ π δ τ ω f hI hf hbad) (cwV 1 hts gL_heaviest_X7_heaviest rfl rfl rfl vdX7_heaviest ⟨Nat.le_of_ble_eq_true rfl, Nat.le_of_ble_eq_true rfl⟩) (z_preVX (P := fun H : Heap => QT G o ν σ π δ τ ω H) (hM.ob.recv hK rfl) hM hK hX) rfl rfl hl.1 rfl (lv_room (Nat.le_of_ble_eq_true rfl)) dL_heaviest_4 ⟨Nat.le_of_ble_eq_true rfl, Nat.le_of_ble_eq_true rfl⟩) (fun ce q8 H locs hoth hS hce hcv hcl => ?_)
  have hM2 := hM.kp (fun k hk => hoth _ (hM.lt k hk))
  have hA2 := hA.kp (hoth _ hA.lt)
  have hk9 : (kxHeav σ f) = 1 ∨ (kxHeav σ f) = 2 := (show (kxHeav σ f) = 0 ∨ (kxHeav σ f) = 1 ∨ (kxHeav σ f) = 2 by unfold kxHeav; (try unfold kxPK); (repeat' split) <;> simp).resolve_left hbad
  rcases hk9 with hk | hk
  · rw [show exq xI xN xI (kxHeav σ f) = xI by rw [hk]; rfl] at hcl
    refine vx_catch (own := RL) (name := xI) (E := xI) hown [] ⟨0, 9, 12, 28⟩ [⟨0, 9, 15, 36⟩] (htab.trans rfl) (fun z hz => absurd hz List.not_mem_nil) (by decide) (by decide) (hts _ (List.mem_of_getElem? (i := 1) rfl)) (z_cast hX (by decide)) hce hcv hcl ?_
    refine lv_astore_n (pc := 12) (lv' := [(3, .ref q8), (0, .ref (o 0)), (1, .int (iI f)), (2, .ref q9)]) E.1 E.2 dL_heaviest_12 rfl hl (by decide) rfl (fun ls hl => ?_)
    refine z_iconst (pc := 13) E dL_heaviest_13 ?_
    exact z_retWi (pc := 14) (P1 := fun H : Heap => LQ G o ν σ π δ τ ω q9 fq H) E hr (by rw [hk]) ⟨hM2, hA2⟩ hS hlocks dL_heaviest_14
  · rw [show exq xI xN xI (kxHeav σ f) = xN by rw [hk]; rfl] at hcl
    refine vx_catch (own := RL) (name := xN) (E := xN) hown [⟨0, 9, 12, 28⟩] ⟨0, 9, 15, 36⟩ [] (htab.trans rfl) (List.forall_mem_cons.mpr ⟨Or.inr ⟨by decide, xI, (hts _ (List.mem_of_getElem? (i := 1) rfl)), hX.2.2.2.2 xN (by decide) xI (by decide) (by decide)⟩, fun z hz => absurd hz List.not_mem_nil⟩) (by decide) (by decide) (hts _ (List.mem_of_getElem? (i := 2) rfl)) (z_cast hX (by decide)) hce hcv hcl ?_
    refine lv_astore_n (pc := 15) (lv' := [(3, .ref q8), (0, .ref (o 0)), (1, .int (iI f)), (2, .ref q9)]) E.1 E.2 dL_heaviest_15 rfl hl (by decide) rfl (fun ls hl => ?_)
    refine z_iconst (pc := 16) E dL_heaviest_16 ?_
    exact z_retWi (pc := 17) (P1 := fun H : Heap => LQ G o ν σ π δ τ ω q9 fq H) E hr (by rw [hk]) ⟨hM2, hA2⟩ hS hlocks dL_heaviest_17
set_option maxRecDepth 100000 in
theorem mbL_addFolder (lL : Launch) (hst0 : lL.stackTraces = false) (G : GG) (o : Nat → Nat) (ν σ : Int → Int) (π : Nat → Int → Int) (δ τ ω : Int → Int) (p : Int) (x : Int) (hI : In σ) (hp : -2147483648 ≤ p ∧ p < 2147483648) (hx : -9223372036854775808 ≤ x ∧ x < 9223372036854775808) (hbad : ¬ ((kxAddF σ p x) = 0)) (q9 : Nat) (fq : Int → Int) : Met lL yL_addFolder wsL_addFolder ({ frames := 8, cells := 1, slots := 6, locals := 176 } : Room) (va_Pc [.ref (o 0), .int (iI p), .long (iL x), .ref q9] (fun U => LQ G o ν σ π δ τ ω q9 fq U.heap ∧ KK G U ∧ KX FF0 U U.heap)) (va_Qi (fun r (_ : Unit) => r = iI (kxAddF σ p x)) (fun _ tZ => LQ G o ν σ π δ τ ω q9 fq tZ.heap) FF0) 1 6 FF0 := by
  refine z_metH (P := fun H : Heap => LQ G o ν σ π δ τ ω q9 fq H) (by decide) rfl (Nat.le_of_ble_eq_true rfl) (fun pp ee ss mm below meth cC E hr hml hown hts hlocks htab hP hK hX ls hl => ?_)
  have hl : lv_has ls 6 [(0, .ref (o 0)), (1, .int (iI p)), (2, .long (iL x)), (4, .ref q9)] := hl
  obtain ⟨hM, hA⟩ := hP
  refine lv_aload (pc := 0) E.1 E.2 dL_addFolder_0 (lv_at hl 3 rfl) ?_
  refine z_iconst (pc := 2) E dL_addFolder_2 ?_
  refine lv_aload_n (pc := 3) E.1 E.2 dL_addFolder_3 rfl (lv_at hl 0 rfl) ?_
  refine lv_iload_n (pc := 4) E.1 E.2 dL_addFolder_4 rfl (lv_at hl 1 rfl) ?_
  refine lv_lload_n (pc := 5) E.1 E.2 dL_addFolder_5 rfl (lv_at hl 2 rfl) ?_
  have hS : va_S FF0 ss.heap ss.heap [] := va_S.rf
  refine z_thrown (pc := 6) (a := ([.ref (o 0), .int (iI p), .long (iL x)] : List Value).toArray) (rest := [.int (iI 0), .ref q9]) (vx_runV (As := [.int (iI p), .long (iL x)]) ⟨E.1, E.2, hml, hown, hts⟩ (mxX7_addFolder lL hst0 G o ν σ π δ τ ω p x hI hp hx hbad) (cwV 2 hts gL_addFolder_X7_addFolder rfl rfl rfl vdX7_addFolder ⟨Nat.le_of_ble_eq_true rfl, Nat.le_of_ble_eq_true rfl⟩) (z_preVX (P := fun H : Heap => QT G o ν σ π δ τ ω H) (hM.ob.recv hK rfl) hM hK hX) rfl rfl hl.1 rfl (lv_room (Nat.le_of_ble_eq_true rfl)) dL_addFolder_6 ⟨Nat.le_of_ble_eq_true rfl, Nat.le_of_ble_eq_true rfl⟩) (fun ce q8 H locs hoth hS hce hcv hcl => ?_)
  have hM2 := hM.kp (fun k hk => hoth _ (hM.lt k hk))
  have hA2 := hA.kp (hoth _ hA.lt)
  have hk9 : (kxAddF σ p x) = 1 ∨ (kxAddF σ p x) = 2 ∨ (kxAddF σ p x) = 3 := (show (kxAddF σ p x) = 0 ∨ (kxAddF σ p x) = 1 ∨ (kxAddF σ p x) = 2 ∨ (kxAddF σ p x) = 3 by unfold kxAddF; (try unfold kxPK); (repeat' split) <;> simp).resolve_left hbad
  rcases hk9 with hk | hk | hk
  · rw [show exq xI xA xS (kxAddF σ p x) = xI by rw [hk]; rfl] at hcl
    refine vx_catch (own := RL) (name := xI) (E := xI) hown [] ⟨0, 11, 14, 28⟩ [⟨0, 11, 18, 19⟩, ⟨0, 11, 22, 13⟩] (htab.trans rfl) (fun z hz => absurd hz List.not_mem_nil) (by decide) (by decide) (hts _ (List.mem_of_getElem? (i := 1) rfl)) (z_cast hX (by decide)) hce hcv hcl ?_
    refine lv_astore (pc := 14) (lv' := [(5, .ref q8), (0, .ref (o 0)), (1, .int (iI p)), (2, .long (iL x)), (4, .ref q9)]) E.1 E.2 dL_addFolder_14 hl (by decide) rfl (fun ls hl => ?_)
    refine z_iconst (pc := 16) E dL_addFolder_16 ?_
    exact z_retWi (pc := 17) (P1 := fun H : Heap => LQ G o ν σ π δ τ ω q9 fq H) E hr (by rw [hk]) ⟨hM2, hA2⟩ hS hlocks dL_addFolder_17
  · rw [show exq xI xA xS (kxAddF σ p x) = xA by rw [hk]; rfl] at hcl
    refine vx_catch (own := RL) (name := xA) (E := xA) hown [⟨0, 11, 14, 28⟩] ⟨0, 11, 18, 19⟩ [⟨0, 11, 22, 13⟩] (htab.trans rfl) (List.forall_mem_cons.mpr ⟨Or.inr ⟨by decide, xI, (hts _ (List.mem_of_getElem? (i := 1) rfl)), hX.2.2.2.2 xA (by decide) xI (by decide) (by decide)⟩, fun z hz => absurd hz List.not_mem_nil⟩) (by decide) (by decide) (hts _ (List.mem_of_getElem? (i := 2) rfl)) (z_cast hX (by decide)) hce hcv hcl ?_
    refine lv_astore (pc := 18) (lv' := [(5, .ref q8), (0, .ref (o 0)), (1, .int (iI p)), (2, .long (iL x)), (4, .ref q9)]) E.1 E.2 dL_addFolder_18 hl (by decide) rfl (fun ls hl => ?_)
    refine z_iconst (pc := 20) E dL_addFolder_20 ?_
    exact z_retWi (pc := 21) (P1 := fun H : Heap => LQ G o ν σ π δ τ ω q9 fq H) E hr (by rw [hk]) ⟨hM2, hA2⟩ hS hlocks dL_addFolder_21
  · rw [show exq xI xA xS (kxAddF σ p x) = xS by rw [hk]; rfl] at hcl
    refine vx_catch (own := RL) (name := xS) (E := xS) hown [⟨0, 11, 14, 28⟩, ⟨0, 11, 18, 19⟩] ⟨0, 11, 22, 13⟩ [] (htab.trans rfl) (List.forall_mem_cons.mpr ⟨Or.inr ⟨by decide, xI, (hts _ (List.mem_of_getElem? (i := 1) rfl)), hX.2.2.2.2 xS (by decide) xI (by decide) (by decide)⟩, List.forall_mem_cons.mpr ⟨Or.inr ⟨by decide, xA, (hts _ (List.mem_of_getElem? (i := 2) rfl)), hX.2.2.2.2 xS (by decide) xA (by decide) (by decide)⟩, fun z hz => absurd hz List.not_mem_nil⟩⟩) (by decide) (by decide) (hts _ (List.mem_of_getElem? (i := 3) rfl)) (z_cast hX (by decide)) hce hcv hcl ?_
    refine lv_astore (pc := 22) (lv' := [(5, .ref q8), (0, .ref (o 0)), (1, .int (iI p)), (2, .long (iL x)), (4, .ref q9)]) E.1 E.2 dL_addFolder_22 hl (by decide) rfl (fun ls hl => ?_)
    refine z_iconst (pc := 24) E dL_addFolder_24 ?_
    exact z_retWi (pc := 25) (P1 := fun H : Heap => LQ G o ν σ π δ τ ω q9 fq H) E hr (by rw [hk]) ⟨hM2, hA2⟩ hS hlocks dL_addFolder_25
set_option maxRecDepth 100000 in
theorem mbL_removeFolder (lL : Launch) (hst0 : lL.stackTraces = false) (G : GG) (o : Nat → Nat) (ν σ : Int → Int) (π : Nat → Int → Int) (δ τ ω : Int → Int) (f : Int) (hI : In σ) (hf : -2147483648 ≤ f ∧ f < 2147483648) (hbad : ¬ ((kxRemF σ f) = 0)) (q9 : Nat) (fq : Int → Int) : Met lL yL_removeFolder wsL_removeFolder ({ frames := 8, cells := 1, slots := 6, locals := 174 } : Room) (va_Pc [.ref (o 0), .int (iI f), .ref q9] (fun U => LQ G o ν σ π δ τ ω q9 fq U.heap ∧ KK G U ∧ KX FF0 U U.heap)) (va_Qi (fun r (_ : Unit) => r = iI (kxRemF σ f)) (fun _ tZ => LQ G o ν σ π δ τ ω q9 fq tZ.heap) FF0) 1 6 FF0 := by
  refine z_metH (P := fun H : Heap => LQ G o ν σ π δ τ ω q9 fq H) (by decide) rfl (Nat.le_of_ble_eq_true rfl) (fun pp ee ss mm below meth cC E hr hml hown hts hlocks htab hP hK hX ls hl => ?_)
  have hl : lv_has ls 4 [(0, .ref (o 0)), (1, .int (iI f)), (2, .ref q9)] := hl
  obtain ⟨hM, hA⟩ := hP
  refine lv_aload_n (pc := 0) E.1 E.2 dL_removeFolder_0 rfl (lv_at hl 2 rfl) ?_
  refine z_iconst (pc := 1) E dL_removeFolder_1 ?_
  refine lv_aload_n (pc := 2) E.1 E.2 dL_removeFolder_2 rfl (lv_at hl 0 rfl) ?_
  refine lv_iload_n (pc := 3) E.1 E.2 dL_removeFolder_3 rfl (lv_at hl 1 rfl) ?_
  have hS : va_S FF0 ss.heap ss.heap [] := va_S.rf
  refine z_thrown (pc := 4) (a := ([.ref (o 0), .int (iI f)] : List Value).toArray) (rest := [.int (iI 0), .ref q9]) (vx_runV (As := [.int (iI f)]) ⟨E.1, E.2, hml, hown, hts⟩ (mxX7_removeFolder lL hst0 G o ν σ π δ τ ω f hI hf hbad) (cwV 1 hts gL_removeFolder_X7_removeFolder rfl rfl rfl vdX7_removeFolder ⟨Nat.le_of_ble_eq_true rfl, Nat.le_of_ble_eq_true rfl⟩) (z_preVX (P := fun H : Heap => QT G o ν σ π δ τ ω H) (hM.ob.recv hK rfl) hM hK hX) rfl rfl hl.1 rfl (lv_room (Nat.le_of_ble_eq_true rfl)) dL_removeFolder_4 ⟨Nat.le_of_ble_eq_true rfl, Nat.le_of_ble_eq_true rfl⟩) (fun ce q8 H locs hoth hS hce hcv hcl => ?_)
  have hM2 := hM.kp (fun k hk => hoth _ (hM.lt k hk))
  have hA2 := hA.kp (hoth _ hA.lt)
  have hk9 : (kxRemF σ f) = 1 ∨ (kxRemF σ f) = 2 := (show (kxRemF σ f) = 0 ∨ (kxRemF σ f) = 1 ∨ (kxRemF σ f) = 2 by unfold kxRemF; (try unfold kxPK); (repeat' split) <;> simp).resolve_left hbad
  rcases hk9 with hk | hk
  · rw [show exq xI xS xI (kxRemF σ f) = xI by rw [hk]; rfl] at hcl
    refine vx_catch (own := RL) (name := xI) (E := xI) hown [] ⟨0, 9, 12, 28⟩ [⟨0, 9, 15, 13⟩] (htab.trans rfl) (fun z hz => absurd hz List.not_mem_nil) (by decide) (by decide) (hts _ (List.mem_of_getElem? (i := 1) rfl)) (z_cast hX (by decide)) hce hcv hcl ?_
    refine lv_astore_n (pc := 12) (lv' := [(3, .ref q8), (0, .ref (o 0)), (1, .int (iI f)), (2, .ref q9)]) E.1 E.2 dL_removeFolder_12 rfl hl (by decide) rfl (fun ls hl => ?_)
    refine z_iconst (pc := 13) E dL_removeFolder_13 ?_
    exact z_retWi (pc := 14) (P1 := fun H : Heap => LQ G o ν σ π δ τ ω q9 fq H) E hr (by rw [hk]) ⟨hM2, hA2⟩ hS hlocks dL_removeFolder_14
  · rw [show exq xI xS xI (kxRemF σ f) = xS by rw [hk]; rfl] at hcl
    refine vx_catch (own := RL) (name := xS) (E := xS) hown [⟨0, 9, 12, 28⟩] ⟨0, 9, 15, 13⟩ [] (htab.trans rfl) (List.forall_mem_cons.mpr ⟨Or.inr ⟨by decide, xI, (hts _ (List.mem_of_getElem? (i := 1) rfl)), hX.2.2.2.2 xS (by decide) xI (by decide) (by decide)⟩, fun z hz => absurd hz List.not_mem_nil⟩) (by decide) (by decide) (hts _ (List.mem_of_getElem? (i := 2) rfl)) (z_cast hX (by decide)) hce hcv hcl ?_
    refine lv_astore_n (pc := 15) (lv' := [(3, .ref q8), (0, .ref (o 0)), (1, .int (iI f)), (2, .ref q9)]) E.1 E.2 dL_removeFolder_15 rfl hl (by decide) rfl (fun ls hl => ?_)
    refine z_iconst (pc := 16) E dL_removeFolder_16 ?_
    exact z_retWi (pc := 17) (P1 := fun H : Heap => LQ G o ν σ π δ τ ω q9 fq H) E hr (by rw [hk]) ⟨hM2, hA2⟩ hS hlocks dL_removeFolder_17
set_option maxRecDepth 100000 in
theorem mbL_tagReason (lL : Launch) (hst0 : lL.stackTraces = false) (G : GG) (o : Nat → Nat) (ν σ : Int → Int) (π : Nat → Int → Int) (δ τ ω : Int → Int) (f : Int) (t : Int) (hI : In σ) (hf : -2147483648 ≤ f ∧ f < 2147483648) (ht : -2147483648 ≤ t ∧ t < 2147483648) (hbad : ¬ ((kxTagR σ f t) = 0)) (q9 : Nat) (fq : Int → Int) : Met lL yL_tagReason wsL_tagReason ({ frames := 8, cells := 1, slots := 6, locals := 157 } : Room) (va_Pc [.ref (o 0), .int (iI f), .int (iI t), .ref q9] (fun U => LQ G o ν σ π δ τ ω q9 fq U.heap ∧ KK G U ∧ KX FF0 U U.heap)) (va_Qi (fun r (_ : Unit) => r = iI (kxTagR σ f t)) (fun _ tZ => LQ G o ν σ π δ τ ω q9 fq tZ.heap) FF0) 1 6 FF0 := by
  refine z_metH (P := fun H : Heap => LQ G o ν σ π δ τ ω q9 fq H) (by decide) rfl (Nat.le_of_ble_eq_true rfl) (fun pp ee ss mm below meth cC E hr hml hown hts hlocks htab hP hK hX ls hl => ?_)
  have hl : lv_has ls 5 [(0, .ref (o 0)), (1, .int (iI f)), (2, .int (iI t)), (3, .ref q9)] := hl
  obtain ⟨hM, hA⟩ := hP
  refine lv_aload_n (pc := 0) E.1 E.2 dL_tagReason_0 rfl (lv_at hl 3 rfl) ?_
  refine z_iconst (pc := 1) E dL_tagReason_1 ?_
  refine lv_aload_n (pc := 2) E.1 E.2 dL_tagReason_2 rfl (lv_at hl 0 rfl) ?_
  refine lv_iload_n (pc := 3) E.1 E.2 dL_tagReason_3 rfl (lv_at hl 1 rfl) ?_
  refine lv_iload_n (pc := 4) E.1 E.2 dL_tagReason_4 rfl (lv_at hl 2 rfl) ?_
  have hS : va_S FF0 ss.heap ss.heap [] := va_S.rf
  refine z_thrown (pc := 5) (a := ([.ref (o 0), .int (iI f), .int (iI t)] : List Value).toArray) (rest := [.int (iI 0), .ref q9]) (vx_runV (As := [.int (iI f), .int (iI t)]) ⟨E.1, E.2, hml, hown, hts⟩ (mxX7_tagReason lL hst0 G o ν σ π δ τ ω f t hI hf ht hbad) (cwV 2 hts gL_tagReason_X7_tagReason rfl rfl rfl vdX7_tagReason ⟨Nat.le_of_ble_eq_true rfl, Nat.le_of_ble_eq_true rfl⟩) (z_preVX (P := fun H : Heap => QT G o ν σ π δ τ ω H) (hM.ob.recv hK rfl) hM hK hX) rfl rfl hl.1 rfl (lv_room (Nat.le_of_ble_eq_true rfl)) dL_tagReason_5 ⟨Nat.le_of_ble_eq_true rfl, Nat.le_of_ble_eq_true rfl⟩) (fun ce q8 H locs hoth hS hce hcv hcl => ?_)
  have hM2 := hM.kp (fun k hk => hoth _ (hM.lt k hk))
  have hA2 := hA.kp (hoth _ hA.lt)
  have hk9 : (kxTagR σ f t) = 1 ∨ (kxTagR σ f t) = 2 := (show (kxTagR σ f t) = 0 ∨ (kxTagR σ f t) = 1 ∨ (kxTagR σ f t) = 2 by unfold kxTagR; (try unfold kxPK); (repeat' split) <;> simp).resolve_left hbad
  rcases hk9 with hk | hk
  · rw [show exq xI xA xI (kxTagR σ f t) = xI by rw [hk]; rfl] at hcl
    refine vx_catch (own := RL) (name := xI) (E := xI) hown [] ⟨0, 10, 13, 28⟩ [⟨0, 10, 17, 19⟩] (htab.trans rfl) (fun z hz => absurd hz List.not_mem_nil) (by decide) (by decide) (hts _ (List.mem_of_getElem? (i := 1) rfl)) (z_cast hX (by decide)) hce hcv hcl ?_
    refine lv_astore (pc := 13) (lv' := [(4, .ref q8), (0, .ref (o 0)), (1, .int (iI f)), (2, .int (iI t)), (3, .ref q9)]) E.1 E.2 dL_tagReason_13 hl (by decide) rfl (fun ls hl => ?_)
    refine z_iconst (pc := 15) E dL_tagReason_15 ?_
    exact z_retWi (pc := 16) (P1 := fun H : Heap => LQ G o ν σ π δ τ ω q9 fq H) E hr (by rw [hk]) ⟨hM2, hA2⟩ hS hlocks dL_tagReason_16
  · rw [show exq xI xA xI (kxTagR σ f t) = xA by rw [hk]; rfl] at hcl
    refine vx_catch (own := RL) (name := xA) (E := xA) hown [⟨0, 10, 13, 28⟩] ⟨0, 10, 17, 19⟩ [] (htab.trans rfl) (List.forall_mem_cons.mpr ⟨Or.inr ⟨by decide, xI, (hts _ (List.mem_of_getElem? (i := 1) rfl)), hX.2.2.2.2 xA (by decide) xI (by decide) (by decide)⟩, fun z hz => absurd hz List.not_mem_nil⟩) (by decide) (by decide) (hts _ (List.mem_of_getElem? (i := 2) rfl)) (z_cast hX (by decide)) hce hcv hcl ?_
    refine lv_astore (pc := 17) (lv' := [(4, .ref q8), (0, .ref (o 0)), (1, .int (iI f)), (2, .int (iI t)), (3, .ref q9)]) E.1 E.2 dL_tagReason_17 hl (by decide) rfl (fun ls hl => ?_)
    refine z_iconst (pc := 19) E dL_tagReason_19 ?_
    exact z_retWi (pc := 20) (P1 := fun H : Heap => LQ G o ν σ π δ τ ω q9 fq H) E hr (by rw [hk]) ⟨hM2, hA2⟩ hS hlocks dL_tagReason_20
set_option maxRecDepth 100000 in
theorem mbL_tag (lL : Launch) (hst0 : lL.stackTraces = false) (G : GG) (o : Nat → Nat) (ν σ : Int → Int) (π : Nat → Int → Int) (δ τ ω : Int → Int) (f : Int) (t : Int) (hI : In σ) (hf : -2147483648 ≤ f ∧ f < 2147483648) (ht : -2147483648 ≤ t ∧ t < 2147483648) (hbad : ¬ ((kxTag σ f t) = 0)) (q9 : Nat) (fq : Int → Int) : Met lL yL_tag wsL_tag ({ frames := 9, cells := 1, slots := 6, locals := 180 } : Room) (va_Pc [.ref (o 0), .int (iI f), .int (iI t), .ref q9] (fun U => LQ G o ν σ π δ τ ω q9 fq U.heap ∧ KK G U ∧ KX FF0 U U.heap)) (va_Qi (fun r (_ : Unit) => r = iI (kxTag σ f t)) (fun _ tZ => LQ G o ν σ π δ τ ω q9 fq tZ.heap) FF0) 1 6 FF0 := by
  refine z_metH (P := fun H : Heap => LQ G o ν σ π δ τ ω q9 fq H) (by decide) rfl (Nat.le_of_ble_eq_true rfl) (fun pp ee ss mm below meth cC E hr hml hown hts hlocks htab hP hK hX ls hl => ?_)
  have hl : lv_has ls 5 [(0, .ref (o 0)), (1, .int (iI f)), (2, .int (iI t)), (3, .ref q9)] := hl
  obtain ⟨hM, hA⟩ := hP
  refine lv_aload_n (pc := 0) E.1 E.2 dL_tag_0 rfl (lv_at hl 3 rfl) ?_
  refine z_iconst (pc := 1) E dL_tag_1 ?_
  refine lv_aload_n (pc := 2) E.1 E.2 dL_tag_2 rfl (lv_at hl 0 rfl) ?_
  refine lv_iload_n (pc := 3) E.1 E.2 dL_tag_3 rfl (lv_at hl 1 rfl) ?_
  refine lv_iload_n (pc := 4) E.1 E.2 dL_tag_4 rfl (lv_at hl 2 rfl) ?_
  have hS : va_S FF0 ss.heap ss.heap [] := va_S.rf
  refine z_thrown (pc := 5) (a := ([.ref (o 0), .int (iI f), .int (iI t)] : List Value).toArray) (rest := [.int (iI 0), .ref q9]) (vx_runV (As := [.int (iI f), .int (iI t)]) ⟨E.1, E.2, hml, hown, hts⟩ (mxX7_tag lL hst0 G o ν σ π δ τ ω f t hI hf ht hbad) (cwV 2 hts gL_tag_X7_tag rfl rfl rfl vdX7_tag ⟨Nat.le_of_ble_eq_true rfl, Nat.le_of_ble_eq_true rfl⟩) (z_preVX (P := fun H : Heap => QT G o ν σ π δ τ ω H) (hM.ob.recv hK rfl) hM hK hX) rfl rfl hl.1 rfl (lv_room (Nat.le_of_ble_eq_true rfl)) dL_tag_5 ⟨Nat.le_of_ble_eq_true rfl, Nat.le_of_ble_eq_true rfl⟩) (fun ce q8 H locs hoth hS hce hcv hcl => ?_)
  have hM2 := hM.kp (fun k hk => hoth _ (hM.lt k hk))
  have hA2 := hA.kp (hoth _ hA.lt)
  have hk9 : (kxTag σ f t) = 1 ∨ (kxTag σ f t) = 2 ∨ (kxTag σ f t) = 3 := (show (kxTag σ f t) = 0 ∨ (kxTag σ f t) = 1 ∨ (kxTag σ f t) = 2 ∨ (kxTag σ f t) = 3 by unfold kxTag; (try unfold kxPK); (repeat' split) <;> simp).resolve_left hbad
  rcases hk9 with hk | hk | hk
  · rw [show exq xI xA xS (kxTag σ f t) = xI by rw [hk]; rfl] at hcl
    refine vx_catch (own := RL) (name := xI) (E := xI) hown [] ⟨0, 10, 13, 28⟩ [⟨0, 10, 17, 19⟩, ⟨0, 10, 21, 13⟩] (htab.trans rfl) (fun z hz => absurd hz List.not_mem_nil) (by decide) (by decide) (hts _ (List.mem_of_getElem? (i := 1) rfl)) (z_cast hX (by decide)) hce hcv hcl ?_
    refine lv_astore (pc := 13) (lv' := [(4, .ref q8), (0, .ref (o 0)), (1, .int (iI f)), (2, .int (iI t)), (3, .ref q9)]) E.1 E.2 dL_tag_13 hl (by decide) rfl (fun ls hl => ?_)
    refine z_iconst (pc := 15) E dL_tag_15 ?_
    exact z_retWi (pc := 16) (P1 := fun H : Heap => LQ G o ν σ π δ τ ω q9 fq H) E hr (by rw [hk]) ⟨hM2, hA2⟩ hS hlocks dL_tag_16
  · rw [show exq xI xA xS (kxTag σ f t) = xA by rw [hk]; rfl] at hcl
    refine vx_catch (own := RL) (name := xA) (E := xA) hown [⟨0, 10, 13, 28⟩] ⟨0, 10, 17, 19⟩ [⟨0, 10, 21, 13⟩] (htab.trans rfl) (List.forall_mem_cons.mpr ⟨Or.inr ⟨by decide, xI, (hts _ (List.mem_of_getElem? (i := 1) rfl)), hX.2.2.2.2 xA (by decide) xI (by decide) (by decide)⟩, fun z hz => absurd hz List.not_mem_nil⟩) (by decide) (by decide) (hts _ (List.mem_of_getElem? (i := 2) rfl)) (z_cast hX (by decide)) hce hcv hcl ?_
    refine lv_astore (pc := 17) (lv' := [(4, .ref q8), (0, .ref (o 0)), (1, .int (iI f)), (2, .int (iI t)), (3, .ref q9)]) E.1 E.2 dL_tag_17 hl (by decide) rfl (fun ls hl => ?_)
    refine z_iconst (pc := 19) E dL_tag_19 ?_
    exact z_retWi (pc := 20) (P1 := fun H : Heap => LQ G o ν σ π δ τ ω q9 fq H) E hr (by rw [hk]) ⟨hM2, hA2⟩ hS hlocks dL_tag_20
  · rw [show exq xI xA xS (kxTag σ f t) = xS by rw [hk]; rfl] at hcl
    refine vx_catch (own := RL) (name := xS) (E := xS) hown [⟨0, 10, 13, 28⟩, ⟨0, 10, 17, 19⟩] ⟨0, 10, 21, 13⟩ [] (htab.trans rfl) (List.forall_mem_cons.mpr ⟨Or.inr ⟨by decide, xI, (hts _ (List.mem_of_getElem? (i := 1) rfl)), hX.2.2.2.2 xS (by decide) xI (by decide) (by decide)⟩, List.forall_mem_cons.mpr ⟨Or.inr ⟨by decide, xA, (hts _ (List.mem_of_getElem? (i := 2) rfl)), hX.2.2.2.2 xS (by decide) xA (by decide) (by decide)⟩, fun z hz => absurd hz List.not_mem_nil⟩⟩) (by decide) (by decide) (hts _ (List.mem_of_getElem? (i := 3) rfl)) (z_cast hX (by decide)) hce hcv hcl ?_
    refine lv_astore (pc := 21) (lv' := [(4, .ref q8), (0, .ref (o 0)), (1, .int (iI f)), (2, .int (iI t)), (3, .ref q9)]) E.1 E.2 dL_tag_21 hl (by decide) rfl (fun ls hl => ?_)
    refine z_iconst (pc := 23) E dL_tag_23 ?_
    exact z_retWi (pc := 24) (P1 := fun H : Heap => LQ G o ν σ π δ τ ω q9 fq H) E hr (by rw [hk]) ⟨hM2, hA2⟩ hS hlocks dL_tag_24
set_option maxRecDepth 100000 in
theorem mbL_moveReason (lL : Launch) (hst0 : lL.stackTraces = false) (G : GG) (o : Nat → Nat) (ν σ : Int → Int) (π : Nat → Int → Int) (δ τ ω : Int → Int) (f : Int) (q : Int) (hI : In σ) (hf : -2147483648 ≤ f ∧ f < 2147483648) (hq : -2147483648 ≤ q ∧ q < 2147483648) (hbad : ¬ ((kxMoveR σ f q) = 0)) (q9 : Nat) (fq : Int → Int) : Met lL yL_moveReason wsL_moveReason ({ frames := 8, cells := 1, slots := 6, locals := 157 } : Room) (va_Pc [.ref (o 0), .int (iI f), .int (iI q), .ref q9] (fun U => LQ G o ν σ π δ τ ω q9 fq U.heap ∧ KK G U ∧ KX FF0 U U.heap)) (va_Qi (fun r (_ : Unit) => r = iI (kxMoveR σ f q)) (fun _ tZ => LQ G o ν σ π δ τ ω q9 fq tZ.heap) FF0) 1 6 FF0 := by
  refine z_metH (P := fun H : Heap => LQ G o ν σ π δ τ ω q9 fq H) (by decide) rfl (Nat.le_of_ble_eq_true rfl) (fun pp ee ss mm below meth cC E hr hml hown hts hlocks htab hP hK hX ls hl => ?_)
  have hl : lv_has ls 5 [(0, .ref (o 0)), (1, .int (iI f)), (2, .int (iI q)), (3, .ref q9)] := hl
  obtain ⟨hM, hA⟩ := hP
  refine lv_aload_n (pc := 0) E.1 E.2 dL_moveReason_0 rfl (lv_at hl 3 rfl) ?_
  refine z_iconst (pc := 1) E dL_moveReason_1 ?_
  refine lv_aload_n (pc := 2) E.1 E.2 dL_moveReason_2 rfl (lv_at hl 0 rfl) ?_
  refine lv_iload_n (pc := 3) E.1 E.2 dL_moveReason_3 rfl (lv_at hl 1 rfl) ?_
  refine lv_iload_n (pc := 4) E.1 E.2 dL_moveReason_4 rfl (lv_at hl 2 rfl) ?_
  have hS : va_S FF0 ss.heap ss.heap [] := va_S.rf
  refine z_thrown (pc := 5) (a := ([.ref (o 0), .int (iI f), .int (iI q)] : List Value).toArray) (rest := [.int (iI 0), .ref q9]) (vx_runV (As := [.int (iI f), .int (iI q)]) ⟨E.1, E.2, hml, hown, hts⟩ (mxX7_moveReason lL hst0 G o ν σ π δ τ ω f q hI hf hq hbad) (cwV 2 hts gL_moveReason_X7_moveReason rfl rfl rfl vdX7_moveReason ⟨Nat.le_of_ble_eq_true rfl, Nat.le_of_ble_eq_true rfl⟩) (z_preVX (P := fun H : Heap => QT G o ν σ π δ τ ω H) (hM.ob.recv hK rfl) hM hK hX) rfl rfl hl.1 rfl (lv_room (Nat.le_of_ble_eq_true rfl)) dL_moveReason_5 ⟨Nat.le_of_ble_eq_true rfl, Nat.le_of_ble_eq_true rfl⟩) (fun ce q8 H locs hoth hS hce hcv hcl => ?_)
  have hM2 := hM.kp (fun k hk => hoth _ (hM.lt k hk))
  have hA2 := hA.kp (hoth _ hA.lt)
  have hk9 : (kxMoveR σ f q) = 1 := (show (kxMoveR σ f q) = 0 ∨ (kxMoveR σ f q) = 1 by unfold kxMoveR; (try unfold kxPK); (repeat' split) <;> simp).resolve_left hbad
  have hk := hk9
  rw [show exq xI xI xI (kxMoveR σ f q) = xI by rw [hk]; rfl] at hcl
  refine vx_catch (own := RL) (name := xI) (E := xI) hown [] ⟨0, 10, 13, 28⟩ [] (htab.trans rfl) (fun z hz => absurd hz List.not_mem_nil) (by decide) (by decide) (hts _ (List.mem_of_getElem? (i := 1) rfl)) (z_cast hX (by decide)) hce hcv hcl ?_
  refine lv_astore (pc := 13) (lv' := [(4, .ref q8), (0, .ref (o 0)), (1, .int (iI f)), (2, .int (iI q)), (3, .ref q9)]) E.1 E.2 dL_moveReason_13 hl (by decide) rfl (fun ls hl => ?_)
  refine z_iconst (pc := 15) E dL_moveReason_15 ?_
  exact z_retWi (pc := 16) (P1 := fun H : Heap => LQ G o ν σ π δ τ ω q9 fq H) E hr (by rw [hk]) ⟨hM2, hA2⟩ hS hlocks dL_moveReason_16
set_option maxRecDepth 100000 in
theorem mbL_moveFolder (lL : Launch) (hst0 : lL.stackTraces = false) (G : GG) (o : Nat → Nat) (ν σ : Int → Int) (π : Nat → Int → Int) (δ τ ω : Int → Int) (f : Int) (q : Int) (hI : In σ) (hf : -2147483648 ≤ f ∧ f < 2147483648) (hq : -2147483648 ≤ q ∧ q < 2147483648) (hbad : ¬ ((kxMove σ f q) = 0)) (q9 : Nat) (fq : Int → Int) : Met lL yL_moveFolder wsL_moveFolder ({ frames := 9, cells := 1, slots := 6, locals := 180 } : Room) (va_Pc [.ref (o 0), .int (iI f), .int (iI q), .ref q9] (fun U => LQ G o ν σ π δ τ ω q9 fq U.heap ∧ KK G U ∧ KX FF0 U U.heap)) (va_Qi (fun r (_ : Unit) => r = iI (kxMove σ f q)) (fun _ tZ => LQ G o ν σ π δ τ ω q9 fq tZ.heap) FF0) 1 6 FF0 := by
  refine z_metH (P := fun H : Heap => LQ G o ν σ π δ τ ω q9 fq H) (by decide) rfl (Nat.le_of_ble_eq_true rfl) (fun pp ee ss mm below meth cC E hr hml hown hts hlocks htab hP hK hX ls hl => ?_)
  have hl : lv_has ls 5 [(0, .ref (o 0)), (1, .int (iI f)), (2, .int (iI q)), (3, .ref q9)] := hl
  obtain ⟨hM, hA⟩ := hP
  refine lv_aload_n (pc := 0) E.1 E.2 dL_moveFolder_0 rfl (lv_at hl 3 rfl) ?_
  refine z_iconst (pc := 1) E dL_moveFolder_1 ?_
  refine lv_aload_n (pc := 2) E.1 E.2 dL_moveFolder_2 rfl (lv_at hl 0 rfl) ?_
  refine lv_iload_n (pc := 3) E.1 E.2 dL_moveFolder_3 rfl (lv_at hl 1 rfl) ?_
  refine lv_iload_n (pc := 4) E.1 E.2 dL_moveFolder_4 rfl (lv_at hl 2 rfl) ?_
  have hS : va_S FF0 ss.heap ss.heap [] := va_S.rf
  refine z_thrown (pc := 5) (a := ([.ref (o 0), .int (iI f), .int (iI q)] : List Value).toArray) (rest := [.int (iI 0), .ref q9]) (vx_runV (As := [.int (iI f), .int (iI q)]) ⟨E.1, E.2, hml, hown, hts⟩ (mxX7_moveFolder lL hst0 G o ν σ π δ τ ω f q hI hf hq hbad) (cwV 2 hts gL_moveFolder_X7_moveFolder rfl rfl rfl vdX7_moveFolder ⟨Nat.le_of_ble_eq_true rfl, Nat.le_of_ble_eq_true rfl⟩) (z_preVX (P := fun H : Heap => QT G o ν σ π δ τ ω H) (hM.ob.recv hK rfl) hM hK hX) rfl rfl hl.1 rfl (lv_room (Nat.le_of_ble_eq_true rfl)) dL_moveFolder_5 ⟨Nat.le_of_ble_eq_true rfl, Nat.le_of_ble_eq_true rfl⟩) (fun ce q8 H locs hoth hS hce hcv hcl => ?_)
  have hM2 := hM.kp (fun k hk => hoth _ (hM.lt k hk))
  have hA2 := hA.kp (hoth _ hA.lt)
  have hk9 : (kxMove σ f q) = 1 ∨ (kxMove σ f q) = 2 := (show (kxMove σ f q) = 0 ∨ (kxMove σ f q) = 1 ∨ (kxMove σ f q) = 2 by unfold kxMove; (try unfold kxPK); (repeat' split) <;> simp).resolve_left hbad
  rcases hk9 with hk | hk
  · rw [show exq xI xS xI (kxMove σ f q) = xI by rw [hk]; rfl] at hcl
    refine vx_catch (own := RL) (name := xI) (E := xI) hown [] ⟨0, 10, 13, 28⟩ [⟨0, 10, 17, 13⟩] (htab.trans rfl) (fun z hz => absurd hz List.not_mem_nil) (by decide) (by decide) (hts _ (List.mem_of_getElem? (i := 1) rfl)) (z_cast hX (by decide)) hce hcv hcl ?_
    refine lv_astore (pc := 13) (lv' := [(4, .ref q8), (0, .ref (o 0)), (1, .int (iI f)), (2, .int (iI q)), (3, .ref q9)]) E.1 E.2 dL_moveFolder_13 hl (by decide) rfl (fun ls hl => ?_)
    refine z_iconst (pc := 15) E dL_moveFolder_15 ?_
    exact z_retWi (pc := 16) (P1 := fun H : Heap => LQ G o ν σ π δ τ ω q9 fq H) E hr (by rw [hk]) ⟨hM2, hA2⟩ hS hlocks dL_moveFolder_16
  · rw [show exq xI xS xI (kxMove σ f q) = xS by rw [hk]; rfl] at hcl
    refine vx_catch (own := RL) (name := xS) (E := xS) hown [⟨0, 10, 13, 28⟩] ⟨0, 10, 17, 13⟩ [] (htab.trans rfl) (List.forall_mem_cons.mpr ⟨Or.inr ⟨by decide, xI, (hts _ (List.mem_of_getElem? (i := 1) rfl)), hX.2.2.2.2 xS (by decide) xI (by decide) (by decide)⟩, fun z hz => absurd hz List.not_mem_nil⟩) (by decide) (by decide) (hts _ (List.mem_of_getElem? (i := 2) rfl)) (z_cast hX (by decide)) hce hcv hcl ?_
    refine lv_astore (pc := 17) (lv' := [(4, .ref q8), (0, .ref (o 0)), (1, .int (iI f)), (2, .int (iI q)), (3, .ref q9)]) E.1 E.2 dL_moveFolder_17 hl (by decide) rfl (fun ls hl => ?_)
    refine z_iconst (pc := 19) E dL_moveFolder_19 ?_
    exact z_retWi (pc := 20) (P1 := fun H : Heap => LQ G o ν σ π δ τ ω q9 fq H) E hr (by rw [hk]) ⟨hM2, hA2⟩ hS hlocks dL_moveFolder_20
set_option maxRecDepth 100000 in
theorem mbL_file (lL : Launch) (hst0 : lL.stackTraces = false) (G : GG) (o : Nat → Nat) (ν σ : Int → Int) (π : Nat → Int → Int) (δ τ ω : Int → Int) (k : Int) (w : Int) (hI : In σ) (hk : -2147483648 ≤ k ∧ k < 2147483648) (hw : -2147483648 ≤ w ∧ w < 2147483648) (hbad : ¬ ((kxFile σ k w) = 0)) (q9 : Nat) (fq : Int → Int) : Met lL yL_file wsL_file ({ frames := 8, cells := 1, slots := 6, locals := 143 } : Room) (va_Pc [.ref (o 0), .int (iI k), .int (iI w), .ref q9] (fun U => LQ G o ν σ π δ τ ω q9 fq U.heap ∧ KK G U ∧ KX FF0 U U.heap)) (va_Qi (fun r (_ : Unit) => r = iI (kxFile σ k w)) (fun _ tZ => LQ G o ν σ π δ τ ω q9 fq tZ.heap) FF0) 1 6 FF0 := by
  refine z_metH (P := fun H : Heap => LQ G o ν σ π δ τ ω q9 fq H) (by decide) rfl (Nat.le_of_ble_eq_true rfl) (fun pp ee ss mm below meth cC E hr hml hown hts hlocks htab hP hK hX ls hl => ?_)
  have hl : lv_has ls 5 [(0, .ref (o 0)), (1, .int (iI k)), (2, .int (iI w)), (3, .ref q9)] := hl
  obtain ⟨hM, hA⟩ := hP
  refine lv_aload_n (pc := 0) E.1 E.2 dL_file_0 rfl (lv_at hl 3 rfl) ?_
  refine z_iconst (pc := 1) E dL_file_1 ?_
  refine lv_aload_n (pc := 2) E.1 E.2 dL_file_2 rfl (lv_at hl 0 rfl) ?_
  refine lv_iload_n (pc := 3) E.1 E.2 dL_file_3 rfl (lv_at hl 1 rfl) ?_
  refine lv_iload_n (pc := 4) E.1 E.2 dL_file_4 rfl (lv_at hl 2 rfl) ?_
  have hS : va_S FF0 ss.heap ss.heap [] := va_S.rf
  refine z_thrown (pc := 5) (a := ([.ref (o 0), .int (iI k), .int (iI w)] : List Value).toArray) (rest := [.int (iI 0), .ref q9]) (vx_runV (As := [.int (iI k), .int (iI w)]) ⟨E.1, E.2, hml, hown, hts⟩ (mxX7_file lL hst0 G o ν σ π δ τ ω k w hI hk hw hbad) (cwV 2 hts gL_file_X7_file rfl rfl rfl vdX7_file ⟨Nat.le_of_ble_eq_true rfl, Nat.le_of_ble_eq_true rfl⟩) (z_preVX (P := fun H : Heap => QT G o ν σ π δ τ ω H) (hM.ob.recv hK rfl) hM hK hX) rfl rfl hl.1 rfl (lv_room (Nat.le_of_ble_eq_true rfl)) dL_file_5 ⟨Nat.le_of_ble_eq_true rfl, Nat.le_of_ble_eq_true rfl⟩) (fun ce q8 H locs hoth hS hce hcv hcl => ?_)
  have hM2 := hM.kp (fun k hk => hoth _ (hM.lt k hk))
  have hA2 := hA.kp (hoth _ hA.lt)
  have hk9 : (kxFile σ k w) = 1 ∨ (kxFile σ k w) = 2 := (show (kxFile σ k w) = 0 ∨ (kxFile σ k w) = 1 ∨ (kxFile σ k w) = 2 by unfold kxFile; (try unfold kxPK); (repeat' split) <;> simp).resolve_left hbad
  rcases hk9 with hk | hk
  · rw [show exq xI xA xI (kxFile σ k w) = xI by rw [hk]; rfl] at hcl
    refine vx_catch (own := RL) (name := xI) (E := xI) hown [] ⟨0, 10, 13, 28⟩ [⟨0, 10, 17, 19⟩] (htab.trans rfl) (fun z hz => absurd hz List.not_mem_nil) (by decide) (by decide) (hts _ (List.mem_of_getElem? (i := 1) rfl)) (z_cast hX (by decide)) hce hcv hcl ?_
    refine lv_astore (pc := 13) (lv' := [(4, .ref q8), (0, .ref (o 0)), (1, .int (iI k)), (2, .int (iI w)), (3, .ref q9)]) E.1 E.2 dL_file_13 hl (by decide) rfl (fun ls hl => ?_)
    refine z_iconst (pc := 15) E dL_file_15 ?_
    exact z_retWi (pc := 16) (P1 := fun H : Heap => LQ G o ν σ π δ τ ω q9 fq H) E hr (by rw [hk]) ⟨hM2, hA2⟩ hS hlocks dL_file_16
  · rw [show exq xI xA xI (kxFile σ k w) = xA by rw [hk]; rfl] at hcl
    refine vx_catch (own := RL) (name := xA) (E := xA) hown [⟨0, 10, 13, 28⟩] ⟨0, 10, 17, 19⟩ [] (htab.trans rfl) (List.forall_mem_cons.mpr ⟨Or.inr ⟨by decide, xI, (hts _ (List.mem_of_getElem? (i := 1) rfl)), hX.2.2.2.2 xA (by decide) xI (by decide) (by decide)⟩, fun z hz => absurd hz List.not_mem_nil⟩) (by decide) (by decide) (hts _ (List.mem_of_getElem? (i := 2) rfl)) (z_cast hX (by decide)) hce hcv hcl ?_
    refine lv_astore (pc := 17) (lv' := [(4, .ref q8), (0, .ref (o 0)), (1, .int (iI k)), (2, .int (iI w)), (3, .ref q9)]) E.1 E.2 dL_file_17 hl (by decide) rfl (fun ls hl => ?_)
    refine z_iconst (pc := 19) E dL_file_19 ?_
    exact z_retWi (pc := 20) (P1 := fun H : Heap => LQ G o ν σ π δ τ ω q9 fq H) E hr (by rw [hk]) ⟨hM2, hA2⟩ hS hlocks dL_file_20
set_option maxRecDepth 100000 in
theorem mbL_writeReason (lL : Launch) (hst0 : lL.stackTraces = false) (G : GG) (o : Nat → Nat) (ν σ : Int → Int) (π : Nat → Int → Int) (δ τ ω : Int → Int) (f : Int) (b : Int) (hI : In σ) (hf : -2147483648 ≤ f ∧ f < 2147483648) (hb : -2147483648 ≤ b ∧ b < 2147483648) (hbad : ¬ ((kxWriteR σ f b) = 0)) (q9 : Nat) (fq : Int → Int) : Met lL yL_writeReason wsL_writeReason ({ frames := 8, cells := 1, slots := 6, locals := 144 } : Room) (va_Pc [.ref (o 0), .int (iI f), .int (iI b), .ref q9] (fun U => LQ G o ν σ π δ τ ω q9 fq U.heap ∧ KK G U ∧ KX FF0 U U.heap)) (va_Qi (fun r (_ : Unit) => r = iI (kxWriteR σ f b)) (fun _ tZ => LQ G o ν σ π δ τ ω q9 fq tZ.heap) FF0) 1 6 FF0 := by
  refine z_metH (P := fun H : Heap => LQ G o ν σ π δ τ ω q9 fq H) (by decide) rfl (Nat.le_of_ble_eq_true rfl) (fun pp ee ss mm below meth cC E hr hml hown hts hlocks htab hP hK hX ls hl => ?_)
  have hl : lv_has ls 5 [(0, .ref (o 0)), (1, .int (iI f)), (2, .int (iI b)), (3, .ref q9)] := hl
  obtain ⟨hM, hA⟩ := hP
  refine lv_aload_n (pc := 0) E.1 E.2 dL_writeReason_0 rfl (lv_at hl 3 rfl) ?_
  refine z_iconst (pc := 1) E dL_writeReason_1 ?_
  refine lv_aload_n (pc := 2) E.1 E.2 dL_writeReason_2 rfl (lv_at hl 0 rfl) ?_
  refine lv_iload_n (pc := 3) E.1 E.2 dL_writeReason_3 rfl (lv_at hl 1 rfl) ?_
  refine lv_iload_n (pc := 4) E.1 E.2 dL_writeReason_4 rfl (lv_at hl 2 rfl) ?_
  have hS : va_S FF0 ss.heap ss.heap [] := va_S.rf
  refine z_thrown (pc := 5) (a := ([.ref (o 0), .int (iI f), .int (iI b)] : List Value).toArray) (rest := [.int (iI 0), .ref q9]) (vx_runV (As := [.int (iI f), .int (iI b)]) ⟨E.1, E.2, hml, hown, hts⟩ (mxX7_writeReason lL hst0 G o ν σ π δ τ ω f b hI hf hb hbad) (cwV 2 hts gL_writeReason_X7_writeReason rfl rfl rfl vdX7_writeReason ⟨Nat.le_of_ble_eq_true rfl, Nat.le_of_ble_eq_true rfl⟩) (z_preVX (P := fun H : Heap => QT G o ν σ π δ τ ω H) (hM.ob.recv hK rfl) hM hK hX) rfl rfl hl.1 rfl (lv_room (Nat.le_of_ble_eq_true rfl)) dL_writeReason_5 ⟨Nat.le_of_ble_eq_true rfl, Nat.le_of_ble_eq_true rfl⟩) (fun ce q8 H locs hoth hS hce hcv hcl => ?_)
  have hM2 := hM.kp (fun k hk => hoth _ (hM.lt k hk))
  have hA2 := hA.kp (hoth _ hA.lt)
  have hk9 : (kxWriteR σ f b) = 1 ∨ (kxWriteR σ f b) = 2 := (show (kxWriteR σ f b) = 0 ∨ (kxWriteR σ f b) = 1 ∨ (kxWriteR σ f b) = 2 by unfold kxWriteR; (try unfold kxPK); (repeat' split) <;> simp).resolve_left hbad
  rcases hk9 with hk | hk
  · rw [show exq xI xA xI (kxWriteR σ f b) = xI by rw [hk]; rfl] at hcl
    refine vx_catch (own := RL) (name := xI) (E := xI) hown [] ⟨0, 10, 13, 28⟩ [⟨0, 10, 17, 19⟩] (htab.trans rfl) (fun z hz => absurd hz List.not_mem_nil) (by decide) (by decide) (hts _ (List.mem_of_getElem? (i := 1) rfl)) (z_cast hX (by decide)) hce hcv hcl ?_
    refine lv_astore (pc := 13) (lv' := [(4, .ref q8), (0, .ref (o 0)), (1, .int (iI f)), (2, .int (iI b)), (3, .ref q9)]) E.1 E.2 dL_writeReason_13 hl (by decide) rfl (fun ls hl => ?_)
    refine z_iconst (pc := 15) E dL_writeReason_15 ?_
    exact z_retWi (pc := 16) (P1 := fun H : Heap => LQ G o ν σ π δ τ ω q9 fq H) E hr (by rw [hk]) ⟨hM2, hA2⟩ hS hlocks dL_writeReason_16
  · rw [show exq xI xA xI (kxWriteR σ f b) = xA by rw [hk]; rfl] at hcl
    refine vx_catch (own := RL) (name := xA) (E := xA) hown [⟨0, 10, 13, 28⟩] ⟨0, 10, 17, 19⟩ [] (htab.trans rfl) (List.forall_mem_cons.mpr ⟨Or.inr ⟨by decide, xI, (hts _ (List.mem_of_getElem? (i := 1) rfl)), hX.2.2.2.2 xA (by decide) xI (by decide) (by decide)⟩, fun z hz => absurd hz List.not_mem_nil⟩) (by decide) (by decide) (hts _ (List.mem_of_getElem? (i := 2) rfl)) (z_cast hX (by decide)) hce hcv hcl ?_
    refine lv_astore (pc := 17) (lv' := [(4, .ref q8), (0, .ref (o 0)), (1, .int (iI f)), (2, .int (iI b)), (3, .ref q9)]) E.1 E.2 dL_writeReason_17 hl (by decide) rfl (fun ls hl => ?_)
    refine z_iconst (pc := 19) E dL_writeReason_19 ?_
    exact z_retWi (pc := 20) (P1 := fun H : Heap => LQ G o ν σ π δ τ ω q9 fq H) E hr (by rw [hk]) ⟨hM2, hA2⟩ hS hlocks dL_writeReason_20
set_option maxRecDepth 100000 in
theorem mbL_write (lL : Launch) (hst0 : lL.stackTraces = false) (G : GG) (o : Nat → Nat) (ν σ : Int → Int) (π : Nat → Int → Int) (δ τ ω : Int → Int) (f : Int) (b : Int) (hI : In σ) (hf : -2147483648 ≤ f ∧ f < 2147483648) (hb : -2147483648 ≤ b ∧ b < 2147483648) (hbad : ¬ ((kxWrite σ f b) = 0)) (q9 : Nat) (fq : Int → Int) : Met lL yL_write wsL_write ({ frames := 9, cells := 1, slots := 6, locals := 175 } : Room) (va_Pc [.ref (o 0), .int (iI f), .int (iI b), .ref q9] (fun U => LQ G o ν σ π δ τ ω q9 fq U.heap ∧ KK G U ∧ KX FF0 U U.heap)) (va_Qi (fun r (_ : Unit) => r = iI (kxWrite σ f b)) (fun _ tZ => LQ G o ν σ π δ τ ω q9 fq tZ.heap) FF0) 1 6 FF0 := by
  refine z_metH (P := fun H : Heap => LQ G o ν σ π δ τ ω q9 fq H) (by decide) rfl (Nat.le_of_ble_eq_true rfl) (fun pp ee ss mm below meth cC E hr hml hown hts hlocks htab hP hK hX ls hl => ?_)
  have hl : lv_has ls 5 [(0, .ref (o 0)), (1, .int (iI f)), (2, .int (iI b)), (3, .ref q9)] := hl
  obtain ⟨hM, hA⟩ := hP
  refine lv_aload_n (pc := 0) E.1 E.2 dL_write_0 rfl (lv_at hl 3 rfl) ?_
  refine z_iconst (pc := 1) E dL_write_1 ?_
  refine lv_aload_n (pc := 2) E.1 E.2 dL_write_2 rfl (lv_at hl 0 rfl) ?_
  refine lv_iload_n (pc := 3) E.1 E.2 dL_write_3 rfl (lv_at hl 1 rfl) ?_
  refine lv_iload_n (pc := 4) E.1 E.2 dL_write_4 rfl (lv_at hl 2 rfl) ?_
  have hS : va_S FF0 ss.heap ss.heap [] := va_S.rf
  refine z_thrown (pc := 5) (a := ([.ref (o 0), .int (iI f), .int (iI b)] : List Value).toArray) (rest := [.int (iI 0), .ref q9]) (vx_runV (As := [.int (iI f), .int (iI b)]) ⟨E.1, E.2, hml, hown, hts⟩ (mxX7_write lL hst0 G o ν σ π δ τ ω f b hI hf hb hbad) (cwV 2 hts gL_write_X7_write rfl rfl rfl vdX7_write ⟨Nat.le_of_ble_eq_true rfl, Nat.le_of_ble_eq_true rfl⟩) (z_preVX (P := fun H : Heap => QT G o ν σ π δ τ ω H) (hM.ob.recv hK rfl) hM hK hX) rfl rfl hl.1 rfl (lv_room (Nat.le_of_ble_eq_true rfl)) dL_write_5 ⟨Nat.le_of_ble_eq_true rfl, Nat.le_of_ble_eq_true rfl⟩) (fun ce q8 H locs hoth hS hce hcv hcl => ?_)
  have hM2 := hM.kp (fun k hk => hoth _ (hM.lt k hk))
  have hA2 := hA.kp (hoth _ hA.lt)
  have hk9 : (kxWrite σ f b) = 1 ∨ (kxWrite σ f b) = 2 ∨ (kxWrite σ f b) = 3 := (show (kxWrite σ f b) = 0 ∨ (kxWrite σ f b) = 1 ∨ (kxWrite σ f b) = 2 ∨ (kxWrite σ f b) = 3 by unfold kxWrite; (try unfold kxPK); (repeat' split) <;> simp).resolve_left hbad
  rcases hk9 with hk | hk | hk
  · rw [show exq xI xA xS (kxWrite σ f b) = xI by rw [hk]; rfl] at hcl
    refine vx_catch (own := RL) (name := xI) (E := xI) hown [] ⟨0, 10, 13, 28⟩ [⟨0, 10, 17, 19⟩, ⟨0, 10, 21, 13⟩] (htab.trans rfl) (fun z hz => absurd hz List.not_mem_nil) (by decide) (by decide) (hts _ (List.mem_of_getElem? (i := 1) rfl)) (z_cast hX (by decide)) hce hcv hcl ?_
    refine lv_astore (pc := 13) (lv' := [(4, .ref q8), (0, .ref (o 0)), (1, .int (iI f)), (2, .int (iI b)), (3, .ref q9)]) E.1 E.2 dL_write_13 hl (by decide) rfl (fun ls hl => ?_)
    refine z_iconst (pc := 15) E dL_write_15 ?_
    exact z_retWi (pc := 16) (P1 := fun H : Heap => LQ G o ν σ π δ τ ω q9 fq H) E hr (by rw [hk]) ⟨hM2, hA2⟩ hS hlocks dL_write_16
  · rw [show exq xI xA xS (kxWrite σ f b) = xA by rw [hk]; rfl] at hcl
    refine vx_catch (own := RL) (name := xA) (E := xA) hown [⟨0, 10, 13, 28⟩] ⟨0, 10, 17, 19⟩ [⟨0, 10, 21, 13⟩] (htab.trans rfl) (List.forall_mem_cons.mpr ⟨Or.inr ⟨by decide, xI, (hts _ (List.mem_of_getElem? (i := 1) rfl)), hX.2.2.2.2 xA (by decide) xI (by decide) (by decide)⟩, fun z hz => absurd hz List.not_mem_nil⟩) (by decide) (by decide) (hts _ (List.mem_of_getElem? (i := 2) rfl)) (z_cast hX (by decide)) hce hcv hcl ?_
    refine lv_astore (pc := 17) (lv' := [(4, .ref q8), (0, .ref (o 0)), (1, .int (iI f)), (2, .int (iI b)), (3, .ref q9)]) E.1 E.2 dL_write_17 hl (by decide) rfl (fun ls hl => ?_)
    refine z_iconst (pc := 19) E dL_write_19 ?_
    exact z_retWi (pc := 20) (P1 := fun H : Heap => LQ G o ν σ π δ τ ω q9 fq H) E hr (by rw [hk]) ⟨hM2, hA2⟩ hS hlocks dL_write_20
  · rw [show exq xI xA xS (kxWrite σ f b) = xS by rw [hk]; rfl] at hcl
    refine vx_catch (own := RL) (name := xS) (E := xS) hown [⟨0, 10, 13, 28⟩, ⟨0, 10, 17, 19⟩] ⟨0, 10, 21, 13⟩ [] (htab.trans rfl) (List.forall_mem_cons.mpr ⟨Or.inr ⟨by decide, xI, (hts _ (List.mem_of_getElem? (i := 1) rfl)), hX.2.2.2.2 xS (by decide) xI (by decide) (by decide)⟩, List.forall_mem_cons.mpr ⟨Or.inr ⟨by decide, xA, (hts _ (List.mem_of_getElem? (i := 2) rfl)), hX.2.2.2.2 xS (by decide) xA (by decide) (by decide)⟩, fun z hz => absurd hz List.not_mem_nil⟩⟩) (by decide) (by decide) (hts _ (List.mem_of_getElem? (i := 3) rfl)) (z_cast hX (by decide)) hce hcv hcl ?_
    refine lv_astore (pc := 21) (lv' := [(4, .ref q8), (0, .ref (o 0)), (1, .int (iI f)), (2, .int (iI b)), (3, .ref q9)]) E.1 E.2 dL_write_21 hl (by decide) rfl (fun ls hl => ?_)
    refine z_iconst (pc := 23) E dL_write_23 ?_
    exact z_retWi (pc := 24) (P1 := fun H : Heap => LQ G o ν σ π δ τ ω q9 fq H) E hr (by rw [hk]) ⟨hM2, hA2⟩ hS hlocks dL_write_24
set_option maxRecDepth 100000 in
theorem mbL_room (lL : Launch) (hst0 : lL.stackTraces = false) (G : GG) (o : Nat → Nat) (ν σ : Int → Int) (π : Nat → Int → Int) (δ τ ω : Int → Int) (f : Int) (hI : In σ) (hf : -2147483648 ≤ f ∧ f < 2147483648) (hbad : ¬ ((kxFo σ f) = 0)) (q9 : Nat) (fq : Int → Int) : Met lL yL_room wsL_room ({ frames := 8, cells := 1, slots := 6, locals := 143 } : Room) (va_Pc [.ref (o 0), .int (iI f), .ref q9] (fun U => LQ G o ν σ π δ τ ω q9 fq U.heap ∧ KK G U ∧ KX FF0 U U.heap)) (va_Qi (fun r (_ : Unit) => r = iI (kxFo σ f)) (fun _ tZ => LQ G o ν σ π δ τ ω q9 fq tZ.heap) FF0) 1 6 FF0 := by
  refine z_metH (P := fun H : Heap => LQ G o ν σ π δ τ ω q9 fq H) (by decide) rfl (Nat.le_of_ble_eq_true rfl) (fun pp ee ss mm below meth cC E hr hml hown hts hlocks htab hP hK hX ls hl => ?_)
  have hl : lv_has ls 4 [(0, .ref (o 0)), (1, .int (iI f)), (2, .ref q9)] := hl
  obtain ⟨hM, hA⟩ := hP
  refine lv_aload_n (pc := 0) E.1 E.2 dL_room_0 rfl (lv_at hl 2 rfl) ?_
  refine z_iconst (pc := 1) E dL_room_1 ?_
  refine lv_aload_n (pc := 2) E.1 E.2 dL_room_2 rfl (lv_at hl 0 rfl) ?_
  refine lv_iload_n (pc := 3) E.1 E.2 dL_room_3 rfl (lv_at hl 1 rfl) ?_
  have hS : va_S FF0 ss.heap ss.heap [] := va_S.rf
  refine z_thrown (pc := 4) (a := ([.ref (o 0), .int (iI f)] : List Value).toArray) (rest := [.int (iI 0), .ref q9]) (vx_runV (As := [.int (iI f)]) ⟨E.1, E.2, hml, hown, hts⟩ (mxX7_room lL hst0 G o ν σ π δ τ ω f hI hf hbad) (cwV 1 hts gL_room_X7_room rfl rfl rfl vdX7_room ⟨Nat.le_of_ble_eq_true rfl, Nat.le_of_ble_eq_true rfl⟩) (z_preVX (P := fun H : Heap => QT G o ν σ π δ τ ω H) (hM.ob.recv hK rfl) hM hK hX) rfl rfl hl.1 rfl (lv_room (Nat.le_of_ble_eq_true rfl)) dL_room_4 ⟨Nat.le_of_ble_eq_true rfl, Nat.le_of_ble_eq_true rfl⟩) (fun ce q8 H locs hoth hS hce hcv hcl => ?_)
  have hM2 := hM.kp (fun k hk => hoth _ (hM.lt k hk))
  have hA2 := hA.kp (hoth _ hA.lt)
  have hk9 : (kxFo σ f) = 1 := (show (kxFo σ f) = 0 ∨ (kxFo σ f) = 1 by unfold kxFo; (try unfold kxPK); (repeat' split) <;> simp).resolve_left hbad
  have hk := hk9
  rw [show exq xI xI xI (kxFo σ f) = xI by rw [hk]; rfl] at hcl
  refine vx_catch (own := RL) (name := xI) (E := xI) hown [] ⟨0, 9, 12, 28⟩ [] (htab.trans rfl) (fun z hz => absurd hz List.not_mem_nil) (by decide) (by decide) (hts _ (List.mem_of_getElem? (i := 1) rfl)) (z_cast hX (by decide)) hce hcv hcl ?_
  refine lv_astore_n (pc := 12) (lv' := [(3, .ref q8), (0, .ref (o 0)), (1, .int (iI f)), (2, .ref q9)]) E.1 E.2 dL_room_12 rfl hl (by decide) rfl (fun ls hl => ?_)
  refine z_iconst (pc := 13) E dL_room_13 ?_
  exact z_retWi (pc := 14) (P1 := fun H : Heap => LQ G o ν σ π δ τ ω q9 fq H) E hr (by rw [hk]) ⟨hM2, hA2⟩ hS hlocks dL_room_14
set_option maxRecDepth 100000 in
theorem mbL_resize (lL : Launch) (hst0 : lL.stackTraces = false) (G : GG) (o : Nat → Nat) (ν σ : Int → Int) (π : Nat → Int → Int) (δ τ ω : Int → Int) (k : Int) (b : Int) (hI : In σ) (hk : -2147483648 ≤ k ∧ k < 2147483648) (hb : -2147483648 ≤ b ∧ b < 2147483648) (hbad : ¬ ((kxResize σ k b) = 0)) (q9 : Nat) (fq : Int → Int) : Met lL yL_resize wsL_resize ({ frames := 8, cells := 1, slots := 6, locals := 177 } : Room) (va_Pc [.ref (o 0), .int (iI k), .int (iI b), .ref q9] (fun U => LQ G o ν σ π δ τ ω q9 fq U.heap ∧ KK G U ∧ KX FF0 U U.heap)) (va_Qi (fun r (_ : Unit) => r = iI (kxResize σ k b)) (fun _ tZ => LQ G o ν σ π δ τ ω q9 fq tZ.heap) FF0) 1 6 FF0 := by
  refine z_metH (P := fun H : Heap => LQ G o ν σ π δ τ ω q9 fq H) (by decide) rfl (Nat.le_of_ble_eq_true rfl) (fun pp ee ss mm below meth cC E hr hml hown hts hlocks htab hP hK hX ls hl => ?_)
  have hl : lv_has ls 5 [(0, .ref (o 0)), (1, .int (iI k)), (2, .int (iI b)), (3, .ref q9)] := hl
  obtain ⟨hM, hA⟩ := hP
  refine lv_aload_n (pc := 0) E.1 E.2 dL_resize_0 rfl (lv_at hl 3 rfl) ?_
  refine z_iconst (pc := 1) E dL_resize_1 ?_
  refine lv_aload_n (pc := 2) E.1 E.2 dL_resize_2 rfl (lv_at hl 0 rfl) ?_
  refine lv_iload_n (pc := 3) E.1 E.2 dL_resize_3 rfl (lv_at hl 1 rfl) ?_
  refine lv_iload_n (pc := 4) E.1 E.2 dL_resize_4 rfl (lv_at hl 2 rfl) ?_
  have hS : va_S FF0 ss.heap ss.heap [] := va_S.rf
  refine z_thrown (pc := 5) (a := ([.ref (o 0), .int (iI k), .int (iI b)] : List Value).toArray) (rest := [.int (iI 0), .ref q9]) (vx_runV (As := [.int (iI k), .int (iI b)]) ⟨E.1, E.2, hml, hown, hts⟩ (mxX7_resize lL hst0 G o ν σ π δ τ ω k b hI hk hb hbad) (cwV 2 hts gL_resize_X7_resize rfl rfl rfl vdX7_resize ⟨Nat.le_of_ble_eq_true rfl, Nat.le_of_ble_eq_true rfl⟩) (z_preVX (P := fun H : Heap => QT G o ν σ π δ τ ω H) (hM.ob.recv hK rfl) hM hK hX) rfl rfl hl.1 rfl (lv_room (Nat.le_of_ble_eq_true rfl)) dL_resize_5 ⟨Nat.le_of_ble_eq_true rfl, Nat.le_of_ble_eq_true rfl⟩) (fun ce q8 H locs hoth hS hce hcv hcl => ?_)
  have hM2 := hM.kp (fun k hk => hoth _ (hM.lt k hk))
  have hA2 := hA.kp (hoth _ hA.lt)
  have hk9 : (kxResize σ k b) = 1 ∨ (kxResize σ k b) = 2 ∨ (kxResize σ k b) = 3 := (show (kxResize σ k b) = 0 ∨ (kxResize σ k b) = 1 ∨ (kxResize σ k b) = 2 ∨ (kxResize σ k b) = 3 by unfold kxResize; (try unfold kxPK); (repeat' split) <;> simp).resolve_left hbad
  rcases hk9 with hk | hk | hk
  · rw [show exq xI xA xS (kxResize σ k b) = xI by rw [hk]; rfl] at hcl
    refine vx_catch (own := RL) (name := xI) (E := xI) hown [] ⟨0, 10, 13, 28⟩ [⟨0, 10, 17, 19⟩, ⟨0, 10, 21, 13⟩] (htab.trans rfl) (fun z hz => absurd hz List.not_mem_nil) (by decide) (by decide) (hts _ (List.mem_of_getElem? (i := 1) rfl)) (z_cast hX (by decide)) hce hcv hcl ?_
    refine lv_astore (pc := 13) (lv' := [(4, .ref q8), (0, .ref (o 0)), (1, .int (iI k)), (2, .int (iI b)), (3, .ref q9)]) E.1 E.2 dL_resize_13 hl (by decide) rfl (fun ls hl => ?_)
    refine z_iconst (pc := 15) E dL_resize_15 ?_
    exact z_retWi (pc := 16) (P1 := fun H : Heap => LQ G o ν σ π δ τ ω q9 fq H) E hr (by rw [hk]) ⟨hM2, hA2⟩ hS hlocks dL_resize_16
  · rw [show exq xI xA xS (kxResize σ k b) = xA by rw [hk]; rfl] at hcl
    refine vx_catch (own := RL) (name := xA) (E := xA) hown [⟨0, 10, 13, 28⟩] ⟨0, 10, 17, 19⟩ [⟨0, 10, 21, 13⟩] (htab.trans rfl) (List.forall_mem_cons.mpr ⟨Or.inr ⟨by decide, xI, (hts _ (List.mem_of_getElem? (i := 1) rfl)), hX.2.2.2.2 xA (by decide) xI (by decide) (by decide)⟩, fun z hz => absurd hz List.not_mem_nil⟩) (by decide) (by decide) (hts _ (List.mem_of_getElem? (i := 2) rfl)) (z_cast hX (by decide)) hce hcv hcl ?_
    refine lv_astore (pc := 17) (lv' := [(4, .ref q8), (0, .ref (o 0)), (1, .int (iI k)), (2, .int (iI b)), (3, .ref q9)]) E.1 E.2 dL_resize_17 hl (by decide) rfl (fun ls hl => ?_)
    refine z_iconst (pc := 19) E dL_resize_19 ?_
    exact z_retWi (pc := 20) (P1 := fun H : Heap => LQ G o ν σ π δ τ ω q9 fq H) E hr (by rw [hk]) ⟨hM2, hA2⟩ hS hlocks dL_resize_20
  · rw [show exq xI xA xS (kxResize σ k b) = xS by rw [hk]; rfl] at hcl
    refine vx_catch (own := RL) (name := xS) (E := xS) hown [⟨0, 10, 13, 28⟩, ⟨0, 10, 17, 19⟩] ⟨0, 10, 21, 13⟩ [] (htab.trans rfl) (List.forall_mem_cons.mpr ⟨Or.inr ⟨by decide, xI, (hts _ (List.mem_of_getElem? (i := 1) rfl)), hX.2.2.2.2 xS (by decide) xI (by decide) (by decide)⟩, List.forall_mem_cons.mpr ⟨Or.inr ⟨by decide, xA, (hts _ (List.mem_of_getElem? (i := 2) rfl)), hX.2.2.2.2 xS (by decide) xA (by decide) (by decide)⟩, fun z hz => absurd hz List.not_mem_nil⟩⟩) (by decide) (by decide) (hts _ (List.mem_of_getElem? (i := 3) rfl)) (z_cast hX (by decide)) hce hcv hcl ?_
    refine lv_astore (pc := 21) (lv' := [(4, .ref q8), (0, .ref (o 0)), (1, .int (iI k)), (2, .int (iI b)), (3, .ref q9)]) E.1 E.2 dL_resize_21 hl (by decide) rfl (fun ls hl => ?_)
    refine z_iconst (pc := 23) E dL_resize_23 ?_
    exact z_retWi (pc := 24) (P1 := fun H : Heap => LQ G o ν σ π δ τ ω q9 fq H) E hr (by rw [hk]) ⟨hM2, hA2⟩ hS hlocks dL_resize_24
set_option maxRecDepth 100000 in
theorem mbL_delete (lL : Launch) (hst0 : lL.stackTraces = false) (G : GG) (o : Nat → Nat) (ν σ : Int → Int) (π : Nat → Int → Int) (δ τ ω : Int → Int) (k : Int) (hI : In σ) (hk : -2147483648 ≤ k ∧ k < 2147483648) (hbad : ¬ ((kxFi σ k) = 0)) (q9 : Nat) (fq : Int → Int) : Met lL yL_delete wsL_delete ({ frames := 8, cells := 1, slots := 6, locals := 174 } : Room) (va_Pc [.ref (o 0), .int (iI k), .ref q9] (fun U => LQ G o ν σ π δ τ ω q9 fq U.heap ∧ KK G U ∧ KX FF0 U U.heap)) (va_Qi (fun r (_ : Unit) => r = iI (kxFi σ k)) (fun _ tZ => LQ G o ν σ π δ τ ω q9 fq tZ.heap) FF0) 1 6 FF0 := by
  refine z_metH (P := fun H : Heap => LQ G o ν σ π δ τ ω q9 fq H) (by decide) rfl (Nat.le_of_ble_eq_true rfl) (fun pp ee ss mm below meth cC E hr hml hown hts hlocks htab hP hK hX ls hl => ?_)
  have hl : lv_has ls 4 [(0, .ref (o 0)), (1, .int (iI k)), (2, .ref q9)] := hl
  obtain ⟨hM, hA⟩ := hP
  refine lv_aload_n (pc := 0) E.1 E.2 dL_delete_0 rfl (lv_at hl 2 rfl) ?_
  refine z_iconst (pc := 1) E dL_delete_1 ?_
  refine lv_aload_n (pc := 2) E.1 E.2 dL_delete_2 rfl (lv_at hl 0 rfl) ?_
  refine lv_iload_n (pc := 3) E.1 E.2 dL_delete_3 rfl (lv_at hl 1 rfl) ?_
  have hS : va_S FF0 ss.heap ss.heap [] := va_S.rf
  refine z_thrown (pc := 4) (a := ([.ref (o 0), .int (iI k)] : List Value).toArray) (rest := [.int (iI 0), .ref q9]) (vx_runV (As := [.int (iI k)]) ⟨E.1, E.2, hml, hown, hts⟩ (mxX7_delete lL hst0 G o ν σ π δ τ ω k hI hk hbad) (cwV 1 hts gL_delete_X7_delete rfl rfl rfl vdX7_delete ⟨Nat.le_of_ble_eq_true rfl, Nat.le_of_ble_eq_true rfl⟩) (z_preVX (P := fun H : Heap => QT G o ν σ π δ τ ω H) (hM.ob.recv hK rfl) hM hK hX) rfl rfl hl.1 rfl (lv_room (Nat.le_of_ble_eq_true rfl)) dL_delete_4 ⟨Nat.le_of_ble_eq_true rfl, Nat.le_of_ble_eq_true rfl⟩) (fun ce q8 H locs hoth hS hce hcv hcl => ?_)
  have hM2 := hM.kp (fun k hk => hoth _ (hM.lt k hk))
  have hA2 := hA.kp (hoth _ hA.lt)
  have hk9 : (kxFi σ k) = 1 := (show (kxFi σ k) = 0 ∨ (kxFi σ k) = 1 by unfold kxFi; (try unfold kxPK); (repeat' split) <;> simp).resolve_left hbad
  have hk := hk9
  rw [show exq xI xI xI (kxFi σ k) = xI by rw [hk]; rfl] at hcl
  refine vx_catch (own := RL) (name := xI) (E := xI) hown [] ⟨0, 9, 12, 28⟩ [] (htab.trans rfl) (fun z hz => absurd hz List.not_mem_nil) (by decide) (by decide) (hts _ (List.mem_of_getElem? (i := 1) rfl)) (z_cast hX (by decide)) hce hcv hcl ?_
  refine lv_astore_n (pc := 12) (lv' := [(3, .ref q8), (0, .ref (o 0)), (1, .int (iI k)), (2, .ref q9)]) E.1 E.2 dL_delete_12 rfl hl (by decide) rfl (fun ls hl => ?_)
  refine z_iconst (pc := 13) E dL_delete_13 ?_
  exact z_retWi (pc := 14) (P1 := fun H : Heap => LQ G o ν σ π δ τ ω q9 fq H) E hr (by rw [hk]) ⟨hM2, hA2⟩ hS hlocks dL_delete_14
set_option maxRecDepth 100000 in
theorem mbL_moveFile (lL : Launch) (hst0 : lL.stackTraces = false) (G : GG) (o : Nat → Nat) (ν σ : Int → Int) (π : Nat → Int → Int) (δ τ ω : Int → Int) (k : Int) (f : Int) (hI : In σ) (hk : -2147483648 ≤ k ∧ k < 2147483648) (hf : -2147483648 ≤ f ∧ f < 2147483648) (hbad : ¬ ((kxMoveFi σ k f) = 0)) (q9 : Nat) (fq : Int → Int) : Met lL yL_moveFile wsL_moveFile ({ frames := 8, cells := 1, slots := 6, locals := 178 } : Room) (va_Pc [.ref (o 0), .int (iI k), .int (iI f), .ref q9] (fun U => LQ G o ν σ π δ τ ω q9 fq U.heap ∧ KK G U ∧ KX FF0 U U.heap)) (va_Qi (fun r (_ : Unit) => r = iI (kxMoveFi σ k f)) (fun _ tZ => LQ G o ν σ π δ τ ω q9 fq tZ.heap) FF0) 1 6 FF0 := by
  refine z_metH (P := fun H : Heap => LQ G o ν σ π δ τ ω q9 fq H) (by decide) rfl (Nat.le_of_ble_eq_true rfl) (fun pp ee ss mm below meth cC E hr hml hown hts hlocks htab hP hK hX ls hl => ?_)
  have hl : lv_has ls 5 [(0, .ref (o 0)), (1, .int (iI k)), (2, .int (iI f)), (3, .ref q9)] := hl
  obtain ⟨hM, hA⟩ := hP
  refine lv_aload_n (pc := 0) E.1 E.2 dL_moveFile_0 rfl (lv_at hl 3 rfl) ?_
  refine z_iconst (pc := 1) E dL_moveFile_1 ?_
  refine lv_aload_n (pc := 2) E.1 E.2 dL_moveFile_2 rfl (lv_at hl 0 rfl) ?_
  refine lv_iload_n (pc := 3) E.1 E.2 dL_moveFile_3 rfl (lv_at hl 1 rfl) ?_
  refine lv_iload_n (pc := 4) E.1 E.2 dL_moveFile_4 rfl (lv_at hl 2 rfl) ?_
  have hS : va_S FF0 ss.heap ss.heap [] := va_S.rf
  refine z_thrown (pc := 5) (a := ([.ref (o 0), .int (iI k), .int (iI f)] : List Value).toArray) (rest := [.int (iI 0), .ref q9]) (vx_runV (As := [.int (iI k), .int (iI f)]) ⟨E.1, E.2, hml, hown, hts⟩ (mxX7_moveFile lL hst0 G o ν σ π δ τ ω k f hI hk hf hbad) (cwV 2 hts gL_moveFile_X7_moveFile rfl rfl rfl vdX7_moveFile ⟨Nat.le_of_ble_eq_true rfl, Nat.le_of_ble_eq_true rfl⟩) (z_preVX (P := fun H : Heap => QT G o ν σ π δ τ ω H) (hM.ob.recv hK rfl) hM hK hX) rfl rfl hl.1 rfl (lv_room (Nat.le_of_ble_eq_true rfl)) dL_moveFile_5 ⟨Nat.le_of_ble_eq_true rfl, Nat.le_of_ble_eq_true rfl⟩) (fun ce q8 H locs hoth hS hce hcv hcl => ?_)
  have hM2 := hM.kp (fun k hk => hoth _ (hM.lt k hk))
  have hA2 := hA.kp (hoth _ hA.lt)
  have hk9 : (kxMoveFi σ k f) = 1 ∨ (kxMoveFi σ k f) = 2 := (show (kxMoveFi σ k f) = 0 ∨ (kxMoveFi σ k f) = 1 ∨ (kxMoveFi σ k f) = 2 by unfold kxMoveFi; (try unfold kxPK); (repeat' split) <;> simp).resolve_left hbad
  rcases hk9 with hk | hk
  · rw [show exq xI xS xI (kxMoveFi σ k f) = xI by rw [hk]; rfl] at hcl
    refine vx_catch (own := RL) (name := xI) (E := xI) hown [] ⟨0, 10, 13, 28⟩ [⟨0, 10, 17, 13⟩] (htab.trans rfl) (fun z hz => absurd hz List.not_mem_nil) (by decide) (by decide) (hts _ (List.mem_of_getElem? (i := 1) rfl)) (z_cast hX (by decide)) hce hcv hcl ?_
    refine lv_astore (pc := 13) (lv' := [(4, .ref q8), (0, .ref (o 0)), (1, .int (iI k)), (2, .int (iI f)), (3, .ref q9)]) E.1 E.2 dL_moveFile_13 hl (by decide) rfl (fun ls hl => ?_)
    refine z_iconst (pc := 15) E dL_moveFile_15 ?_
    exact z_retWi (pc := 16) (P1 := fun H : Heap => LQ G o ν σ π δ τ ω q9 fq H) E hr (by rw [hk]) ⟨hM2, hA2⟩ hS hlocks dL_moveFile_16
  · rw [show exq xI xS xI (kxMoveFi σ k f) = xS by rw [hk]; rfl] at hcl
    refine vx_catch (own := RL) (name := xS) (E := xS) hown [⟨0, 10, 13, 28⟩] ⟨0, 10, 17, 13⟩ [] (htab.trans rfl) (List.forall_mem_cons.mpr ⟨Or.inr ⟨by decide, xI, (hts _ (List.mem_of_getElem? (i := 1) rfl)), hX.2.2.2.2 xS (by decide) xI (by decide) (by decide)⟩, fun z hz => absurd hz List.not_mem_nil⟩) (by decide) (by decide) (hts _ (List.mem_of_getElem? (i := 2) rfl)) (z_cast hX (by decide)) hce hcv hcl ?_
    refine lv_astore (pc := 17) (lv' := [(4, .ref q8), (0, .ref (o 0)), (1, .int (iI k)), (2, .int (iI f)), (3, .ref q9)]) E.1 E.2 dL_moveFile_17 hl (by decide) rfl (fun ls hl => ?_)
    refine z_iconst (pc := 19) E dL_moveFile_19 ?_
    exact z_retWi (pc := 20) (P1 := fun H : Heap => LQ G o ν σ π δ τ ω q9 fq H) E hr (by rw [hk]) ⟨hM2, hA2⟩ hS hlocks dL_moveFile_20
set_option maxRecDepth 100000 in
theorem mbL_greatest (lL : Launch) (hst0 : lL.stackTraces = false) (G : GG) (o : Nat → Nat) (ν σ : Int → Int) (π : Nat → Int → Int) (δ τ ω : Int → Int) (p : Int) (hI : In σ) (hp : -2147483648 ≤ p ∧ p < 2147483648) (hbad : ¬ ((kxGreat σ p) = 0)) (q9 : Nat) (fq : Int → Int) : Met lL yL_greatest wsL_greatest ({ frames := 9, cells := 1, slots := 6, locals := 164 } : Room) (va_Pc [.ref (o 0), .int (iI p), .ref q9] (fun U => LQ G o ν σ π δ τ ω q9 fq U.heap ∧ KK G U ∧ KX FF0 U U.heap)) (va_Qi (fun r (_ : Unit) => r = iI (kxGreat σ p)) (fun _ tZ => LQ G o ν σ π δ τ ω q9 fq tZ.heap) FF0) 1 6 FF0 := by
  refine z_metH (P := fun H : Heap => LQ G o ν σ π δ τ ω q9 fq H) (by decide) rfl (Nat.le_of_ble_eq_true rfl) (fun pp ee ss mm below meth cC E hr hml hown hts hlocks htab hP hK hX ls hl => ?_)
  have hl : lv_has ls 4 [(0, .ref (o 0)), (1, .int (iI p)), (2, .ref q9)] := hl
  obtain ⟨hM, hA⟩ := hP
  refine lv_aload_n (pc := 0) E.1 E.2 dL_greatest_0 rfl (lv_at hl 2 rfl) ?_
  refine z_iconst (pc := 1) E dL_greatest_1 ?_
  refine lv_aload_n (pc := 2) E.1 E.2 dL_greatest_2 rfl (lv_at hl 0 rfl) ?_
  refine lv_iload_n (pc := 3) E.1 E.2 dL_greatest_3 rfl (lv_at hl 1 rfl) ?_
  have hS : va_S FF0 ss.heap ss.heap [] := va_S.rf
  refine z_thrown (pc := 4) (a := ([.ref (o 0), .int (iI p)] : List Value).toArray) (rest := [.int (iI 0), .ref q9]) (vx_runV (As := [.int (iI p)]) ⟨E.1, E.2, hml, hown, hts⟩ (mxX7_greatest lL hst0 G o ν σ π δ τ ω p hI hp hbad) (cwV 1 hts gL_greatest_X7_greatest rfl rfl rfl vdX7_greatest ⟨Nat.le_of_ble_eq_true rfl, Nat.le_of_ble_eq_true rfl⟩) (z_preVX (P := fun H : Heap => QT G o ν σ π δ τ ω H) (hM.ob.recv hK rfl) hM hK hX) rfl rfl hl.1 rfl (lv_room (Nat.le_of_ble_eq_true rfl)) dL_greatest_4 ⟨Nat.le_of_ble_eq_true rfl, Nat.le_of_ble_eq_true rfl⟩) (fun ce q8 H locs hoth hS hce hcv hcl => ?_)
  have hM2 := hM.kp (fun k hk => hoth _ (hM.lt k hk))
  have hA2 := hA.kp (hoth _ hA.lt)
  have hk9 : (kxGreat σ p) = 1 ∨ (kxGreat σ p) = 2 := (show (kxGreat σ p) = 0 ∨ (kxGreat σ p) = 1 ∨ (kxGreat σ p) = 2 by unfold kxGreat; (try unfold kxPK); (repeat' split) <;> simp).resolve_left hbad
  rcases hk9 with hk | hk
  · rw [show exq xA xN xI (kxGreat σ p) = xA by rw [hk]; rfl] at hcl
    refine vx_catch (own := RL) (name := xA) (E := xA) hown [] ⟨0, 9, 12, 19⟩ [⟨0, 9, 15, 36⟩] (htab.trans rfl) (fun z hz => absurd hz List.not_mem_nil) (by decide) (by decide) (hts _ (List.mem_of_getElem? (i := 1) rfl)) (z_cast hX (by decide)) hce hcv hcl ?_
    refine lv_astore_n (pc := 12) (lv' := [(3, .ref q8), (0, .ref (o 0)), (1, .int (iI p)), (2, .ref q9)]) E.1 E.2 dL_greatest_12 rfl hl (by decide) rfl (fun ls hl => ?_)
    refine z_iconst (pc := 13) E dL_greatest_13 ?_
    exact z_retWi (pc := 14) (P1 := fun H : Heap => LQ G o ν σ π δ τ ω q9 fq H) E hr (by rw [hk]) ⟨hM2, hA2⟩ hS hlocks dL_greatest_14
  · rw [show exq xA xN xI (kxGreat σ p) = xN by rw [hk]; rfl] at hcl
    refine vx_catch (own := RL) (name := xN) (E := xN) hown [⟨0, 9, 12, 19⟩] ⟨0, 9, 15, 36⟩ [] (htab.trans rfl) (List.forall_mem_cons.mpr ⟨Or.inr ⟨by decide, xA, (hts _ (List.mem_of_getElem? (i := 1) rfl)), hX.2.2.2.2 xN (by decide) xA (by decide) (by decide)⟩, fun z hz => absurd hz List.not_mem_nil⟩) (by decide) (by decide) (hts _ (List.mem_of_getElem? (i := 2) rfl)) (z_cast hX (by decide)) hce hcv hcl ?_
    refine lv_astore_n (pc := 15) (lv' := [(3, .ref q8), (0, .ref (o 0)), (1, .int (iI p)), (2, .ref q9)]) E.1 E.2 dL_greatest_15 rfl hl (by decide) rfl (fun ls hl => ?_)
    refine z_iconst (pc := 16) E dL_greatest_16 ?_
    exact z_retWi (pc := 17) (P1 := fun H : Heap => LQ G o ν σ π δ τ ω q9 fq H) E hr (by rw [hk]) ⟨hM2, hA2⟩ hS hlocks dL_greatest_17
set_option maxRecDepth 100000 in
theorem mbL_used (lL : Launch) (hst0 : lL.stackTraces = false) (G : GG) (o : Nat → Nat) (ν σ : Int → Int) (π : Nat → Int → Int) (δ τ ω : Int → Int) (p : Int) (k : Int) (hI : In σ) (hp : -2147483648 ≤ p ∧ p < 2147483648) (hk : -2147483648 ≤ k ∧ k < 2147483648) (hbad : ¬ ((kxPK p k) = 0)) (q9 : Nat) (fq : Int → Int) : Met lL yL_used wsL_used ({ frames := 10, cells := 1, slots := 6, locals := 185 } : Room) (va_Pc [.ref (o 0), .int (iI p), .int (iI k), .ref q9] (fun U => LQ G o ν σ π δ τ ω q9 fq U.heap ∧ KK G U ∧ KX FF0 U U.heap)) (va_Qi (fun r (_ : Unit) => r = iI (kxPK p k)) (fun _ tZ => LQ G o ν σ π δ τ ω q9 fq tZ.heap) FF0) 1 6 FF0 := by
  refine z_metH (P := fun H : Heap => LQ G o ν σ π δ τ ω q9 fq H) (by decide) rfl (Nat.le_of_ble_eq_true rfl) (fun pp ee ss mm below meth cC E hr hml hown hts hlocks htab hP hK hX ls hl => ?_)
  have hl : lv_has ls 5 [(0, .ref (o 0)), (1, .int (iI p)), (2, .int (iI k)), (3, .ref q9)] := hl
  obtain ⟨hM, hA⟩ := hP
  refine lv_aload_n (pc := 0) E.1 E.2 dL_used_0 rfl (lv_at hl 3 rfl) ?_
  refine z_iconst (pc := 1) E dL_used_1 ?_
  refine lv_aload_n (pc := 2) E.1 E.2 dL_used_2 rfl (lv_at hl 0 rfl) ?_
  refine lv_iload_n (pc := 3) E.1 E.2 dL_used_3 rfl (lv_at hl 1 rfl) ?_
  refine lv_iload_n (pc := 4) E.1 E.2 dL_used_4 rfl (lv_at hl 2 rfl) ?_
  have hS : va_S FF0 ss.heap ss.heap [] := va_S.rf
  refine z_thrown (pc := 5) (a := ([.ref (o 0), .int (iI p), .int (iI k)] : List Value).toArray) (rest := [.int (iI 0), .ref q9]) (vx_runV (As := [.int (iI p), .int (iI k)]) ⟨E.1, E.2, hml, hown, hts⟩ (mxX7_used lL hst0 G o ν σ π δ τ ω p k hI hp hk hbad) (cwV 2 hts gL_used_X7_used rfl rfl rfl vdX7_used ⟨Nat.le_of_ble_eq_true rfl, Nat.le_of_ble_eq_true rfl⟩) (z_preVX (P := fun H : Heap => QT G o ν σ π δ τ ω H) (hM.ob.recv hK rfl) hM hK hX) rfl rfl hl.1 rfl (lv_room (Nat.le_of_ble_eq_true rfl)) dL_used_5 ⟨Nat.le_of_ble_eq_true rfl, Nat.le_of_ble_eq_true rfl⟩) (fun ce q8 H locs hoth hS hce hcv hcl => ?_)
  have hM2 := hM.kp (fun k hk => hoth _ (hM.lt k hk))
  have hA2 := hA.kp (hoth _ hA.lt)
  have hk9 : (kxPK p k) = 1 := (show (kxPK p k) = 0 ∨ (kxPK p k) = 1 by unfold kxPK; (try unfold kxPK); (repeat' split) <;> simp).resolve_left hbad
  have hk := hk9
  rw [show exq xA xI xI (kxPK p k) = xA by rw [hk]; rfl] at hcl
  refine vx_catch (own := RL) (name := xA) (E := xA) hown [] ⟨0, 10, 13, 19⟩ [] (htab.trans rfl) (fun z hz => absurd hz List.not_mem_nil) (by decide) (by decide) (hts _ (List.mem_of_getElem? (i := 1) rfl)) (z_cast hX (by decide)) hce hcv hcl ?_
  refine lv_astore (pc := 13) (lv' := [(4, .ref q8), (0, .ref (o 0)), (1, .int (iI p)), (2, .int (iI k)), (3, .ref q9)]) E.1 E.2 dL_used_13 hl (by decide) rfl (fun ls hl => ?_)
  refine z_iconst (pc := 15) E dL_used_15 ?_
  exact z_retWi (pc := 16) (P1 := fun H : Heap => LQ G o ν σ π δ τ ω q9 fq H) E hr (by rw [hk]) ⟨hM2, hA2⟩ hS hlocks dL_used_16
set_option maxRecDepth 100000 in
theorem mbL_counted (lL : Launch) (hst0 : lL.stackTraces = false) (G : GG) (o : Nat → Nat) (ν σ : Int → Int) (π : Nat → Int → Int) (δ τ ω : Int → Int) (p : Int) (k : Int) (hI : In σ) (hp : -2147483648 ≤ p ∧ p < 2147483648) (hk : -2147483648 ≤ k ∧ k < 2147483648) (hbad : ¬ ((kxPK p k) = 0)) (q9 : Nat) (fq : Int → Int) : Met lL yL_counted wsL_counted ({ frames := 10, cells := 1, slots := 6, locals := 185 } : Room) (va_Pc [.ref (o 0), .int (iI p), .int (iI k), .ref q9] (fun U => LQ G o ν σ π δ τ ω q9 fq U.heap ∧ KK G U ∧ KX FF0 U U.heap)) (va_Qi (fun r (_ : Unit) => r = iI (kxPK p k)) (fun _ tZ => LQ G o ν σ π δ τ ω q9 fq tZ.heap) FF0) 1 6 FF0 := by
  refine z_metH (P := fun H : Heap => LQ G o ν σ π δ τ ω q9 fq H) (by decide) rfl (Nat.le_of_ble_eq_true rfl) (fun pp ee ss mm below meth cC E hr hml hown hts hlocks htab hP hK hX ls hl => ?_)
  have hl : lv_has ls 5 [(0, .ref (o 0)), (1, .int (iI p)), (2, .int (iI k)), (3, .ref q9)] := hl
  obtain ⟨hM, hA⟩ := hP
  refine lv_aload_n (pc := 0) E.1 E.2 dL_counted_0 rfl (lv_at hl 3 rfl) ?_
  refine z_iconst (pc := 1) E dL_counted_1 ?_
  refine lv_aload_n (pc := 2) E.1 E.2 dL_counted_2 rfl (lv_at hl 0 rfl) ?_
  refine lv_iload_n (pc := 3) E.1 E.2 dL_counted_3 rfl (lv_at hl 1 rfl) ?_
  refine lv_iload_n (pc := 4) E.1 E.2 dL_counted_4 rfl (lv_at hl 2 rfl) ?_
  have hS : va_S FF0 ss.heap ss.heap [] := va_S.rf
  refine z_thrown (pc := 5) (a := ([.ref (o 0), .int (iI p), .int (iI k)] : List Value).toArray) (rest := [.int (iI 0), .ref q9]) (vx_runV (As := [.int (iI p), .int (iI k)]) ⟨E.1, E.2, hml, hown, hts⟩ (mxX7_counted lL hst0 G o ν σ π δ τ ω p k hI hp hk hbad) (cwV 2 hts gL_counted_X7_counted rfl rfl rfl vdX7_counted ⟨Nat.le_of_ble_eq_true rfl, Nat.le_of_ble_eq_true rfl⟩) (z_preVX (P := fun H : Heap => QT G o ν σ π δ τ ω H) (hM.ob.recv hK rfl) hM hK hX) rfl rfl hl.1 rfl (lv_room (Nat.le_of_ble_eq_true rfl)) dL_counted_5 ⟨Nat.le_of_ble_eq_true rfl, Nat.le_of_ble_eq_true rfl⟩) (fun ce q8 H locs hoth hS hce hcv hcl => ?_)
  have hM2 := hM.kp (fun k hk => hoth _ (hM.lt k hk))
  have hA2 := hA.kp (hoth _ hA.lt)
  have hk9 : (kxPK p k) = 1 := (show (kxPK p k) = 0 ∨ (kxPK p k) = 1 by unfold kxPK; (try unfold kxPK); (repeat' split) <;> simp).resolve_left hbad
  have hk := hk9
  rw [show exq xA xI xI (kxPK p k) = xA by rw [hk]; rfl] at hcl
  refine vx_catch (own := RL) (name := xA) (E := xA) hown [] ⟨0, 10, 13, 19⟩ [] (htab.trans rfl) (fun z hz => absurd hz List.not_mem_nil) (by decide) (by decide) (hts _ (List.mem_of_getElem? (i := 1) rfl)) (z_cast hX (by decide)) hce hcv hcl ?_
  refine lv_astore (pc := 13) (lv' := [(4, .ref q8), (0, .ref (o 0)), (1, .int (iI p)), (2, .int (iI k)), (3, .ref q9)]) E.1 E.2 dL_counted_13 hl (by decide) rfl (fun ls hl => ?_)
  refine z_iconst (pc := 15) E dL_counted_15 ?_
  exact z_retWi (pc := 16) (P1 := fun H : Heap => LQ G o ν σ π δ τ ω q9 fq H) E hr (by rw [hk]) ⟨hM2, hA2⟩ hS hlocks dL_counted_16
set_option maxRecDepth 100000 in
theorem mbL_limit (lL : Launch) (hst0 : lL.stackTraces = false) (G : GG) (o : Nat → Nat) (ν σ : Int → Int) (π : Nat → Int → Int) (δ τ ω : Int → Int) (p : Int) (k : Int) (h : Int) (hI : In σ) (hp : -2147483648 ≤ p ∧ p < 2147483648) (hk : -2147483648 ≤ k ∧ k < 2147483648) (hh : h = 0 ∨ h = 1) (hbad : ¬ ((kxPK p k) = 0)) (q9 : Nat) (fq : Int → Int) : Met lL yL_limit wsL_limit ({ frames := 10, cells := 1, slots := 6, locals := 186 } : Room) (va_Pc [.ref (o 0), .int (iI p), .int (iI k), .int (iI h), .ref q9] (fun U => LQ G o ν σ π δ τ ω q9 fq U.heap ∧ KK G U ∧ KX FF0 U U.heap)) (va_Qi (fun r (_ : Unit) => r = iI (kxPK p k)) (fun _ tZ => LQ G o ν σ π δ τ ω q9 fq tZ.heap) FF0) 1 6 FF0 := by
  refine z_metH (P := fun H : Heap => LQ G o ν σ π δ τ ω q9 fq H) (by decide) rfl (Nat.le_of_ble_eq_true rfl) (fun pp ee ss mm below meth cC E hr hml hown hts hlocks htab hP hK hX ls hl => ?_)
  have hl : lv_has ls 6 [(0, .ref (o 0)), (1, .int (iI p)), (2, .int (iI k)), (3, .int (iI h)), (4, .ref q9)] := hl
  obtain ⟨hM, hA⟩ := hP
  refine lv_aload (pc := 0) E.1 E.2 dL_limit_0 (lv_at hl 4 rfl) ?_
  refine z_iconst (pc := 2) E dL_limit_2 ?_
  refine lv_aload_n (pc := 3) E.1 E.2 dL_limit_3 rfl (lv_at hl 0 rfl) ?_
  refine lv_iload_n (pc := 4) E.1 E.2 dL_limit_4 rfl (lv_at hl 1 rfl) ?_
  refine lv_iload_n (pc := 5) E.1 E.2 dL_limit_5 rfl (lv_at hl 2 rfl) ?_
  refine lv_iload_n (pc := 6) E.1 E.2 dL_limit_6 rfl (lv_at hl 3 rfl) ?_
  have hS : va_S FF0 ss.heap ss.heap [] := va_S.rf
  refine z_thrown (pc := 7) (a := ([.ref (o 0), .int (iI p), .int (iI k), .int (iI h)] : List Value).toArray) (rest := [.int (iI 0), .ref q9]) (vx_runV (As := [.int (iI p), .int (iI k), .int (iI h)]) ⟨E.1, E.2, hml, hown, hts⟩ (mxX7_limit lL hst0 G o ν σ π δ τ ω p k h hI hp hk hh hbad) (cwV 3 hts gL_limit_X7_limit rfl rfl rfl vdX7_limit ⟨Nat.le_of_ble_eq_true rfl, Nat.le_of_ble_eq_true rfl⟩) (z_preVX (P := fun H : Heap => QT G o ν σ π δ τ ω H) (hM.ob.recv hK rfl) hM hK hX) rfl rfl hl.1 rfl (lv_room (Nat.le_of_ble_eq_true rfl)) dL_limit_7 ⟨Nat.le_of_ble_eq_true rfl, Nat.le_of_ble_eq_true rfl⟩) (fun ce q8 H locs hoth hS hce hcv hcl => ?_)
  have hM2 := hM.kp (fun k hk => hoth _ (hM.lt k hk))
  have hA2 := hA.kp (hoth _ hA.lt)
  have hk9 : (kxPK p k) = 1 := (show (kxPK p k) = 0 ∨ (kxPK p k) = 1 by unfold kxPK; (try unfold kxPK); (repeat' split) <;> simp).resolve_left hbad
  have hk := hk9
  rw [show exq xA xI xI (kxPK p k) = xA by rw [hk]; rfl] at hcl
  refine vx_catch (own := RL) (name := xA) (E := xA) hown [] ⟨0, 12, 15, 19⟩ [] (htab.trans rfl) (fun z hz => absurd hz List.not_mem_nil) (by decide) (by decide) (hts _ (List.mem_of_getElem? (i := 1) rfl)) (z_cast hX (by decide)) hce hcv hcl ?_
  refine lv_astore (pc := 15) (lv' := [(5, .ref q8), (0, .ref (o 0)), (1, .int (iI p)), (2, .int (iI k)), (3, .int (iI h)), (4, .ref q9)]) E.1 E.2 dL_limit_15 hl (by decide) rfl (fun ls hl => ?_)
  refine z_iconst (pc := 17) E dL_limit_17 ?_
  exact z_retWi (pc := 18) (P1 := fun H : Heap => LQ G o ν σ π δ τ ω q9 fq H) E hr (by rw [hk]) ⟨hM2, hA2⟩ hS hlocks dL_limit_18
set_option maxRecDepth 100000 in
theorem mbL_setLimit (lL : Launch) (hst0 : lL.stackTraces = false) (G : GG) (o : Nat → Nat) (ν σ : Int → Int) (π : Nat → Int → Int) (δ τ ω : Int → Int) (p : Int) (k : Int) (s : Int) (h : Int) (hI : In σ) (hp : -2147483648 ≤ p ∧ p < 2147483648) (hk : -2147483648 ≤ k ∧ k < 2147483648) (hs : -2147483648 ≤ s ∧ s < 2147483648) (hh : -2147483648 ≤ h ∧ h < 2147483648) (hbad : ¬ ((kxSetL σ p k s h) = 0)) (q9 : Nat) (fq : Int → Int) : Met lL yL_setLimit wsL_setLimit ({ frames := 10, cells := 1, slots := 6, locals := 187 } : Room) (va_Pc [.ref (o 0), .int (iI p), .int (iI k), .int (iI s), .int (iI h), .ref q9] (fun U => LQ G o ν σ π δ τ ω q9 fq U.heap ∧ KK G U ∧ KX FF0 U U.heap)) (va_Qi (fun r (_ : Unit) => r = iI (kxSetL σ p k s h)) (fun _ tZ => LQ G o ν σ π δ τ ω q9 fq tZ.heap) FF0) 1 6 FF0 := by
  refine z_metH (P := fun H : Heap => LQ G o ν σ π δ τ ω q9 fq H) (by decide) rfl (Nat.le_of_ble_eq_true rfl) (fun pp ee ss mm below meth cC E hr hml hown hts hlocks htab hP hK hX ls hl => ?_)
  have hl : lv_has ls 7 [(0, .ref (o 0)), (1, .int (iI p)), (2, .int (iI k)), (3, .int (iI s)), (4, .int (iI h)), (5, .ref q9)] := hl
  obtain ⟨hM, hA⟩ := hP
  refine lv_aload (pc := 0) E.1 E.2 dL_setLimit_0 (lv_at hl 5 rfl) ?_
  refine z_iconst (pc := 2) E dL_setLimit_2 ?_
  refine lv_aload_n (pc := 3) E.1 E.2 dL_setLimit_3 rfl (lv_at hl 0 rfl) ?_
  refine lv_iload_n (pc := 4) E.1 E.2 dL_setLimit_4 rfl (lv_at hl 1 rfl) ?_
  refine lv_iload_n (pc := 5) E.1 E.2 dL_setLimit_5 rfl (lv_at hl 2 rfl) ?_
  refine lv_iload_n (pc := 6) E.1 E.2 dL_setLimit_6 rfl (lv_at hl 3 rfl) ?_
  refine lv_iload (pc := 7) E.1 E.2 dL_setLimit_7 (lv_at hl 4 rfl) ?_
  have hS : va_S FF0 ss.heap ss.heap [] := va_S.rf
  refine z_thrown (pc := 9) (a := ([.ref (o 0), .int (iI p), .int (iI k), .int (iI s), .int (iI h)] : List Value).toArray) (rest := [.int (iI 0), .ref q9]) (vx_runV (As := [.int (iI p), .int (iI k), .int (iI s), .int (iI h)]) ⟨E.1, E.2, hml, hown, hts⟩ (mxX7_setLimit lL hst0 G o ν σ π δ τ ω p k s h hI hp hk hs hh hbad) (cwV 4 hts gL_setLimit_X7_setLimit rfl rfl rfl vdX7_setLimit ⟨Nat.le_of_ble_eq_true rfl, Nat.le_of_ble_eq_true rfl⟩) (z_preVX (P := fun H : Heap => QT G o ν σ π δ τ ω H) (hM.ob.recv hK rfl) hM hK hX) rfl rfl hl.1 rfl (lv_room (Nat.le_of_ble_eq_true rfl)) dL_setLimit_9 ⟨Nat.le_of_ble_eq_true rfl, Nat.le_of_ble_eq_true rfl⟩) (fun ce q8 H locs hoth hS hce hcv hcl => ?_)
  have hM2 := hM.kp (fun k hk => hoth _ (hM.lt k hk))
  have hA2 := hA.kp (hoth _ hA.lt)
  have hk9 : (kxSetL σ p k s h) = 1 ∨ (kxSetL σ p k s h) = 2 := (show (kxSetL σ p k s h) = 0 ∨ (kxSetL σ p k s h) = 1 ∨ (kxSetL σ p k s h) = 2 by unfold kxSetL; (try unfold kxPK); (repeat' split) <;> simp).resolve_left hbad
  rcases hk9 with hk | hk
  · rw [show exq xA xS xI (kxSetL σ p k s h) = xA by rw [hk]; rfl] at hcl
    refine vx_catch (own := RL) (name := xA) (E := xA) hown [] ⟨0, 14, 17, 19⟩ [⟨0, 14, 21, 13⟩] (htab.trans rfl) (fun z hz => absurd hz List.not_mem_nil) (by decide) (by decide) (hts _ (List.mem_of_getElem? (i := 1) rfl)) (z_cast hX (by decide)) hce hcv hcl ?_
    refine lv_astore (pc := 17) (lv' := [(6, .ref q8), (0, .ref (o 0)), (1, .int (iI p)), (2, .int (iI k)), (3, .int (iI s)), (4, .int (iI h)), (5, .ref q9)]) E.1 E.2 dL_setLimit_17 hl (by decide) rfl (fun ls hl => ?_)
    refine z_iconst (pc := 19) E dL_setLimit_19 ?_
    exact z_retWi (pc := 20) (P1 := fun H : Heap => LQ G o ν σ π δ τ ω q9 fq H) E hr (by rw [hk]) ⟨hM2, hA2⟩ hS hlocks dL_setLimit_20
  · rw [show exq xA xS xI (kxSetL σ p k s h) = xS by rw [hk]; rfl] at hcl
    refine vx_catch (own := RL) (name := xS) (E := xS) hown [⟨0, 14, 17, 19⟩] ⟨0, 14, 21, 13⟩ [] (htab.trans rfl) (List.forall_mem_cons.mpr ⟨Or.inr ⟨by decide, xA, (hts _ (List.mem_of_getElem? (i := 1) rfl)), hX.2.2.2.2 xS (by decide) xA (by decide) (by decide)⟩, fun z hz => absurd hz List.not_mem_nil⟩) (by decide) (by decide) (hts _ (List.mem_of_getElem? (i := 2) rfl)) (z_cast hX (by decide)) hce hcv hcl ?_
    refine lv_astore (pc := 21) (lv' := [(6, .ref q8), (0, .ref (o 0)), (1, .int (iI p)), (2, .int (iI k)), (3, .int (iI s)), (4, .int (iI h)), (5, .ref q9)]) E.1 E.2 dL_setLimit_21 hl (by decide) rfl (fun ls hl => ?_)
    refine z_iconst (pc := 23) E dL_setLimit_23 ?_
    exact z_retWi (pc := 24) (P1 := fun H : Heap => LQ G o ν σ π δ τ ω q9 fq H) E hr (by rw [hk]) ⟨hM2, hA2⟩ hS hlocks dL_setLimit_24
set_option maxRecDepth 100000 in
theorem mbL_state (lL : Launch) (hst0 : lL.stackTraces = false) (G : GG) (o : Nat → Nat) (ν σ : Int → Int) (π : Nat → Int → Int) (δ τ ω : Int → Int) (p : Int) (k : Int) (hI : In σ) (hp : -2147483648 ≤ p ∧ p < 2147483648) (hk : -2147483648 ≤ k ∧ k < 2147483648) (hbad : ¬ ((kxPK p k) = 0)) (q9 : Nat) (fq : Int → Int) : Met lL yL_state wsL_state ({ frames := 10, cells := 1, slots := 6, locals := 185 } : Room) (va_Pc [.ref (o 0), .int (iI p), .int (iI k), .ref q9] (fun U => LQ G o ν σ π δ τ ω q9 fq U.heap ∧ KK G U ∧ KX FF0 U U.heap)) (va_Qi (fun r (_ : Unit) => r = iI (kxPK p k)) (fun _ tZ => LQ G o ν σ π δ τ ω q9 fq tZ.heap) FF0) 1 6 FF0 := by
  refine z_metH (P := fun H : Heap => LQ G o ν σ π δ τ ω q9 fq H) (by decide) rfl (Nat.le_of_ble_eq_true rfl) (fun pp ee ss mm below meth cC E hr hml hown hts hlocks htab hP hK hX ls hl => ?_)
  have hl : lv_has ls 5 [(0, .ref (o 0)), (1, .int (iI p)), (2, .int (iI k)), (3, .ref q9)] := hl
  obtain ⟨hM, hA⟩ := hP
  refine lv_aload_n (pc := 0) E.1 E.2 dL_state_0 rfl (lv_at hl 3 rfl) ?_
  refine z_iconst (pc := 1) E dL_state_1 ?_
  refine lv_aload_n (pc := 2) E.1 E.2 dL_state_2 rfl (lv_at hl 0 rfl) ?_
  refine lv_iload_n (pc := 3) E.1 E.2 dL_state_3 rfl (lv_at hl 1 rfl) ?_
  refine lv_iload_n (pc := 4) E.1 E.2 dL_state_4 rfl (lv_at hl 2 rfl) ?_
  have hS : va_S FF0 ss.heap ss.heap [] := va_S.rf
  refine z_thrown (pc := 5) (a := ([.ref (o 0), .int (iI p), .int (iI k)] : List Value).toArray) (rest := [.int (iI 0), .ref q9]) (vx_runV (As := [.int (iI p), .int (iI k)]) ⟨E.1, E.2, hml, hown, hts⟩ (mxX7_state lL hst0 G o ν σ π δ τ ω p k hI hp hk hbad) (cwV 2 hts gL_state_X7_state rfl rfl rfl vdX7_state ⟨Nat.le_of_ble_eq_true rfl, Nat.le_of_ble_eq_true rfl⟩) (z_preVX (P := fun H : Heap => QT G o ν σ π δ τ ω H) (hM.ob.recv hK rfl) hM hK hX) rfl rfl hl.1 rfl (lv_room (Nat.le_of_ble_eq_true rfl)) dL_state_5 ⟨Nat.le_of_ble_eq_true rfl, Nat.le_of_ble_eq_true rfl⟩) (fun ce q8 H locs hoth hS hce hcv hcl => ?_)
  have hM2 := hM.kp (fun k hk => hoth _ (hM.lt k hk))
  have hA2 := hA.kp (hoth _ hA.lt)
  have hk9 : (kxPK p k) = 1 := (show (kxPK p k) = 0 ∨ (kxPK p k) = 1 by unfold kxPK; (try unfold kxPK); (repeat' split) <;> simp).resolve_left hbad
  have hk := hk9
  rw [show exq xA xI xI (kxPK p k) = xA by rw [hk]; rfl] at hcl
  refine vx_catch (own := RL) (name := xA) (E := xA) hown [] ⟨0, 10, 13, 19⟩ [] (htab.trans rfl) (fun z hz => absurd hz List.not_mem_nil) (by decide) (by decide) (hts _ (List.mem_of_getElem? (i := 1) rfl)) (z_cast hX (by decide)) hce hcv hcl ?_
  refine lv_astore (pc := 13) (lv' := [(4, .ref q8), (0, .ref (o 0)), (1, .int (iI p)), (2, .int (iI k)), (3, .ref q9)]) E.1 E.2 dL_state_13 hl (by decide) rfl (fun ls hl => ?_)
  refine z_iconst (pc := 15) E dL_state_15 ?_
  exact z_retWi (pc := 16) (P1 := fun H : Heap => LQ G o ν σ π δ τ ω q9 fq H) E hr (by rw [hk]) ⟨hM2, hA2⟩ hS hlocks dL_state_16
set_option maxRecDepth 100000 in
theorem mbL_graceLeft (lL : Launch) (hst0 : lL.stackTraces = false) (G : GG) (o : Nat → Nat) (ν σ : Int → Int) (π : Nat → Int → Int) (δ τ ω : Int → Int) (p : Int) (k : Int) (hI : In σ) (hp : -2147483648 ≤ p ∧ p < 2147483648) (hk : -2147483648 ≤ k ∧ k < 2147483648) (hbad : ¬ ((kxPK p k) = 0)) (q9 : Nat) (fq : Int → Int) : Met lL yL_graceLeft wsL_graceLeft ({ frames := 10, cells := 1, slots := 6, locals := 186 } : Room) (va_Pc [.ref (o 0), .int (iI p), .int (iI k), .ref q9] (fun U => LQ G o ν σ π δ τ ω q9 fq U.heap ∧ KK G U ∧ KX FF0 U U.heap)) (va_Qi (fun r (_ : Unit) => r = iI (kxPK p k)) (fun _ tZ => LQ G o ν σ π δ τ ω q9 fq tZ.heap) FF0) 1 6 FF0 := by
  refine z_metH (P := fun H : Heap => LQ G o ν σ π δ τ ω q9 fq H) (by decide) rfl (Nat.le_of_ble_eq_true rfl) (fun pp ee ss mm below meth cC E hr hml hown hts hlocks htab hP hK hX ls hl => ?_)
  have hl : lv_has ls 5 [(0, .ref (o 0)), (1, .int (iI p)), (2, .int (iI k)), (3, .ref q9)] := hl
  obtain ⟨hM, hA⟩ := hP
  refine lv_aload_n (pc := 0) E.1 E.2 dL_graceLeft_0 rfl (lv_at hl 3 rfl) ?_
  refine z_iconst (pc := 1) E dL_graceLeft_1 ?_
  refine lv_aload_n (pc := 2) E.1 E.2 dL_graceLeft_2 rfl (lv_at hl 0 rfl) ?_
  refine lv_iload_n (pc := 3) E.1 E.2 dL_graceLeft_3 rfl (lv_at hl 1 rfl) ?_
  refine lv_iload_n (pc := 4) E.1 E.2 dL_graceLeft_4 rfl (lv_at hl 2 rfl) ?_
  have hS : va_S FF0 ss.heap ss.heap [] := va_S.rf
  refine z_thrown (pc := 5) (a := ([.ref (o 0), .int (iI p), .int (iI k)] : List Value).toArray) (rest := [.int (iI 0), .ref q9]) (vx_runV (As := [.int (iI p), .int (iI k)]) ⟨E.1, E.2, hml, hown, hts⟩ (mxX7_graceLeft lL hst0 G o ν σ π δ τ ω p k hI hp hk hbad) (cwV 2 hts gL_graceLeft_X7_graceLeft rfl rfl rfl vdX7_graceLeft ⟨Nat.le_of_ble_eq_true rfl, Nat.le_of_ble_eq_true rfl⟩) (z_preVX (P := fun H : Heap => QT G o ν σ π δ τ ω H) (hM.ob.recv hK rfl) hM hK hX) rfl rfl hl.1 rfl (lv_room (Nat.le_of_ble_eq_true rfl)) dL_graceLeft_5 ⟨Nat.le_of_ble_eq_true rfl, Nat.le_of_ble_eq_true rfl⟩) (fun ce q8 H locs hoth hS hce hcv hcl => ?_)
  have hM2 := hM.kp (fun k hk => hoth _ (hM.lt k hk))
  have hA2 := hA.kp (hoth _ hA.lt)
  have hk9 : (kxPK p k) = 1 := (show (kxPK p k) = 0 ∨ (kxPK p k) = 1 by unfold kxPK; (try unfold kxPK); (repeat' split) <;> simp).resolve_left hbad
  have hk := hk9
  rw [show exq xA xI xI (kxPK p k) = xA by rw [hk]; rfl] at hcl
  refine vx_catch (own := RL) (name := xA) (E := xA) hown [] ⟨0, 10, 13, 19⟩ [] (htab.trans rfl) (fun z hz => absurd hz List.not_mem_nil) (by decide) (by decide) (hts _ (List.mem_of_getElem? (i := 1) rfl)) (z_cast hX (by decide)) hce hcv hcl ?_
  refine lv_astore (pc := 13) (lv' := [(4, .ref q8), (0, .ref (o 0)), (1, .int (iI p)), (2, .int (iI k)), (3, .ref q9)]) E.1 E.2 dL_graceLeft_13 hl (by decide) rfl (fun ls hl => ?_)
  refine z_iconst (pc := 15) E dL_graceLeft_15 ?_
  exact z_retWi (pc := 16) (P1 := fun H : Heap => LQ G o ν σ π δ τ ω q9 fq H) E hr (by rw [hk]) ⟨hM2, hA2⟩ hS hlocks dL_graceLeft_16
set_option maxRecDepth 100000 in
theorem mbL_setGrace (lL : Launch) (hst0 : lL.stackTraces = false) (G : GG) (o : Nat → Nat) (ν σ : Int → Int) (π : Nat → Int → Int) (δ τ ω : Int → Int) (g : Int) (hI : In σ) (hg : -2147483648 ≤ g ∧ g < 2147483648) (hbad : ¬ ((kxSetG g) = 0)) (q9 : Nat) (fq : Int → Int) : Met lL yL_setGrace wsL_setGrace ({ frames := 8, cells := 1, slots := 6, locals := 175 } : Room) (va_Pc [.ref (o 0), .int (iI g), .ref q9] (fun U => LQ G o ν σ π δ τ ω q9 fq U.heap ∧ KK G U ∧ KX FF0 U U.heap)) (va_Qi (fun r (_ : Unit) => r = iI (kxSetG g)) (fun _ tZ => LQ G o ν σ π δ τ ω q9 fq tZ.heap) FF0) 1 6 FF0 := by
  refine z_metH (P := fun H : Heap => LQ G o ν σ π δ τ ω q9 fq H) (by decide) rfl (Nat.le_of_ble_eq_true rfl) (fun pp ee ss mm below meth cC E hr hml hown hts hlocks htab hP hK hX ls hl => ?_)
  have hl : lv_has ls 4 [(0, .ref (o 0)), (1, .int (iI g)), (2, .ref q9)] := hl
  obtain ⟨hM, hA⟩ := hP
  refine lv_aload_n (pc := 0) E.1 E.2 dL_setGrace_0 rfl (lv_at hl 2 rfl) ?_
  refine z_iconst (pc := 1) E dL_setGrace_1 ?_
  refine lv_aload_n (pc := 2) E.1 E.2 dL_setGrace_2 rfl (lv_at hl 0 rfl) ?_
  refine lv_iload_n (pc := 3) E.1 E.2 dL_setGrace_3 rfl (lv_at hl 1 rfl) ?_
  have hS : va_S FF0 ss.heap ss.heap [] := va_S.rf
  refine z_thrown (pc := 4) (a := ([.ref (o 0), .int (iI g)] : List Value).toArray) (rest := [.int (iI 0), .ref q9]) (vx_runV (As := [.int (iI g)]) ⟨E.1, E.2, hml, hown, hts⟩ (mxX7_setGrace lL hst0 G o ν σ π δ τ ω g hI hg hbad) (cwV 1 hts gL_setGrace_X7_setGrace rfl rfl rfl vdX7_setGrace ⟨Nat.le_of_ble_eq_true rfl, Nat.le_of_ble_eq_true rfl⟩) (z_preVX (P := fun H : Heap => QT G o ν σ π δ τ ω H) (hM.ob.recv hK rfl) hM hK hX) rfl rfl hl.1 rfl (lv_room (Nat.le_of_ble_eq_true rfl)) dL_setGrace_4 ⟨Nat.le_of_ble_eq_true rfl, Nat.le_of_ble_eq_true rfl⟩) (fun ce q8 H locs hoth hS hce hcv hcl => ?_)
  have hM2 := hM.kp (fun k hk => hoth _ (hM.lt k hk))
  have hA2 := hA.kp (hoth _ hA.lt)
  have hk9 : (kxSetG g) = 1 := (show (kxSetG g) = 0 ∨ (kxSetG g) = 1 by unfold kxSetG; (try unfold kxPK); (repeat' split) <;> simp).resolve_left hbad
  have hk := hk9
  rw [show exq xA xI xI (kxSetG g) = xA by rw [hk]; rfl] at hcl
  refine vx_catch (own := RL) (name := xA) (E := xA) hown [] ⟨0, 9, 12, 19⟩ [] (htab.trans rfl) (fun z hz => absurd hz List.not_mem_nil) (by decide) (by decide) (hts _ (List.mem_of_getElem? (i := 1) rfl)) (z_cast hX (by decide)) hce hcv hcl ?_
  refine lv_astore_n (pc := 12) (lv' := [(3, .ref q8), (0, .ref (o 0)), (1, .int (iI g)), (2, .ref q9)]) E.1 E.2 dL_setGrace_12 rfl hl (by decide) rfl (fun ls hl => ?_)
  refine z_iconst (pc := 13) E dL_setGrace_13 ?_
  exact z_retWi (pc := 14) (P1 := fun H : Heap => LQ G o ν σ π δ τ ω q9 fq H) E hr (by rw [hk]) ⟨hM2, hA2⟩ hS hlocks dL_setGrace_14
set_option maxRecDepth 100000 in
theorem mbL_tick (lL : Launch) (hst0 : lL.stackTraces = false) (G : GG) (o : Nat → Nat) (ν σ : Int → Int) (π : Nat → Int → Int) (δ τ ω : Int → Int) (t : Int) (hI : In σ) (ht : -2147483648 ≤ t ∧ t < 2147483648) (hbad : ¬ ((kxTick σ t) = 0)) (q9 : Nat) (fq : Int → Int) : Met lL yL_tick wsL_tick ({ frames := 8, cells := 1, slots := 6, locals := 175 } : Room) (va_Pc [.ref (o 0), .int (iI t), .ref q9] (fun U => LQ G o ν σ π δ τ ω q9 fq U.heap ∧ KK G U ∧ KX FF0 U U.heap)) (va_Qi (fun r (_ : Unit) => r = iI (kxTick σ t)) (fun _ tZ => LQ G o ν σ π δ τ ω q9 fq tZ.heap) FF0) 1 6 FF0 := by
  refine z_metH (P := fun H : Heap => LQ G o ν σ π δ τ ω q9 fq H) (by decide) rfl (Nat.le_of_ble_eq_true rfl) (fun pp ee ss mm below meth cC E hr hml hown hts hlocks htab hP hK hX ls hl => ?_)
  have hl : lv_has ls 4 [(0, .ref (o 0)), (1, .int (iI t)), (2, .ref q9)] := hl
  obtain ⟨hM, hA⟩ := hP
  refine lv_aload_n (pc := 0) E.1 E.2 dL_tick_0 rfl (lv_at hl 2 rfl) ?_
  refine z_iconst (pc := 1) E dL_tick_1 ?_
  refine lv_aload_n (pc := 2) E.1 E.2 dL_tick_2 rfl (lv_at hl 0 rfl) ?_
  refine lv_iload_n (pc := 3) E.1 E.2 dL_tick_3 rfl (lv_at hl 1 rfl) ?_
  have hS : va_S FF0 ss.heap ss.heap [] := va_S.rf
  refine z_thrown (pc := 4) (a := ([.ref (o 0), .int (iI t)] : List Value).toArray) (rest := [.int (iI 0), .ref q9]) (vx_runV (As := [.int (iI t)]) ⟨E.1, E.2, hml, hown, hts⟩ (mxX7_tick lL hst0 G o ν σ π δ τ ω t hI ht hbad) (cwV 1 hts gL_tick_X7_tick rfl rfl rfl vdX7_tick ⟨Nat.le_of_ble_eq_true rfl, Nat.le_of_ble_eq_true rfl⟩) (z_preVX (P := fun H : Heap => QT G o ν σ π δ τ ω H) (hM.ob.recv hK rfl) hM hK hX) rfl rfl hl.1 rfl (lv_room (Nat.le_of_ble_eq_true rfl)) dL_tick_4 ⟨Nat.le_of_ble_eq_true rfl, Nat.le_of_ble_eq_true rfl⟩) (fun ce q8 H locs hoth hS hce hcv hcl => ?_)
  have hM2 := hM.kp (fun k hk => hoth _ (hM.lt k hk))
  have hA2 := hA.kp (hoth _ hA.lt)
  have hk9 : (kxTick σ t) = 1 ∨ (kxTick σ t) = 2 := (show (kxTick σ t) = 0 ∨ (kxTick σ t) = 1 ∨ (kxTick σ t) = 2 by unfold kxTick; (try unfold kxPK); (repeat' split) <;> simp).resolve_left hbad
  rcases hk9 with hk | hk
  · rw [show exq xA xS xI (kxTick σ t) = xA by rw [hk]; rfl] at hcl
    refine vx_catch (own := RL) (name := xA) (E := xA) hown [] ⟨0, 9, 12, 19⟩ [⟨0, 9, 15, 13⟩] (htab.trans rfl) (fun z hz => absurd hz List.not_mem_nil) (by decide) (by decide) (hts _ (List.mem_of_getElem? (i := 1) rfl)) (z_cast hX (by decide)) hce hcv hcl ?_
    refine lv_astore_n (pc := 12) (lv' := [(3, .ref q8), (0, .ref (o 0)), (1, .int (iI t)), (2, .ref q9)]) E.1 E.2 dL_tick_12 rfl hl (by decide) rfl (fun ls hl => ?_)
    refine z_iconst (pc := 13) E dL_tick_13 ?_
    exact z_retWi (pc := 14) (P1 := fun H : Heap => LQ G o ν σ π δ τ ω q9 fq H) E hr (by rw [hk]) ⟨hM2, hA2⟩ hS hlocks dL_tick_14
  · rw [show exq xA xS xI (kxTick σ t) = xS by rw [hk]; rfl] at hcl
    refine vx_catch (own := RL) (name := xS) (E := xS) hown [⟨0, 9, 12, 19⟩] ⟨0, 9, 15, 13⟩ [] (htab.trans rfl) (List.forall_mem_cons.mpr ⟨Or.inr ⟨by decide, xA, (hts _ (List.mem_of_getElem? (i := 1) rfl)), hX.2.2.2.2 xS (by decide) xA (by decide) (by decide)⟩, fun z hz => absurd hz List.not_mem_nil⟩) (by decide) (by decide) (hts _ (List.mem_of_getElem? (i := 2) rfl)) (z_cast hX (by decide)) hce hcv hcl ?_
    refine lv_astore_n (pc := 15) (lv' := [(3, .ref q8), (0, .ref (o 0)), (1, .int (iI t)), (2, .ref q9)]) E.1 E.2 dL_tick_15 rfl hl (by decide) rfl (fun ls hl => ?_)
    refine z_iconst (pc := 16) E dL_tick_16 ?_
    exact z_retWi (pc := 17) (P1 := fun H : Heap => LQ G o ν σ π δ τ ω q9 fq H) E hr (by rw [hk]) ⟨hM2, hA2⟩ hS hlocks dL_tick_17
set_option maxRecDepth 100000 in
theorem mbL_gift (lL : Launch) (hst0 : lL.stackTraces = false) (G : GG) (o : Nat → Nat) (ν σ : Int → Int) (π : Nat → Int → Int) (δ τ ω : Int → Int) (a : Int) (t : Int) (b : Int) (d : Int) (hI : In σ) (ha : -2147483648 ≤ a ∧ a < 2147483648) (ht : -2147483648 ≤ t ∧ t < 2147483648) (hb : -2147483648 ≤ b ∧ b < 2147483648) (hd : -2147483648 ≤ d ∧ d < 2147483648) (hbad : ¬ ((kxGift σ a t b d) = 0)) (q9 : Nat) (fq : Int → Int) : Met lL yL_gift wsL_gift ({ frames := 9, cells := 1, slots := 6, locals := 177 } : Room) (va_Pc [.ref (o 0), .int (iI a), .int (iI t), .int (iI b), .int (iI d), .ref q9] (fun U => LQ G o ν σ π δ τ ω q9 fq U.heap ∧ KK G U ∧ KX FF0 U U.heap)) (va_Qi (fun r (_ : Unit) => r = iI (kxGift σ a t b d)) (fun _ tZ => LQ G o ν σ π δ τ ω q9 fq tZ.heap) FF0) 1 6 FF0 := by
  refine z_metH (P := fun H : Heap => LQ G o ν σ π δ τ ω q9 fq H) (by decide) rfl (Nat.le_of_ble_eq_true rfl) (fun pp ee ss mm below meth cC E hr hml hown hts hlocks htab hP hK hX ls hl => ?_)
  have hl : lv_has ls 7 [(0, .ref (o 0)), (1, .int (iI a)), (2, .int (iI t)), (3, .int (iI b)), (4, .int (iI d)), (5, .ref q9)] := hl
  obtain ⟨hM, hA⟩ := hP
  refine lv_aload (pc := 0) E.1 E.2 dL_gift_0 (lv_at hl 5 rfl) ?_
  refine z_iconst (pc := 2) E dL_gift_2 ?_
  refine lv_aload_n (pc := 3) E.1 E.2 dL_gift_3 rfl (lv_at hl 0 rfl) ?_
  refine lv_iload_n (pc := 4) E.1 E.2 dL_gift_4 rfl (lv_at hl 1 rfl) ?_
  refine lv_iload_n (pc := 5) E.1 E.2 dL_gift_5 rfl (lv_at hl 2 rfl) ?_
  refine lv_iload_n (pc := 6) E.1 E.2 dL_gift_6 rfl (lv_at hl 3 rfl) ?_
  refine lv_iload (pc := 7) E.1 E.2 dL_gift_7 (lv_at hl 4 rfl) ?_
  have hS : va_S FF0 ss.heap ss.heap [] := va_S.rf
  refine z_thrown (pc := 9) (a := ([.ref (o 0), .int (iI a), .int (iI t), .int (iI b), .int (iI d)] : List Value).toArray) (rest := [.int (iI 0), .ref q9]) (vx_runV (As := [.int (iI a), .int (iI t), .int (iI b), .int (iI d)]) ⟨E.1, E.2, hml, hown, hts⟩ (mxX7_gift lL hst0 G o ν σ π δ τ ω a t b d hI ha ht hb hd hbad) (cwV 4 hts gL_gift_X7_gift rfl rfl rfl vdX7_gift ⟨Nat.le_of_ble_eq_true rfl, Nat.le_of_ble_eq_true rfl⟩) (z_preVX (P := fun H : Heap => QT G o ν σ π δ τ ω H) (hM.ob.recv hK rfl) hM hK hX) rfl rfl hl.1 rfl (lv_room (Nat.le_of_ble_eq_true rfl)) dL_gift_9 ⟨Nat.le_of_ble_eq_true rfl, Nat.le_of_ble_eq_true rfl⟩) (fun ce q8 H locs hoth hS hce hcv hcl => ?_)
  have hM2 := hM.kp (fun k hk => hoth _ (hM.lt k hk))
  have hA2 := hA.kp (hoth _ hA.lt)
  have hk9 : (kxGift σ a t b d) = 1 ∨ (kxGift σ a t b d) = 2 := (show (kxGift σ a t b d) = 0 ∨ (kxGift σ a t b d) = 1 ∨ (kxGift σ a t b d) = 2 by unfold kxGift; (try unfold kxPK); (repeat' split) <;> simp).resolve_left hbad
  rcases hk9 with hk | hk
  · rw [show exq xA xS xI (kxGift σ a t b d) = xA by rw [hk]; rfl] at hcl
    refine vx_catch (own := RL) (name := xA) (E := xA) hown [] ⟨0, 14, 17, 19⟩ [⟨0, 14, 21, 13⟩] (htab.trans rfl) (fun z hz => absurd hz List.not_mem_nil) (by decide) (by decide) (hts _ (List.mem_of_getElem? (i := 1) rfl)) (z_cast hX (by decide)) hce hcv hcl ?_
    refine lv_astore (pc := 17) (lv' := [(6, .ref q8), (0, .ref (o 0)), (1, .int (iI a)), (2, .int (iI t)), (3, .int (iI b)), (4, .int (iI d)), (5, .ref q9)]) E.1 E.2 dL_gift_17 hl (by decide) rfl (fun ls hl => ?_)
    refine z_iconst (pc := 19) E dL_gift_19 ?_
    exact z_retWi (pc := 20) (P1 := fun H : Heap => LQ G o ν σ π δ τ ω q9 fq H) E hr (by rw [hk]) ⟨hM2, hA2⟩ hS hlocks dL_gift_20
  · rw [show exq xA xS xI (kxGift σ a t b d) = xS by rw [hk]; rfl] at hcl
    refine vx_catch (own := RL) (name := xS) (E := xS) hown [⟨0, 14, 17, 19⟩] ⟨0, 14, 21, 13⟩ [] (htab.trans rfl) (List.forall_mem_cons.mpr ⟨Or.inr ⟨by decide, xA, (hts _ (List.mem_of_getElem? (i := 1) rfl)), hX.2.2.2.2 xS (by decide) xA (by decide) (by decide)⟩, fun z hz => absurd hz List.not_mem_nil⟩) (by decide) (by decide) (hts _ (List.mem_of_getElem? (i := 2) rfl)) (z_cast hX (by decide)) hce hcv hcl ?_
    refine lv_astore (pc := 21) (lv' := [(6, .ref q8), (0, .ref (o 0)), (1, .int (iI a)), (2, .int (iI t)), (3, .int (iI b)), (4, .int (iI d)), (5, .ref q9)]) E.1 E.2 dL_gift_21 hl (by decide) rfl (fun ls hl => ?_)
    refine z_iconst (pc := 23) E dL_gift_23 ?_
    exact z_retWi (pc := 24) (P1 := fun H : Heap => LQ G o ν σ π δ τ ω q9 fq H) E hr (by rw [hk]) ⟨hM2, hA2⟩ hS hlocks dL_gift_24
set_option maxRecDepth 100000 in
theorem mbL_giftOf (lL : Launch) (hst0 : lL.stackTraces = false) (G : GG) (o : Nat → Nat) (ν σ : Int → Int) (π : Nat → Int → Int) (δ τ ω : Int → Int) (g : Int) (w : Int) (hI : In σ) (hg : -2147483648 ≤ g ∧ g < 2147483648) (hw : -2147483648 ≤ w ∧ w < 2147483648) (hbad : ¬ ((kxGiftO σ g w) = 0)) (q9 : Nat) (fq : Int → Int) : Met lL yL_giftOf wsL_giftOf ({ frames := 8, cells := 1, slots := 6, locals := 143 } : Room) (va_Pc [.ref (o 0), .int (iI g), .int (iI w), .ref q9] (fun U => LQ G o ν σ π δ τ ω q9 fq U.heap ∧ KK G U ∧ KX FF0 U U.heap)) (va_Qi (fun r (_ : Unit) => r = iI (kxGiftO σ g w)) (fun _ tZ => LQ G o ν σ π δ τ ω q9 fq tZ.heap) FF0) 1 6 FF0 := by
  refine z_metH (P := fun H : Heap => LQ G o ν σ π δ τ ω q9 fq H) (by decide) rfl (Nat.le_of_ble_eq_true rfl) (fun pp ee ss mm below meth cC E hr hml hown hts hlocks htab hP hK hX ls hl => ?_)
  have hl : lv_has ls 5 [(0, .ref (o 0)), (1, .int (iI g)), (2, .int (iI w)), (3, .ref q9)] := hl
  obtain ⟨hM, hA⟩ := hP
  refine lv_aload_n (pc := 0) E.1 E.2 dL_giftOf_0 rfl (lv_at hl 3 rfl) ?_
  refine z_iconst (pc := 1) E dL_giftOf_1 ?_
  refine lv_aload_n (pc := 2) E.1 E.2 dL_giftOf_2 rfl (lv_at hl 0 rfl) ?_
  refine lv_iload_n (pc := 3) E.1 E.2 dL_giftOf_3 rfl (lv_at hl 1 rfl) ?_
  refine lv_iload_n (pc := 4) E.1 E.2 dL_giftOf_4 rfl (lv_at hl 2 rfl) ?_
  have hS : va_S FF0 ss.heap ss.heap [] := va_S.rf
  refine z_thrown (pc := 5) (a := ([.ref (o 0), .int (iI g), .int (iI w)] : List Value).toArray) (rest := [.int (iI 0), .ref q9]) (vx_runV (As := [.int (iI g), .int (iI w)]) ⟨E.1, E.2, hml, hown, hts⟩ (mxX7_giftOf lL hst0 G o ν σ π δ τ ω g w hI hg hw hbad) (cwV 2 hts gL_giftOf_X7_giftOf rfl rfl rfl vdX7_giftOf ⟨Nat.le_of_ble_eq_true rfl, Nat.le_of_ble_eq_true rfl⟩) (z_preVX (P := fun H : Heap => QT G o ν σ π δ τ ω H) (hM.ob.recv hK rfl) hM hK hX) rfl rfl hl.1 rfl (lv_room (Nat.le_of_ble_eq_true rfl)) dL_giftOf_5 ⟨Nat.le_of_ble_eq_true rfl, Nat.le_of_ble_eq_true rfl⟩) (fun ce q8 H locs hoth hS hce hcv hcl => ?_)
  have hM2 := hM.kp (fun k hk => hoth _ (hM.lt k hk))
  have hA2 := hA.kp (hoth _ hA.lt)
  have hk9 : (kxGiftO σ g w) = 1 ∨ (kxGiftO σ g w) = 2 := (show (kxGiftO σ g w) = 0 ∨ (kxGiftO σ g w) = 1 ∨ (kxGiftO σ g w) = 2 by unfold kxGiftO; (try unfold kxPK); (repeat' split) <;> simp).resolve_left hbad
  rcases hk9 with hk | hk
  · rw [show exq xI xA xI (kxGiftO σ g w) = xI by rw [hk]; rfl] at hcl
    refine vx_catch (own := RL) (name := xI) (E := xI) hown [] ⟨0, 10, 13, 28⟩ [⟨0, 10, 17, 19⟩] (htab.trans rfl) (fun z hz => absurd hz List.not_mem_nil) (by decide) (by decide) (hts _ (List.mem_of_getElem? (i := 1) rfl)) (z_cast hX (by decide)) hce hcv hcl ?_
    refine lv_astore (pc := 13) (lv' := [(4, .ref q8), (0, .ref (o 0)), (1, .int (iI g)), (2, .int (iI w)), (3, .ref q9)]) E.1 E.2 dL_giftOf_13 hl (by decide) rfl (fun ls hl => ?_)
    refine z_iconst (pc := 15) E dL_giftOf_15 ?_
    exact z_retWi (pc := 16) (P1 := fun H : Heap => LQ G o ν σ π δ τ ω q9 fq H) E hr (by rw [hk]) ⟨hM2, hA2⟩ hS hlocks dL_giftOf_16
  · rw [show exq xI xA xI (kxGiftO σ g w) = xA by rw [hk]; rfl] at hcl
    refine vx_catch (own := RL) (name := xA) (E := xA) hown [⟨0, 10, 13, 28⟩] ⟨0, 10, 17, 19⟩ [] (htab.trans rfl) (List.forall_mem_cons.mpr ⟨Or.inr ⟨by decide, xI, (hts _ (List.mem_of_getElem? (i := 1) rfl)), hX.2.2.2.2 xA (by decide) xI (by decide) (by decide)⟩, fun z hz => absurd hz List.not_mem_nil⟩) (by decide) (by decide) (hts _ (List.mem_of_getElem? (i := 2) rfl)) (z_cast hX (by decide)) hce hcv hcl ?_
    refine lv_astore (pc := 17) (lv' := [(4, .ref q8), (0, .ref (o 0)), (1, .int (iI g)), (2, .int (iI w)), (3, .ref q9)]) E.1 E.2 dL_giftOf_17 hl (by decide) rfl (fun ls hl => ?_)
    refine z_iconst (pc := 19) E dL_giftOf_19 ?_
    exact z_retWi (pc := 20) (P1 := fun H : Heap => LQ G o ν σ π δ τ ω q9 fq H) E hr (by rw [hk]) ⟨hM2, hA2⟩ hS hlocks dL_giftOf_20
set_option maxRecDepth 100000 in
theorem mbL_endGift (lL : Launch) (hst0 : lL.stackTraces = false) (G : GG) (o : Nat → Nat) (ν σ : Int → Int) (π : Nat → Int → Int) (δ τ ω : Int → Int) (g : Int) (hI : In σ) (hg : -2147483648 ≤ g ∧ g < 2147483648) (hbad : ¬ ((kxGi σ g) = 0)) (q9 : Nat) (fq : Int → Int) : Met lL yL_endGift wsL_endGift ({ frames := 8, cells := 1, slots := 6, locals := 174 } : Room) (va_Pc [.ref (o 0), .int (iI g), .ref q9] (fun U => LQ G o ν σ π δ τ ω q9 fq U.heap ∧ KK G U ∧ KX FF0 U U.heap)) (va_Qi (fun r (_ : Unit) => r = iI (kxGi σ g)) (fun _ tZ => LQ G o ν σ π δ τ ω q9 fq tZ.heap) FF0) 1 6 FF0 := by
  refine z_metH (P := fun H : Heap => LQ G o ν σ π δ τ ω q9 fq H) (by decide) rfl (Nat.le_of_ble_eq_true rfl) (fun pp ee ss mm below meth cC E hr hml hown hts hlocks htab hP hK hX ls hl => ?_)
  have hl : lv_has ls 4 [(0, .ref (o 0)), (1, .int (iI g)), (2, .ref q9)] := hl
  obtain ⟨hM, hA⟩ := hP
  refine lv_aload_n (pc := 0) E.1 E.2 dL_endGift_0 rfl (lv_at hl 2 rfl) ?_
  refine z_iconst (pc := 1) E dL_endGift_1 ?_
  refine lv_aload_n (pc := 2) E.1 E.2 dL_endGift_2 rfl (lv_at hl 0 rfl) ?_
  refine lv_iload_n (pc := 3) E.1 E.2 dL_endGift_3 rfl (lv_at hl 1 rfl) ?_
  have hS : va_S FF0 ss.heap ss.heap [] := va_S.rf
  refine z_thrown (pc := 4) (a := ([.ref (o 0), .int (iI g)] : List Value).toArray) (rest := [.int (iI 0), .ref q9]) (vx_runV (As := [.int (iI g)]) ⟨E.1, E.2, hml, hown, hts⟩ (mxX7_endGift lL hst0 G o ν σ π δ τ ω g hI hg hbad) (cwV 1 hts gL_endGift_X7_endGift rfl rfl rfl vdX7_endGift ⟨Nat.le_of_ble_eq_true rfl, Nat.le_of_ble_eq_true rfl⟩) (z_preVX (P := fun H : Heap => QT G o ν σ π δ τ ω H) (hM.ob.recv hK rfl) hM hK hX) rfl rfl hl.1 rfl (lv_room (Nat.le_of_ble_eq_true rfl)) dL_endGift_4 ⟨Nat.le_of_ble_eq_true rfl, Nat.le_of_ble_eq_true rfl⟩) (fun ce q8 H locs hoth hS hce hcv hcl => ?_)
  have hM2 := hM.kp (fun k hk => hoth _ (hM.lt k hk))
  have hA2 := hA.kp (hoth _ hA.lt)
  have hk9 : (kxGi σ g) = 1 := (show (kxGi σ g) = 0 ∨ (kxGi σ g) = 1 by unfold kxGi; (try unfold kxPK); (repeat' split) <;> simp).resolve_left hbad
  have hk := hk9
  rw [show exq xI xI xI (kxGi σ g) = xI by rw [hk]; rfl] at hcl
  refine vx_catch (own := RL) (name := xI) (E := xI) hown [] ⟨0, 9, 12, 28⟩ [] (htab.trans rfl) (fun z hz => absurd hz List.not_mem_nil) (by decide) (by decide) (hts _ (List.mem_of_getElem? (i := 1) rfl)) (z_cast hX (by decide)) hce hcv hcl ?_
  refine lv_astore_n (pc := 12) (lv' := [(3, .ref q8), (0, .ref (o 0)), (1, .int (iI g)), (2, .ref q9)]) E.1 E.2 dL_endGift_12 rfl hl (by decide) rfl (fun ls hl => ?_)
  refine z_iconst (pc := 13) E dL_endGift_13 ?_
  exact z_retWi (pc := 14) (P1 := fun H : Heap => LQ G o ν σ π δ τ ω q9 fq H) E hr (by rw [hk]) ⟨hM2, hA2⟩ hS hlocks dL_endGift_14
set_option maxRecDepth 100000 in
theorem mbL_adjust (lL : Launch) (hst0 : lL.stackTraces = false) (G : GG) (o : Nat → Nat) (ν σ : Int → Int) (π : Nat → Int → Int) (δ τ ω : Int → Int) (p : Int) (k : Int) (b : Int) (hI : In σ) (hp : -2147483648 ≤ p ∧ p < 2147483648) (hk : -2147483648 ≤ k ∧ k < 2147483648) (hb : -2147483648 ≤ b ∧ b < 2147483648) (hbad : ¬ ((kxAdj σ p k b) = 0)) (q9 : Nat) (fq : Int → Int) : Met lL yL_adjust wsL_adjust ({ frames := 10, cells := 1, slots := 6, locals := 188 } : Room) (va_Pc [.ref (o 0), .int (iI p), .int (iI k), .int (iI b), .ref q9] (fun U => LQ G o ν σ π δ τ ω q9 fq U.heap ∧ KK G U ∧ KX FF0 U U.heap)) (va_Qi (fun r (_ : Unit) => r = iI (kxAdj σ p k b)) (fun _ tZ => LQ G o ν σ π δ τ ω q9 fq tZ.heap) FF0) 1 6 FF0 := by
  refine z_metH (P := fun H : Heap => LQ G o ν σ π δ τ ω q9 fq H) (by decide) rfl (Nat.le_of_ble_eq_true rfl) (fun pp ee ss mm below meth cC E hr hml hown hts hlocks htab hP hK hX ls hl => ?_)
  have hl : lv_has ls 6 [(0, .ref (o 0)), (1, .int (iI p)), (2, .int (iI k)), (3, .int (iI b)), (4, .ref q9)] := hl
  obtain ⟨hM, hA⟩ := hP
  refine lv_aload (pc := 0) E.1 E.2 dL_adjust_0 (lv_at hl 4 rfl) ?_
  refine z_iconst (pc := 2) E dL_adjust_2 ?_
  refine lv_aload_n (pc := 3) E.1 E.2 dL_adjust_3 rfl (lv_at hl 0 rfl) ?_
  refine lv_iload_n (pc := 4) E.1 E.2 dL_adjust_4 rfl (lv_at hl 1 rfl) ?_
  refine lv_iload_n (pc := 5) E.1 E.2 dL_adjust_5 rfl (lv_at hl 2 rfl) ?_
  refine lv_iload_n (pc := 6) E.1 E.2 dL_adjust_6 rfl (lv_at hl 3 rfl) ?_
  have hS : va_S FF0 ss.heap ss.heap [] := va_S.rf
  refine z_thrown (pc := 7) (a := ([.ref (o 0), .int (iI p), .int (iI k), .int (iI b)] : List Value).toArray) (rest := [.int (iI 0), .ref q9]) (vx_runV (As := [.int (iI p), .int (iI k), .int (iI b)]) ⟨E.1, E.2, hml, hown, hts⟩ (mxX7_adjust lL hst0 G o ν σ π δ τ ω p k b hI hp hk hb hbad) (cwV 3 hts gL_adjust_X7_adjust rfl rfl rfl vdX7_adjust ⟨Nat.le_of_ble_eq_true rfl, Nat.le_of_ble_eq_true rfl⟩) (z_preVX (P := fun H : Heap => QT G o ν σ π δ τ ω H) (hM.ob.recv hK rfl) hM hK hX) rfl rfl hl.1 rfl (lv_room (Nat.le_of_ble_eq_true rfl)) dL_adjust_7 ⟨Nat.le_of_ble_eq_true rfl, Nat.le_of_ble_eq_true rfl⟩) (fun ce q8 H locs hoth hS hce hcv hcl => ?_)
  have hM2 := hM.kp (fun k hk => hoth _ (hM.lt k hk))
  have hA2 := hA.kp (hoth _ hA.lt)
  have hk9 : (kxAdj σ p k b) = 1 ∨ (kxAdj σ p k b) = 2 := (show (kxAdj σ p k b) = 0 ∨ (kxAdj σ p k b) = 1 ∨ (kxAdj σ p k b) = 2 by unfold kxAdj; (try unfold kxPK); (repeat' split) <;> simp).resolve_left hbad
  rcases hk9 with hk | hk
  · rw [show exq xA xS xI (kxAdj σ p k b) = xA by rw [hk]; rfl] at hcl
    refine vx_catch (own := RL) (name := xA) (E := xA) hown [] ⟨0, 12, 15, 19⟩ [⟨0, 12, 19, 13⟩] (htab.trans rfl) (fun z hz => absurd hz List.not_mem_nil) (by decide) (by decide) (hts _ (List.mem_of_getElem? (i := 1) rfl)) (z_cast hX (by decide)) hce hcv hcl ?_
    refine lv_astore (pc := 15) (lv' := [(5, .ref q8), (0, .ref (o 0)), (1, .int (iI p)), (2, .int (iI k)), (3, .int (iI b)), (4, .ref q9)]) E.1 E.2 dL_adjust_15 hl (by decide) rfl (fun ls hl => ?_)
    refine z_iconst (pc := 17) E dL_adjust_17 ?_
    exact z_retWi (pc := 18) (P1 := fun H : Heap => LQ G o ν σ π δ τ ω q9 fq H) E hr (by rw [hk]) ⟨hM2, hA2⟩ hS hlocks dL_adjust_18
  · rw [show exq xA xS xI (kxAdj σ p k b) = xS by rw [hk]; rfl] at hcl
    refine vx_catch (own := RL) (name := xS) (E := xS) hown [⟨0, 12, 15, 19⟩] ⟨0, 12, 19, 13⟩ [] (htab.trans rfl) (List.forall_mem_cons.mpr ⟨Or.inr ⟨by decide, xA, (hts _ (List.mem_of_getElem? (i := 1) rfl)), hX.2.2.2.2 xS (by decide) xA (by decide) (by decide)⟩, fun z hz => absurd hz List.not_mem_nil⟩) (by decide) (by decide) (hts _ (List.mem_of_getElem? (i := 2) rfl)) (z_cast hX (by decide)) hce hcv hcl ?_
    refine lv_astore (pc := 19) (lv' := [(5, .ref q8), (0, .ref (o 0)), (1, .int (iI p)), (2, .int (iI k)), (3, .int (iI b)), (4, .ref q9)]) E.1 E.2 dL_adjust_19 hl (by decide) rfl (fun ls hl => ?_)
    refine z_iconst (pc := 21) E dL_adjust_21 ?_
    exact z_retWi (pc := 22) (P1 := fun H : Heap => LQ G o ν σ π δ τ ω q9 fq H) E hr (by rw [hk]) ⟨hM2, hA2⟩ hS hlocks dL_adjust_22
set_option maxRecDepth 100000 in
theorem mbL_writePath (lL : Launch) (hst0 : lL.stackTraces = false) (G : GG) (o : Nat → Nat) (ν σ : Int → Int) (π : Nat → Int → Int) (δ τ ω : Int → Int) (f : Int) (hI : In σ) (hf : -2147483648 ≤ f ∧ f < 2147483648) (hbad : ¬ ((kxFo σ f) = 0)) (q9 : Nat) (fq : Int → Int) : Met lL yL_writePath wsL_writePath ({ frames := 8, cells := 1, slots := 6, locals := 143 } : Room) (va_Pc [.ref (o 0), .int (iI f), .ref q9] (fun U => LQ G o ν σ π δ τ ω q9 fq U.heap ∧ KK G U ∧ KX FF0 U U.heap)) (va_Qi (fun r (_ : Unit) => r = iI (kxFo σ f)) (fun _ tZ => LQ G o ν σ π δ τ ω q9 fq tZ.heap) FF0) 1 6 FF0 := by
  refine z_metH (P := fun H : Heap => LQ G o ν σ π δ τ ω q9 fq H) (by decide) rfl (Nat.le_of_ble_eq_true rfl) (fun pp ee ss mm below meth cC E hr hml hown hts hlocks htab hP hK hX ls hl => ?_)
  have hl : lv_has ls 4 [(0, .ref (o 0)), (1, .int (iI f)), (2, .ref q9)] := hl
  obtain ⟨hM, hA⟩ := hP
  refine lv_aload_n (pc := 0) E.1 E.2 dL_writePath_0 rfl (lv_at hl 2 rfl) ?_
  refine z_iconst (pc := 1) E dL_writePath_1 ?_
  refine lv_aload_n (pc := 2) E.1 E.2 dL_writePath_2 rfl (lv_at hl 0 rfl) ?_
  refine lv_iload_n (pc := 3) E.1 E.2 dL_writePath_3 rfl (lv_at hl 1 rfl) ?_
  have hS : va_S FF0 ss.heap ss.heap [] := va_S.rf
  refine z_thrown (pc := 4) (a := ([.ref (o 0), .int (iI f)] : List Value).toArray) (rest := [.int (iI 0), .ref q9]) (vx_runV (As := [.int (iI f)]) ⟨E.1, E.2, hml, hown, hts⟩ (mxX7_writePath lL hst0 G o ν σ π δ τ ω f hI hf hbad) (cwV 1 hts gL_writePath_X7_writePath rfl rfl rfl vdX7_writePath ⟨Nat.le_of_ble_eq_true rfl, Nat.le_of_ble_eq_true rfl⟩) (z_preVX (P := fun H : Heap => QT G o ν σ π δ τ ω H) (hM.ob.recv hK rfl) hM hK hX) rfl rfl hl.1 rfl (lv_room (Nat.le_of_ble_eq_true rfl)) dL_writePath_4 ⟨Nat.le_of_ble_eq_true rfl, Nat.le_of_ble_eq_true rfl⟩) (fun ce q8 H locs hoth hS hce hcv hcl => ?_)
  have hM2 := hM.kp (fun k hk => hoth _ (hM.lt k hk))
  have hA2 := hA.kp (hoth _ hA.lt)
  have hk9 : (kxFo σ f) = 1 := (show (kxFo σ f) = 0 ∨ (kxFo σ f) = 1 by unfold kxFo; (try unfold kxPK); (repeat' split) <;> simp).resolve_left hbad
  have hk := hk9
  rw [show exq xI xI xI (kxFo σ f) = xI by rw [hk]; rfl] at hcl
  refine vx_catch (own := RL) (name := xI) (E := xI) hown [] ⟨0, 9, 12, 28⟩ [] (htab.trans rfl) (fun z hz => absurd hz List.not_mem_nil) (by decide) (by decide) (hts _ (List.mem_of_getElem? (i := 1) rfl)) (z_cast hX (by decide)) hce hcv hcl ?_
  refine lv_astore_n (pc := 12) (lv' := [(3, .ref q8), (0, .ref (o 0)), (1, .int (iI f)), (2, .ref q9)]) E.1 E.2 dL_writePath_12 rfl hl (by decide) rfl (fun ls hl => ?_)
  refine z_iconst (pc := 13) E dL_writePath_13 ?_
  exact z_retWi (pc := 14) (P1 := fun H : Heap => LQ G o ν σ π δ τ ω q9 fq H) E hr (by rw [hk]) ⟨hM2, hA2⟩ hS hlocks dL_writePath_14
set_option maxRecDepth 100000 in
theorem mbL_writeAccounts (lL : Launch) (hst0 : lL.stackTraces = false) (G : GG) (o : Nat → Nat) (ν σ : Int → Int) (π : Nat → Int → Int) (δ τ ω : Int → Int) (p : Int) (hI : In σ) (hp : -2147483648 ≤ p ∧ p < 2147483648) (hbad : ¬ ((kxWA p) = 0)) (q9 : Nat) (fq : Int → Int) : Met lL yL_writeAccounts wsL_writeAccounts ({ frames := 9, cells := 1, slots := 6, locals := 164 } : Room) (va_Pc [.ref (o 0), .int (iI p), .ref q9] (fun U => LQ G o ν σ π δ τ ω q9 fq U.heap ∧ KK G U ∧ KX FF0 U U.heap)) (va_Qi (fun r (_ : Unit) => r = iI (kxWA p)) (fun _ tZ => LQ G o ν σ π δ τ ω q9 fq tZ.heap) FF0) 1 6 FF0 := by
  refine z_metH (P := fun H : Heap => LQ G o ν σ π δ τ ω q9 fq H) (by decide) rfl (Nat.le_of_ble_eq_true rfl) (fun pp ee ss mm below meth cC E hr hml hown hts hlocks htab hP hK hX ls hl => ?_)
  have hl : lv_has ls 4 [(0, .ref (o 0)), (1, .int (iI p)), (2, .ref q9)] := hl
  obtain ⟨hM, hA⟩ := hP
  refine lv_aload_n (pc := 0) E.1 E.2 dL_writeAccounts_0 rfl (lv_at hl 2 rfl) ?_
  refine z_iconst (pc := 1) E dL_writeAccounts_1 ?_
  refine lv_aload_n (pc := 2) E.1 E.2 dL_writeAccounts_2 rfl (lv_at hl 0 rfl) ?_
  refine lv_iload_n (pc := 3) E.1 E.2 dL_writeAccounts_3 rfl (lv_at hl 1 rfl) ?_
  have hS : va_S FF0 ss.heap ss.heap [] := va_S.rf
  refine z_thrown (pc := 4) (a := ([.ref (o 0), .int (iI p)] : List Value).toArray) (rest := [.int (iI 0), .ref q9]) (vx_runV (As := [.int (iI p)]) ⟨E.1, E.2, hml, hown, hts⟩ (mxX7_writeAccounts lL hst0 G o ν σ π δ τ ω p hI hp hbad) (cwV 1 hts gL_writeAccounts_X7_writeAccounts rfl rfl rfl vdX7_writeAccounts ⟨Nat.le_of_ble_eq_true rfl, Nat.le_of_ble_eq_true rfl⟩) (z_preVX (P := fun H : Heap => QT G o ν σ π δ τ ω H) (hM.ob.recv hK rfl) hM hK hX) rfl rfl hl.1 rfl (lv_room (Nat.le_of_ble_eq_true rfl)) dL_writeAccounts_4 ⟨Nat.le_of_ble_eq_true rfl, Nat.le_of_ble_eq_true rfl⟩) (fun ce q8 H locs hoth hS hce hcv hcl => ?_)
  have hM2 := hM.kp (fun k hk => hoth _ (hM.lt k hk))
  have hA2 := hA.kp (hoth _ hA.lt)
  have hk9 : (kxWA p) = 1 := (show (kxWA p) = 0 ∨ (kxWA p) = 1 by unfold kxWA; (try unfold kxPK); (repeat' split) <;> simp).resolve_left hbad
  have hk := hk9
  rw [show exq xA xI xI (kxWA p) = xA by rw [hk]; rfl] at hcl
  refine vx_catch (own := RL) (name := xA) (E := xA) hown [] ⟨0, 9, 12, 19⟩ [] (htab.trans rfl) (fun z hz => absurd hz List.not_mem_nil) (by decide) (by decide) (hts _ (List.mem_of_getElem? (i := 1) rfl)) (z_cast hX (by decide)) hce hcv hcl ?_
  refine lv_astore_n (pc := 12) (lv' := [(3, .ref q8), (0, .ref (o 0)), (1, .int (iI p)), (2, .ref q9)]) E.1 E.2 dL_writeAccounts_12 rfl hl (by decide) rfl (fun ls hl => ?_)
  refine z_iconst (pc := 13) E dL_writeAccounts_13 ?_
  exact z_retWi (pc := 14) (P1 := fun H : Heap => LQ G o ν σ π δ τ ω q9 fq H) E hr (by rw [hk]) ⟨hM2, hA2⟩ hS hlocks dL_writeAccounts_14
set_option maxRecDepth 100000 in
theorem mbL_writtenByte (lL : Launch) (hst0 : lL.stackTraces = false) (G : GG) (o : Nat → Nat) (ν σ : Int → Int) (π : Nat → Int → Int) (δ τ ω : Int → Int) (i : Int) (hI : In σ) (hi : -2147483648 ≤ i ∧ i < 2147483648) (hm31 : 0 ≤ ν 31 ∧ ν 31 ≤ 900) (hbad : ¬ ((kxWB (ν 31) i) = 0)) (q9 : Nat) (fq : Int → Int) : Met lL yL_writtenByte wsL_writtenByte ({ frames := 7, cells := 1, slots := 6, locals := 121 } : Room) (va_Pc [.ref (o 0), .int (iI i), .ref q9] (fun U => LQ G o ν σ π δ τ ω q9 fq U.heap ∧ KK G U ∧ KX FF0 U U.heap)) (va_Qi (fun r (_ : Unit) => r = iI (kxWB (ν 31) i)) (fun _ tZ => LQ G o ν σ π δ τ ω q9 fq tZ.heap) FF0) 1 6 FF0 := by
  refine z_metH (P := fun H : Heap => LQ G o ν σ π δ τ ω q9 fq H) (by decide) rfl (Nat.le_of_ble_eq_true rfl) (fun pp ee ss mm below meth cC E hr hml hown hts hlocks htab hP hK hX ls hl => ?_)
  have hl : lv_has ls 4 [(0, .ref (o 0)), (1, .int (iI i)), (2, .ref q9)] := hl
  obtain ⟨hM, hA⟩ := hP
  refine lv_aload_n (pc := 0) E.1 E.2 dL_writtenByte_0 rfl (lv_at hl 2 rfl) ?_
  refine z_iconst (pc := 1) E dL_writtenByte_1 ?_
  refine lv_aload_n (pc := 2) E.1 E.2 dL_writtenByte_2 rfl (lv_at hl 0 rfl) ?_
  refine lv_iload_n (pc := 3) E.1 E.2 dL_writtenByte_3 rfl (lv_at hl 1 rfl) ?_
  have hS : va_S FF0 ss.heap ss.heap [] := va_S.rf
  refine z_thrown (pc := 4) (a := ([.ref (o 0), .int (iI i)] : List Value).toArray) (rest := [.int (iI 0), .ref q9]) (vx_runV (As := [.int (iI i)]) ⟨E.1, E.2, hml, hown, hts⟩ (mxX7_writtenByte lL hst0 G o ν σ π δ τ ω i hI hi hm31 hbad) (cwV 1 hts gL_writtenByte_X7_writtenByte rfl rfl rfl vdX7_writtenByte ⟨Nat.le_of_ble_eq_true rfl, Nat.le_of_ble_eq_true rfl⟩) (z_preVX (P := fun H : Heap => QT G o ν σ π δ τ ω H) (hM.ob.recv hK rfl) hM hK hX) rfl rfl hl.1 rfl (lv_room (Nat.le_of_ble_eq_true rfl)) dL_writtenByte_4 ⟨Nat.le_of_ble_eq_true rfl, Nat.le_of_ble_eq_true rfl⟩) (fun ce q8 H locs hoth hS hce hcv hcl => ?_)
  have hM2 := hM.kp (fun k hk => hoth _ (hM.lt k hk))
  have hA2 := hA.kp (hoth _ hA.lt)
  have hk9 : (kxWB (ν 31) i) = 1 := (show (kxWB (ν 31) i) = 0 ∨ (kxWB (ν 31) i) = 1 by unfold kxWB; (try unfold kxPK); (repeat' split) <;> simp).resolve_left hbad
  have hk := hk9
  rw [show exq xI xI xI (kxWB (ν 31) i) = xI by rw [hk]; rfl] at hcl
  refine vx_catch (own := RL) (name := xI) (E := xI) hown [] ⟨0, 9, 12, 28⟩ [] (htab.trans rfl) (fun z hz => absurd hz List.not_mem_nil) (by decide) (by decide) (hts _ (List.mem_of_getElem? (i := 1) rfl)) (z_cast hX (by decide)) hce hcv hcl ?_
  refine lv_astore_n (pc := 12) (lv' := [(3, .ref q8), (0, .ref (o 0)), (1, .int (iI i)), (2, .ref q9)]) E.1 E.2 dL_writtenByte_12 rfl hl (by decide) rfl (fun ls hl => ?_)
  refine z_iconst (pc := 13) E dL_writtenByte_13 ?_
  exact z_retWi (pc := 14) (P1 := fun H : Heap => LQ G o ν σ π δ τ ω q9 fq H) E hr (by rw [hk]) ⟨hM2, hA2⟩ hS hlocks dL_writtenByte_14
set_option maxRecDepth 100000 in
theorem mbL_undo (lL : Launch) (hst0 : lL.stackTraces = false) (G : GG) (o : Nat → Nat) (ν σ : Int → Int) (π : Nat → Int → Int) (δ τ ω : Int → Int) (hI : In σ) (hu : 0 ≤ ν 3 ∧ ν 3 ≤ 8) (hbad : ¬ ((kxUndo (ν 3)) = 0)) (q9 : Nat) (fq : Int → Int) : Met lL yL_undo wsL_undo ({ frames := 7, cells := 1, slots := 6, locals := 153 } : Room) (va_Pc [.ref (o 0), .ref q9] (fun U => LQ G o ν σ π δ τ ω q9 fq U.heap ∧ KK G U ∧ KX FF0 U U.heap)) (va_Qi (fun r (_ : Unit) => r = iI (kxUndo (ν 3))) (fun _ tZ => LQ G o ν σ π δ τ ω q9 fq tZ.heap) FF0) 1 6 FF0 := by
  refine z_metH (P := fun H : Heap => LQ G o ν σ π δ τ ω q9 fq H) (by decide) rfl (Nat.le_of_ble_eq_true rfl) (fun pp ee ss mm below meth cC E hr hml hown hts hlocks htab hP hK hX ls hl => ?_)
  have hl : lv_has ls 3 [(0, .ref (o 0)), (1, .ref q9)] := hl
  obtain ⟨hM, hA⟩ := hP
  refine lv_aload_n (pc := 0) E.1 E.2 dL_undo_0 rfl (lv_at hl 1 rfl) ?_
  refine z_iconst (pc := 1) E dL_undo_1 ?_
  refine lv_aload_n (pc := 2) E.1 E.2 dL_undo_2 rfl (lv_at hl 0 rfl) ?_
  have hS : va_S FF0 ss.heap ss.heap [] := va_S.rf
  refine z_thrown (pc := 3) (a := ([.ref (o 0)] : List Value).toArray) (rest := [.int (iI 0), .ref q9]) (vx_runV (As := []) ⟨E.1, E.2, hml, hown, hts⟩ (mxX7_undo lL hst0 G o ν σ π δ τ ω hI hu hbad) (cwV 0 hts gL_undo_X7_undo rfl rfl rfl vdX7_undo ⟨Nat.le_of_ble_eq_true rfl, Nat.le_of_ble_eq_true rfl⟩) (z_preVX (P := fun H : Heap => QT G o ν σ π δ τ ω H) (hM.ob.recv hK rfl) hM hK hX) rfl rfl hl.1 rfl (lv_room (Nat.le_of_ble_eq_true rfl)) dL_undo_3 ⟨Nat.le_of_ble_eq_true rfl, Nat.le_of_ble_eq_true rfl⟩) (fun ce q8 H locs hoth hS hce hcv hcl => ?_)
  have hM2 := hM.kp (fun k hk => hoth _ (hM.lt k hk))
  have hA2 := hA.kp (hoth _ hA.lt)
  have hk9 : (kxUndo (ν 3)) = 1 := (show (kxUndo (ν 3)) = 0 ∨ (kxUndo (ν 3)) = 1 by unfold kxUndo; (try unfold kxPK); (repeat' split) <;> simp).resolve_left hbad
  have hk := hk9
  rw [show exq xS xI xI (kxUndo (ν 3)) = xS by rw [hk]; rfl] at hcl
  refine vx_catch (own := RL) (name := xS) (E := xS) hown [] ⟨0, 8, 11, 13⟩ [] (htab.trans rfl) (fun z hz => absurd hz List.not_mem_nil) (by decide) (by decide) (hts _ (List.mem_of_getElem? (i := 1) rfl)) (z_cast hX (by decide)) hce hcv hcl ?_
  refine lv_astore_n (pc := 11) (lv' := [(2, .ref q8), (0, .ref (o 0)), (1, .ref q9)]) E.1 E.2 dL_undo_11 rfl hl (by decide) rfl (fun ls hl => ?_)
  refine z_iconst (pc := 12) E dL_undo_12 ?_
  exact z_retWi (pc := 13) (P1 := fun H : Heap => LQ G o ν σ π δ τ ω q9 fq H) E hr (by rw [hk]) ⟨hM2, hA2⟩ hS hlocks dL_undo_13
