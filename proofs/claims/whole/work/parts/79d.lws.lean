set_option maxRecDepth 100000 in
theorem mL_share (lL : Launch) (G : GG) (o : Nat → Nat) (ν σ : Int → Int) (π : Nat → Int → Int) (δ τ ω : Int → Int) (p : Int) (k : Int) (hI : In σ) (hp : -2147483648 ≤ p ∧ p < 2147483648) (hk : -2147483648 ≤ k ∧ k < 2147483648) (hok : (kxShare σ p k) = 0) (q9 : Nat) (xq : UInt64) (hq9 : ∀ k, k < 187 → o k ≠ q9) : Met lL yL_share wsL_share ({ frames := 8, cells := 0, slots := 0, locals := 88 } : Room) (va_Pc [.ref (o 0), .int (iI p), .int (iI k), .ref q9] (fun U => LQD G o ν σ π δ τ ω q9 xq U.heap ∧ KK G U ∧ KX FF0 U U.heap)) (va_Qi (fun r (_ : Unit) => r = iI 0) (fun _ tZ => LQD G o ν σ π δ τ ω q9 (FP.f2d (shB (σ (37 + (2 * p + k))) (lmS σ 21 p k))) tZ.heap) (fun z : Nat => Ax o 187 z ∨ z = q9)) 0 0 (fun z : Nat => Ax o 187 z ∨ z = q9) := by
  refine z_metH (P := fun H : Heap => LQD G o ν σ π δ τ ω q9 xq H) (by decide) rfl (Nat.le_of_ble_eq_true rfl) (fun pp ee ss mm below meth cC E hr hml hown hts hlocks htab hP hK hX ls hl => ?_)
  have hl : lv_has ls 5 [(0, .ref (o 0)), (1, .int (iI p)), (2, .int (iI k)), (3, .ref q9)] := hl
  obtain ⟨hM, hA⟩ := hP
  have hlp := (kxShare_ok hok).2
  have hpk : (0 ≤ p ∧ p ≤ 7) ∧ (0 ≤ k ∧ k ≤ 1) := by
    by_cases h : (0 ≤ p ∧ p ≤ 7) ∧ (0 ≤ k ∧ k ≤ 1)
    · exact h
    · exact absurd hok (by unfold kxShare; rw [if_neg h]; decide)
  have hac := hI.acc (k := 2 * p + k) (by omega) (by omega)
  have hlm := hI.lmb (t := 21) (Or.inr rfl) (p := p) (k := k) (by omega) (by omega)
  have hcs : 0 ≤ (({ frames := 8, cells := 0, slots := 0, locals := 88 } : Room)).cells ∧ 0 ≤ (({ frames := 8, cells := 0, slots := 0, locals := 88 } : Room)).slots := ⟨Nat.le_of_ble_eq_true rfl, Nat.le_of_ble_eq_true rfl⟩
  refine lv_aload_n (pc := 0) E.1 E.2 dL_share_0 rfl (lv_at hl 3 rfl) ?_
  refine z_iconst (pc := 1) E dL_share_1 ?_
  refine lv_aload_n (pc := 2) E.1 E.2 dL_share_2 rfl (lv_at hl 0 rfl) ?_
  refine lv_iload_n (pc := 3) E.1 E.2 dL_share_3 rfl (lv_at hl 1 rfl) ?_
  refine lv_iload_n (pc := 4) E.1 E.2 dL_share_4 rfl (lv_at hl 2 rfl) ?_
  have hS : va_S (fun z : Nat => Ax o 187 z ∨ z = q9) ss.heap ss.heap [] := va_S.rf
  refine z_rVf (pc := 5) (P := fun H : Heap => QT G o ν σ π δ τ ω H) (As := [.int (iI p), .int (iI k)]) (rest := [.int (iI 0), .ref q9]) E hml hown hts (mX7_share lL G o ν σ π δ τ ω p k hI hp hk hok) (cwV 2 hts gL_share_X7_share rfl rfl rfl vdX7_share ⟨Nat.le_of_ble_eq_true rfl, Nat.le_of_ble_eq_true rfl⟩) (hM.ob.recv hK rfl) hM hK rfl hl.1 rfl dL_share_5 hcs (Nat.le_of_ble_eq_true rfl) ?_
  have hM2 := hM
  refine lv_f2d (pc := 8) E.1 E.2 dL_share_8 (shD_n ⟨by omega, by omega⟩ ⟨by omega, by omega⟩) ?_
  refine z_dastore (pc := 9) E hK hA hS (Or.inr rfl) dL_share_9 (fun H locs hA hoth hS => ?_)
  refine lv_goto (pc := 10) (tgt := 21) E.1 E.2 dL_share_10 (by decide) ?_
  refine z_iconst (pc := 21) E dL_share_21 ?_
  exact z_retWi (pc := 22) (P1 := fun H : Heap => LQD G o ν σ π δ τ ω q9 (FP.f2d (shB (σ (37 + (2 * p + k))) (lmS σ 21 p k))) H) E hr rfl ⟨hM2.kp (fun k hk => hoth _ (hq9 k hk)), hA⟩ hS hlocks dL_share_22
set_option maxRecDepth 100000 in
theorem mbL_share (lL : Launch) (hst0 : lL.stackTraces = false) (G : GG) (o : Nat → Nat) (ν σ : Int → Int) (π : Nat → Int → Int) (δ τ ω : Int → Int) (p : Int) (k : Int) (hI : In σ) (hp : -2147483648 ≤ p ∧ p < 2147483648) (hk : -2147483648 ≤ k ∧ k < 2147483648) (hbad : ¬ ((kxShare σ p k) = 0)) (q9 : Nat) (xq : UInt64) : Met lL yL_share wsL_share ({ frames := 10, cells := 1, slots := 6, locals := 186 } : Room) (va_Pc [.ref (o 0), .int (iI p), .int (iI k), .ref q9] (fun U => LQD G o ν σ π δ τ ω q9 xq U.heap ∧ KK G U ∧ KX FF0 U U.heap)) (va_Qi (fun r (_ : Unit) => r = iI (kxShare σ p k)) (fun _ tZ => LQD G o ν σ π δ τ ω q9 xq tZ.heap) FF0) 1 6 FF0 := by
  refine z_metH (P := fun H : Heap => LQD G o ν σ π δ τ ω q9 xq H) (by decide) rfl (Nat.le_of_ble_eq_true rfl) (fun pp ee ss mm below meth cC E hr hml hown hts hlocks htab hP hK hX ls hl => ?_)
  have hl : lv_has ls 5 [(0, .ref (o 0)), (1, .int (iI p)), (2, .int (iI k)), (3, .ref q9)] := hl
  obtain ⟨hM, hA⟩ := hP
  refine lv_aload_n (pc := 0) E.1 E.2 dL_share_0 rfl (lv_at hl 3 rfl) ?_
  refine z_iconst (pc := 1) E dL_share_1 ?_
  refine lv_aload_n (pc := 2) E.1 E.2 dL_share_2 rfl (lv_at hl 0 rfl) ?_
  refine lv_iload_n (pc := 3) E.1 E.2 dL_share_3 rfl (lv_at hl 1 rfl) ?_
  refine lv_iload_n (pc := 4) E.1 E.2 dL_share_4 rfl (lv_at hl 2 rfl) ?_
  have hS : va_S FF0 ss.heap ss.heap [] := va_S.rf
  refine z_thrown (pc := 5) (a := ([.ref (o 0), .int (iI p), .int (iI k)] : List Value).toArray) (rest := [.int (iI 0), .ref q9]) (vx_runV (As := [.int (iI p), .int (iI k)]) ⟨E.1, E.2, hml, hown, hts⟩ (mxX7_share lL hst0 G o ν σ π δ τ ω p k hI hp hk hbad) (cwV 2 hts gL_share_X7_share rfl rfl rfl vdX7_share ⟨Nat.le_of_ble_eq_true rfl, Nat.le_of_ble_eq_true rfl⟩) (z_preVX (P := fun H : Heap => QT G o ν σ π δ τ ω H) (hM.ob.recv hK rfl) hM hK hX) rfl rfl hl.1 rfl (lv_room (Nat.le_of_ble_eq_true rfl)) dL_share_5 ⟨Nat.le_of_ble_eq_true rfl, Nat.le_of_ble_eq_true rfl⟩) (fun ce q8 H locs hoth hS hce hcv hcl => ?_)
  have hM2 := hM.kp (fun k hk => hoth _ (hM.lt k hk))
  have hA2 := hA.kp (hoth _ hA.lt)
  have hk9 : (kxShare σ p k) = 1 ∨ (kxShare σ p k) = 2 := (show (kxShare σ p k) = 0 ∨ (kxShare σ p k) = 1 ∨ (kxShare σ p k) = 2 by unfold kxShare; (try unfold kxPK); (repeat' split) <;> simp).resolve_left hbad
  rcases hk9 with hk | hk
  · rw [show exq xA xN xI (kxShare σ p k) = xA by rw [hk]; rfl] at hcl
    refine vx_catch (own := RL) (name := xA) (E := xA) hown [] ⟨0, 10, 13, 19⟩ [⟨0, 10, 17, 36⟩] (htab.trans rfl) (fun z hz => absurd hz List.not_mem_nil) (by decide) (by decide) (hts _ (List.mem_of_getElem? (i := 1) rfl)) (z_cast hX (by decide)) hce hcv hcl ?_
    refine lv_astore (pc := 13) (lv' := [(4, .ref q8), (0, .ref (o 0)), (1, .int (iI p)), (2, .int (iI k)), (3, .ref q9)]) E.1 E.2 dL_share_13 hl (by decide) rfl (fun ls hl => ?_)
    refine z_iconst (pc := 15) E dL_share_15 ?_
    exact z_retWi (pc := 16) (P1 := fun H : Heap => LQD G o ν σ π δ τ ω q9 xq H) E hr (by rw [hk]) ⟨hM2, hA2⟩ hS hlocks dL_share_16
  · rw [show exq xA xN xI (kxShare σ p k) = xN by rw [hk]; rfl] at hcl
    refine vx_catch (own := RL) (name := xN) (E := xN) hown [⟨0, 10, 13, 19⟩] ⟨0, 10, 17, 36⟩ [] (htab.trans rfl) (List.forall_mem_cons.mpr ⟨Or.inr ⟨by decide, xA, (hts _ (List.mem_of_getElem? (i := 1) rfl)), hX.2.2.2.2 xN (by decide) xA (by decide) (by decide)⟩, fun z hz => absurd hz List.not_mem_nil⟩) (by decide) (by decide) (hts _ (List.mem_of_getElem? (i := 2) rfl)) (z_cast hX (by decide)) hce hcv hcl ?_
    refine lv_astore (pc := 17) (lv' := [(4, .ref q8), (0, .ref (o 0)), (1, .int (iI p)), (2, .int (iI k)), (3, .ref q9)]) E.1 E.2 dL_share_17 hl (by decide) rfl (fun ls hl => ?_)
    refine z_iconst (pc := 19) E dL_share_19 ?_
    exact z_retWi (pc := 20) (P1 := fun H : Heap => LQD G o ν σ π δ τ ω q9 xq H) E hr (by rw [hk]) ⟨hM2, hA2⟩ hS hlocks dL_share_20
