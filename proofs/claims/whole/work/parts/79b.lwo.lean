set_option maxRecDepth 100000 in
theorem mL_append (lL : Launch) (G : GG) (o : Nat → Nat) (ν σ : Int → Int) (π : Nat → Int → Int) (δ τ ω : Int → Int) (a : Int) (b : Int) (c : Int) (d : Int) (e : Int) (hI : In σ) (ha : -2147483648 ≤ a ∧ a < 2147483648) (hb : -2147483648 ≤ b ∧ b < 2147483648) (hc : -2147483648 ≤ c ∧ c < 2147483648) (hd : -2147483648 ≤ d ∧ d < 2147483648) (he : -2147483648 ≤ e ∧ e < 2147483648) (hm : 0 ≤ ν 21 ∧ ν 21 ≤ 880) (q9 : Nat) (fq : Int → Int) (hq9 : ∀ k, k < 187 → o k ≠ q9) : Met lL yL_append wsL_append ({ frames := 8, cells := 0, slots := 0, locals := 67 } : Room) (va_Pc [.ref (o 0), .int (iI a), .int (iI b), .int (iI c), .int (iI d), .int (iI e), .ref q9] (fun U => LQ G o ν σ π δ τ ω q9 fq U.heap ∧ KK G U ∧ KX FF0 U U.heap)) (va_Qi (fun r (_ : Unit) => r = iI 0) (fun _ tZ => LQ G o (zu ν 21 (ν 21 + 20)) σ π δ (zu (zu (zu (zu (zu (zu (zu (zu (zu (zu (zu (zu (zu (zu (zu (zu (zu (zu (zu (zu τ (ν 21) (sg8 (a / 16777216))) ((ν 21) + 1) (sg8 (a / 65536))) ((ν 21) + 2) (sg8 (a / 256))) ((ν 21) + 3) (sg8 a)) (ν 21 + 4) (sg8 (b / 16777216))) ((ν 21 + 4) + 1) (sg8 (b / 65536))) ((ν 21 + 4) + 2) (sg8 (b / 256))) ((ν 21 + 4) + 3) (sg8 b)) (ν 21 + 8) (sg8 (c / 16777216))) ((ν 21 + 8) + 1) (sg8 (c / 65536))) ((ν 21 + 8) + 2) (sg8 (c / 256))) ((ν 21 + 8) + 3) (sg8 c)) (ν 21 + 12) (sg8 (d / 16777216))) ((ν 21 + 12) + 1) (sg8 (d / 65536))) ((ν 21 + 12) + 2) (sg8 (d / 256))) ((ν 21 + 12) + 3) (sg8 d)) (ν 21 + 16) (sg8 (e / 16777216))) ((ν 21 + 16) + 1) (sg8 (e / 65536))) ((ν 21 + 16) + 2) (sg8 (e / 256))) ((ν 21 + 16) + 3) (sg8 e)) ω q9 (zu fq 0 (rI ((ν 21 + 20)))) tZ.heap) (fun z : Nat => Ax o 187 z ∨ z = q9)) 0 0 (fun z : Nat => Ax o 187 z ∨ z = q9) := by
  refine z_metH (P := fun H : Heap => LQ G o ν σ π δ τ ω q9 fq H) (by decide) rfl (Nat.le_of_ble_eq_true rfl) (fun pp ee ss mm below meth cC E hr hml hown hts hlocks htab hP hK hX ls hl => ?_)
  have hl : lv_has ls 8 [(0, .ref (o 0)), (1, .int (iI a)), (2, .int (iI b)), (3, .int (iI c)), (4, .int (iI d)), (5, .int (iI e)), (6, .ref q9)] := hl
  obtain ⟨hM, hA⟩ := hP
  have hcs : 0 ≤ (({ frames := 8, cells := 0, slots := 0, locals := 67 } : Room)).cells ∧ 0 ≤ (({ frames := 8, cells := 0, slots := 0, locals := 67 } : Room)).slots := ⟨Nat.le_of_ble_eq_true rfl, Nat.le_of_ble_eq_true rfl⟩
  refine lv_aload (pc := 0) E.1 E.2 dL_append_0 (lv_at hl 6 rfl) ?_
  refine z_iconst (pc := 2) E dL_append_2 ?_
  refine lv_aload_n (pc := 3) E.1 E.2 dL_append_3 rfl (lv_at hl 0 rfl) ?_
  refine lv_iload_n (pc := 4) E.1 E.2 dL_append_4 rfl (lv_at hl 1 rfl) ?_
  refine lv_iload_n (pc := 5) E.1 E.2 dL_append_5 rfl (lv_at hl 2 rfl) ?_
  refine lv_iload_n (pc := 6) E.1 E.2 dL_append_6 rfl (lv_at hl 3 rfl) ?_
  refine lv_iload (pc := 7) E.1 E.2 dL_append_7 (lv_at hl 4 rfl) ?_
  refine lv_iload (pc := 9) E.1 E.2 dL_append_9 (lv_at hl 5 rfl) ?_
  have hS : va_S (fun z : Nat => Ax o 187 z ∨ z = q9) ss.heap ss.heap [] := va_S.rf
  refine z_wVi (pc := 11) (P := fun H : Heap => QT G o ν σ π δ τ ω H) (P1 := fun H : Heap => QT G o (zu ν 21 (ν 21 + 20)) σ π δ (zu (zu (zu (zu (zu (zu (zu (zu (zu (zu (zu (zu (zu (zu (zu (zu (zu (zu (zu (zu τ (ν 21) (sg8 (a / 16777216))) ((ν 21) + 1) (sg8 (a / 65536))) ((ν 21) + 2) (sg8 (a / 256))) ((ν 21) + 3) (sg8 a)) (ν 21 + 4) (sg8 (b / 16777216))) ((ν 21 + 4) + 1) (sg8 (b / 65536))) ((ν 21 + 4) + 2) (sg8 (b / 256))) ((ν 21 + 4) + 3) (sg8 b)) (ν 21 + 8) (sg8 (c / 16777216))) ((ν 21 + 8) + 1) (sg8 (c / 65536))) ((ν 21 + 8) + 2) (sg8 (c / 256))) ((ν 21 + 8) + 3) (sg8 c)) (ν 21 + 12) (sg8 (d / 16777216))) ((ν 21 + 12) + 1) (sg8 (d / 65536))) ((ν 21 + 12) + 2) (sg8 (d / 256))) ((ν 21 + 12) + 3) (sg8 d)) (ν 21 + 16) (sg8 (e / 16777216))) ((ν 21 + 16) + 1) (sg8 (e / 65536))) ((ν 21 + 16) + 2) (sg8 (e / 256))) ((ν 21 + 16) + 3) (sg8 e)) ω H) (As := [.int (iI a), .int (iI b), .int (iI c), .int (iI d), .int (iI e)]) (rest := [.int (iI 0), .ref q9]) E hml hown hts (mX7_append lL G o ν σ π δ τ ω a b c d e hI ha hb hc hd he hm) (cwV 5 hts gL_append_X7_append rfl rfl rfl vdX7_append ⟨Nat.le_of_ble_eq_true rfl, Nat.le_of_ble_eq_true rfl⟩) (hM.ob.recv hK rfl) hM hK hS (fun z h => Or.inl h) rfl hl.1 rfl dL_append_11 hcs (Nat.le_of_ble_eq_true rfl) (fun H locs hM2 hsz hoth hS => ?_)
  have hA := hA.kp (hoth _ hA.lt (fun h => Exists.elim h fun k hk => hq9 k hk.1 hk.2.symm))
  refine z_i2lR (pc := 14) E dL_append_14 ?_
  refine z_lastore (pc := 15) E hK hA hS (Or.inr rfl) (by decide) (by decide) dL_append_15 (fun H locs hA hoth hS => ?_)
  refine lv_goto (pc := 16) (tgt := 23) E.1 E.2 dL_append_16 (by decide) ?_
  refine z_iconst (pc := 23) E dL_append_23 ?_
  exact z_retWi (pc := 24) (P1 := fun H : Heap => LQ G o (zu ν 21 (ν 21 + 20)) σ π δ (zu (zu (zu (zu (zu (zu (zu (zu (zu (zu (zu (zu (zu (zu (zu (zu (zu (zu (zu (zu τ (ν 21) (sg8 (a / 16777216))) ((ν 21) + 1) (sg8 (a / 65536))) ((ν 21) + 2) (sg8 (a / 256))) ((ν 21) + 3) (sg8 a)) (ν 21 + 4) (sg8 (b / 16777216))) ((ν 21 + 4) + 1) (sg8 (b / 65536))) ((ν 21 + 4) + 2) (sg8 (b / 256))) ((ν 21 + 4) + 3) (sg8 b)) (ν 21 + 8) (sg8 (c / 16777216))) ((ν 21 + 8) + 1) (sg8 (c / 65536))) ((ν 21 + 8) + 2) (sg8 (c / 256))) ((ν 21 + 8) + 3) (sg8 c)) (ν 21 + 12) (sg8 (d / 16777216))) ((ν 21 + 12) + 1) (sg8 (d / 65536))) ((ν 21 + 12) + 2) (sg8 (d / 256))) ((ν 21 + 12) + 3) (sg8 d)) (ν 21 + 16) (sg8 (e / 16777216))) ((ν 21 + 16) + 1) (sg8 (e / 65536))) ((ν 21 + 16) + 2) (sg8 (e / 256))) ((ν 21 + 16) + 3) (sg8 e)) ω q9 (zu fq 0 (rI ((ν 21 + 20)))) H) E hr rfl ⟨hM2.kp (fun k hk => hoth _ (hq9 k hk)), hA⟩ hS hlocks dL_append_24
set_option maxRecDepth 100000 in
theorem mL_load (lL : Launch) (G : GG) (o : Nat → Nat) (ν σ : Int → Int) (π : Nat → Int → Int) (δ β ω : Int → Int) (n : Int) (hI : In σ) (hn : -2147483648 ≤ n ∧ n < 2147483648) (hb : TX β) (h21 : 0 ≤ ν 21 ∧ ν 21 ≤ 900) (hc : 0 ≤ ν 2 ∧ ν 2 ≤ 1000000) (hu : 0 ≤ ν 3 ∧ ν 3 ≤ 8) (hok : 0 ≤ n ∧ n ≤ ν 21) (q9 : Nat) (fq : Int → Int) (hq9 : ∀ k, k < 187 → o k ≠ q9) : Met lL yL_load wsL_load ({ frames := 8, cells := 0, slots := 0, locals := 174 } : Room) (va_Pc [.ref (o 0), .int (iI n), .ref q9] (fun U => LQ G o ν σ π δ (fun j => sg8 (β j)) ω q9 fq U.heap ∧ KK G U ∧ KX FF0 U U.heap)) (va_Qi (fun r (_ : Unit) => r = iI 0) (fun _ tZ => (∃ (ν1 δ1 : Int → Int), QT G o ν1 (if ldX β n = 0 then nxLoad σ (ldF β n) else σ) (if ldX β n = 0 then pU π (ν 2 % 8) σ else π) δ1 (fun j => sg8 (β j)) ω tZ.heap ∧ (ν1 2 = if ldX β n = 0 then ν 2 + 1 else ν 2) ∧ (ν1 3 = if ldX β n = 0 then min (ν 3 + 1) 8 else ν 3) ∧ ν1 21 = 0 ∧ ν1 31 = ν 31 ∧ (ν1 42 = if ldX β n = 0 then -1 else ldP β n)) ∧ aL G q9 1 (zu fq 0 (rI ((if ldX β n = 0 then ldF β n 3 else ldX β n)))) tZ.heap) (fun z : Nat => Ax o 187 z ∨ z = q9)) 0 0 (fun z : Nat => Ax o 187 z ∨ z = q9) := by
  refine z_metH (P := fun H : Heap => LQ G o ν σ π δ (fun j => sg8 (β j)) ω q9 fq H) (by decide) rfl (Nat.le_of_ble_eq_true rfl) (fun pp ee ss mm below meth cC E hr hml hown hts hlocks htab hP hK hX ls hl => ?_)
  have hl : lv_has ls 4 [(0, .ref (o 0)), (1, .int (iI n)), (2, .ref q9)] := hl
  obtain ⟨hM, hA⟩ := hP
  have hcs : 0 ≤ (({ frames := 8, cells := 0, slots := 0, locals := 174 } : Room)).cells ∧ 0 ≤ (({ frames := 8, cells := 0, slots := 0, locals := 174 } : Room)).slots := ⟨Nat.le_of_ble_eq_true rfl, Nat.le_of_ble_eq_true rfl⟩
  refine lv_aload_n (pc := 0) E.1 E.2 dL_load_0 rfl (lv_at hl 2 rfl) ?_
  refine z_iconst (pc := 1) E dL_load_1 ?_
  refine lv_aload_n (pc := 2) E.1 E.2 dL_load_2 rfl (lv_at hl 0 rfl) ?_
  refine lv_iload_n (pc := 3) E.1 E.2 dL_load_3 rfl (lv_at hl 1 rfl) ?_
  have hS : va_S (fun z : Nat => Ax o 187 z ∨ z = q9) ss.heap ss.heap [] := va_S.rf
  refine z_wVi (pc := 4) (P := fun H : Heap => QT G o ν σ π δ (fun j => sg8 (β j)) ω H) (P1 := fun H : Heap => ∃ (ν1 δ1 : Int → Int), QT G o ν1 (if ldX β n = 0 then nxLoad σ (ldF β n) else σ) (if ldX β n = 0 then pU π (ν 2 % 8) σ else π) δ1 (fun j => sg8 (β j)) ω H ∧ (ν1 2 = if ldX β n = 0 then ν 2 + 1 else ν 2) ∧ (ν1 3 = if ldX β n = 0 then min (ν 3 + 1) 8 else ν 3) ∧ ν1 21 = 0 ∧ ν1 31 = ν 31 ∧ (ν1 42 = if ldX β n = 0 then -1 else ldP β n)) (As := [.int (iI n)]) (rest := [.int (iI 0), .ref q9]) E hml hown hts (mX7_load lL G o ν σ π δ β ω n hI hn hb h21 hc hu hok) (cwV 1 hts gL_load_X7_load rfl rfl rfl vdX7_load ⟨Nat.le_of_ble_eq_true rfl, Nat.le_of_ble_eq_true rfl⟩) (hM.ob.recv hK rfl) hM hK hS (fun z h => Or.inl h) rfl hl.1 rfl dL_load_4 hcs (Nat.le_of_ble_eq_true rfl) (fun H locs hM2 hsz hoth hS => ?_)
  have hA := hA.kp (hoth _ hA.lt (fun h => Exists.elim h fun k hk => hq9 k hk.1 hk.2.symm))
  refine z_i2lR (pc := 7) E dL_load_7 ?_
  refine z_lastore (pc := 8) E hK hA hS (Or.inr rfl) (by decide) (by decide) dL_load_8 (fun H locs hA hoth hS => ?_)
  refine lv_goto (pc := 9) (tgt := 15) E.1 E.2 dL_load_9 (by decide) ?_
  refine z_iconst (pc := 15) E dL_load_15 ?_
  exact z_retWi (pc := 16) (P1 := fun H : Heap => (∃ (ν1 δ1 : Int → Int), QT G o ν1 (if ldX β n = 0 then nxLoad σ (ldF β n) else σ) (if ldX β n = 0 then pU π (ν 2 % 8) σ else π) δ1 (fun j => sg8 (β j)) ω H ∧ (ν1 2 = if ldX β n = 0 then ν 2 + 1 else ν 2) ∧ (ν1 3 = if ldX β n = 0 then min (ν 3 + 1) 8 else ν 3) ∧ ν1 21 = 0 ∧ ν1 31 = ν 31 ∧ (ν1 42 = if ldX β n = 0 then -1 else ldP β n)) ∧ aL G q9 1 (zu fq 0 (rI ((if ldX β n = 0 then ldF β n 3 else ldX β n)))) H) E hr rfl ⟨(hM2.elim fun ν1 h => h.elim fun δ1 h => ⟨ν1, δ1, h.1.kp (fun k hk => hoth _ (hq9 k hk)), h.2⟩), hA⟩ hS hlocks dL_load_16
set_option maxRecDepth 100000 in
theorem mL_count (lL : Launch) (G : GG) (o : Nat → Nat) (ν σ : Int → Int) (π : Nat → Int → Int) (δ τ ω : Int → Int) (w : Int) (hI : In σ) (hw : -2147483648 ≤ w ∧ w < 2147483648) (hok : (kxCount w) = 0) (q9 : Nat) (fq : Int → Int) (hq9 : ∀ k, k < 187 → o k ≠ q9) : Met lL yL_count wsL_count ({ frames := 8, cells := 0, slots := 0, locals := 131 } : Room) (va_Pc [.ref (o 0), .int (iI w), .ref q9] (fun U => LQ G o ν σ π δ τ ω q9 fq U.heap ∧ KK G U ∧ KX FF0 U U.heap)) (va_Qi (fun r (_ : Unit) => r = iI 0) (fun _ tZ => LQ G o ν σ π δ τ ω q9 (zu fq 0 (rI ((axCount σ w)))) tZ.heap) (fun z : Nat => Ax o 187 z ∨ z = q9)) 0 0 (fun z : Nat => Ax o 187 z ∨ z = q9) := by
  refine z_metH (P := fun H : Heap => LQ G o ν σ π δ τ ω q9 fq H) (by decide) rfl (Nat.le_of_ble_eq_true rfl) (fun pp ee ss mm below meth cC E hr hml hown hts hlocks htab hP hK hX ls hl => ?_)
  have hl : lv_has ls 4 [(0, .ref (o 0)), (1, .int (iI w)), (2, .ref q9)] := hl
  obtain ⟨hM, hA⟩ := hP
  have hcs : 0 ≤ (({ frames := 8, cells := 0, slots := 0, locals := 131 } : Room)).cells ∧ 0 ≤ (({ frames := 8, cells := 0, slots := 0, locals := 131 } : Room)).slots := ⟨Nat.le_of_ble_eq_true rfl, Nat.le_of_ble_eq_true rfl⟩
  refine lv_aload_n (pc := 0) E.1 E.2 dL_count_0 rfl (lv_at hl 2 rfl) ?_
  refine z_iconst (pc := 1) E dL_count_1 ?_
  refine lv_aload_n (pc := 2) E.1 E.2 dL_count_2 rfl (lv_at hl 0 rfl) ?_
  refine lv_iload_n (pc := 3) E.1 E.2 dL_count_3 rfl (lv_at hl 1 rfl) ?_
  have hS : va_S (fun z : Nat => Ax o 187 z ∨ z = q9) ss.heap ss.heap [] := va_S.rf
  refine z_rVi (pc := 4) (P := fun H : Heap => QT G o ν σ π δ τ ω H) (As := [.int (iI w)]) (rest := [.int (iI 0), .ref q9]) E hml hown hts (mX7_count lL G o ν σ π δ τ ω w hI hw hok) (cwV 1 hts gL_count_X7_count rfl rfl rfl vdX7_count ⟨Nat.le_of_ble_eq_true rfl, Nat.le_of_ble_eq_true rfl⟩) (hM.ob.recv hK rfl) hM hK rfl hl.1 rfl dL_count_4 hcs (Nat.le_of_ble_eq_true rfl) ?_
  have hM2 := hM
  refine z_i2lR (pc := 7) E dL_count_7 ?_
  refine z_lastore (pc := 8) E hK hA hS (Or.inr rfl) (by decide) (by decide) dL_count_8 (fun H locs hA hoth hS => ?_)
  refine lv_goto (pc := 9) (tgt := 15) E.1 E.2 dL_count_9 (by decide) ?_
  refine z_iconst (pc := 15) E dL_count_15 ?_
  exact z_retWi (pc := 16) (P1 := fun H : Heap => LQ G o ν σ π δ τ ω q9 (zu fq 0 (rI ((axCount σ w)))) H) E hr rfl ⟨hM2.kp (fun k hk => hoth _ (hq9 k hk)), hA⟩ hS hlocks dL_count_16
set_option maxRecDepth 100000 in
theorem mL_folder (lL : Launch) (G : GG) (o : Nat → Nat) (ν σ : Int → Int) (π : Nat → Int → Int) (δ τ ω : Int → Int) (f : Int) (w : Int) (hI : In σ) (hf : -2147483648 ≤ f ∧ f < 2147483648) (hw : -2147483648 ≤ w ∧ w < 2147483648) (hok : (kxFolder σ f w) = 0) (q9 : Nat) (fq : Int → Int) (hq9 : ∀ k, k < 187 → o k ≠ q9) : Met lL yL_folder wsL_folder ({ frames := 8, cells := 0, slots := 0, locals := 112 } : Room) (va_Pc [.ref (o 0), .int (iI f), .int (iI w), .ref q9] (fun U => LQ G o ν σ π δ τ ω q9 fq U.heap ∧ KK G U ∧ KX FF0 U U.heap)) (va_Qi (fun r (_ : Unit) => r = iI 0) (fun _ tZ => LQ G o ν σ π δ τ ω q9 (zu fq 0 (rI ((axFolder σ f w)))) tZ.heap) (fun z : Nat => Ax o 187 z ∨ z = q9)) 0 0 (fun z : Nat => Ax o 187 z ∨ z = q9) := by
  refine z_metH (P := fun H : Heap => LQ G o ν σ π δ τ ω q9 fq H) (by decide) rfl (Nat.le_of_ble_eq_true rfl) (fun pp ee ss mm below meth cC E hr hml hown hts hlocks htab hP hK hX ls hl => ?_)
  have hl : lv_has ls 5 [(0, .ref (o 0)), (1, .int (iI f)), (2, .int (iI w)), (3, .ref q9)] := hl
  obtain ⟨hM, hA⟩ := hP
  have hcs : 0 ≤ (({ frames := 8, cells := 0, slots := 0, locals := 112 } : Room)).cells ∧ 0 ≤ (({ frames := 8, cells := 0, slots := 0, locals := 112 } : Room)).slots := ⟨Nat.le_of_ble_eq_true rfl, Nat.le_of_ble_eq_true rfl⟩
  refine lv_aload_n (pc := 0) E.1 E.2 dL_folder_0 rfl (lv_at hl 3 rfl) ?_
  refine z_iconst (pc := 1) E dL_folder_1 ?_
  refine lv_aload_n (pc := 2) E.1 E.2 dL_folder_2 rfl (lv_at hl 0 rfl) ?_
  refine lv_iload_n (pc := 3) E.1 E.2 dL_folder_3 rfl (lv_at hl 1 rfl) ?_
  refine lv_iload_n (pc := 4) E.1 E.2 dL_folder_4 rfl (lv_at hl 2 rfl) ?_
  have hS : va_S (fun z : Nat => Ax o 187 z ∨ z = q9) ss.heap ss.heap [] := va_S.rf
  refine z_rVi (pc := 5) (P := fun H : Heap => QT G o ν σ π δ τ ω H) (As := [.int (iI f), .int (iI w)]) (rest := [.int (iI 0), .ref q9]) E hml hown hts (mX7_folder lL G o ν σ π δ τ ω f w hI hf hw hok) (cwV 2 hts gL_folder_X7_folder rfl rfl rfl vdX7_folder ⟨Nat.le_of_ble_eq_true rfl, Nat.le_of_ble_eq_true rfl⟩) (hM.ob.recv hK rfl) hM hK rfl hl.1 rfl dL_folder_5 hcs (Nat.le_of_ble_eq_true rfl) ?_
  have hM2 := hM
  refine z_i2lR (pc := 8) E dL_folder_8 ?_
  refine z_lastore (pc := 9) E hK hA hS (Or.inr rfl) (by decide) (by decide) dL_folder_9 (fun H locs hA hoth hS => ?_)
  refine lv_goto (pc := 10) (tgt := 21) E.1 E.2 dL_folder_10 (by decide) ?_
  refine z_iconst (pc := 21) E dL_folder_21 ?_
  exact z_retWi (pc := 22) (P1 := fun H : Heap => LQ G o ν σ π δ τ ω q9 (zu fq 0 (rI ((axFolder σ f w)))) H) E hr rfl ⟨hM2.kp (fun k hk => hoth _ (hq9 k hk)), hA⟩ hS hlocks dL_folder_22
set_option maxRecDepth 100000 in
theorem mL_walked (lL : Launch) (G : GG) (o : Nat → Nat) (ν σ : Int → Int) (π : Nat → Int → Int) (δ τ ω : Int → Int) (i : Int) (hI : In σ) (hi : -2147483648 ≤ i ∧ i < 2147483648) (hok : (kxFo σ i) = 0) (q9 : Nat) (fq : Int → Int) (hq9 : ∀ k, k < 187 → o k ≠ q9) : Met lL yL_walked wsL_walked ({ frames := 8, cells := 0, slots := 0, locals := 112 } : Room) (va_Pc [.ref (o 0), .int (iI i), .ref q9] (fun U => LQ G o ν σ π δ τ ω q9 fq U.heap ∧ KK G U ∧ KX FF0 U U.heap)) (va_Qi (fun r (_ : Unit) => r = iI 0) (fun _ tZ => LQ G o ν σ π δ τ ω q9 (zu fq 0 (rI ((wk σ i.toNat)))) tZ.heap) (fun z : Nat => Ax o 187 z ∨ z = q9)) 0 0 (fun z : Nat => Ax o 187 z ∨ z = q9) := by
  refine z_metH (P := fun H : Heap => LQ G o ν σ π δ τ ω q9 fq H) (by decide) rfl (Nat.le_of_ble_eq_true rfl) (fun pp ee ss mm below meth cC E hr hml hown hts hlocks htab hP hK hX ls hl => ?_)
  have hl : lv_has ls 4 [(0, .ref (o 0)), (1, .int (iI i)), (2, .ref q9)] := hl
  obtain ⟨hM, hA⟩ := hP
  have hcs : 0 ≤ (({ frames := 8, cells := 0, slots := 0, locals := 112 } : Room)).cells ∧ 0 ≤ (({ frames := 8, cells := 0, slots := 0, locals := 112 } : Room)).slots := ⟨Nat.le_of_ble_eq_true rfl, Nat.le_of_ble_eq_true rfl⟩
  refine lv_aload_n (pc := 0) E.1 E.2 dL_walked_0 rfl (lv_at hl 2 rfl) ?_
  refine z_iconst (pc := 1) E dL_walked_1 ?_
  refine lv_aload_n (pc := 2) E.1 E.2 dL_walked_2 rfl (lv_at hl 0 rfl) ?_
  refine lv_iload_n (pc := 3) E.1 E.2 dL_walked_3 rfl (lv_at hl 1 rfl) ?_
  have hS : va_S (fun z : Nat => Ax o 187 z ∨ z = q9) ss.heap ss.heap [] := va_S.rf
  refine z_rVi (pc := 4) (P := fun H : Heap => QT G o ν σ π δ τ ω H) (As := [.int (iI i)]) (rest := [.int (iI 0), .ref q9]) E hml hown hts (mX7_walked lL G o ν σ π δ τ ω i hI hi hok) (cwV 1 hts gL_walked_X7_walked rfl rfl rfl vdX7_walked ⟨Nat.le_of_ble_eq_true rfl, Nat.le_of_ble_eq_true rfl⟩) (hM.ob.recv hK rfl) hM hK rfl hl.1 rfl dL_walked_4 hcs (Nat.le_of_ble_eq_true rfl) ?_
  have hM2 := hM
  refine z_i2lR (pc := 7) E dL_walked_7 ?_
  refine z_lastore (pc := 8) E hK hA hS (Or.inr rfl) (by decide) (by decide) dL_walked_8 (fun H locs hA hoth hS => ?_)
  refine lv_goto (pc := 9) (tgt := 15) E.1 E.2 dL_walked_9 (by decide) ?_
  refine z_iconst (pc := 15) E dL_walked_15 ?_
  exact z_retWi (pc := 16) (P1 := fun H : Heap => LQ G o ν σ π δ τ ω q9 (zu fq 0 (rI ((wk σ i.toNat)))) H) E hr rfl ⟨hM2.kp (fun k hk => hoth _ (hq9 k hk)), hA⟩ hS hlocks dL_walked_16
set_option maxRecDepth 100000 in
theorem mL_heaviest (lL : Launch) (G : GG) (o : Nat → Nat) (ν σ : Int → Int) (π : Nat → Int → Int) (δ τ ω : Int → Int) (f : Int) (hI : In σ) (hf : -2147483648 ≤ f ∧ f < 2147483648) (hok : (kxHeav σ f) = 0) (q9 : Nat) (fq : Int → Int) (hq9 : ∀ k, k < 187 → o k ≠ q9) : Met lL yL_heaviest wsL_heaviest ({ frames := 8, cells := 0, slots := 0, locals := 137 } : Room) (va_Pc [.ref (o 0), .int (iI f), .ref q9] (fun U => LQ G o ν σ π δ τ ω q9 fq U.heap ∧ KK G U ∧ KX FF0 U U.heap)) (va_Qi (fun r (_ : Unit) => r = iI 0) (fun _ tZ => LQ G o ν σ π δ τ ω q9 (zu fq 0 (rI ((hvS σ f)))) tZ.heap) (fun z : Nat => Ax o 187 z ∨ z = q9)) 0 0 (fun z : Nat => Ax o 187 z ∨ z = q9) := by
  refine z_metH (P := fun H : Heap => LQ G o ν σ π δ τ ω q9 fq H) (by decide) rfl (Nat.le_of_ble_eq_true rfl) (fun pp ee ss mm below meth cC E hr hml hown hts hlocks htab hP hK hX ls hl => ?_)
  have hl : lv_has ls 4 [(0, .ref (o 0)), (1, .int (iI f)), (2, .ref q9)] := hl
  obtain ⟨hM, hA⟩ := hP
  have hcs : 0 ≤ (({ frames := 8, cells := 0, slots := 0, locals := 137 } : Room)).cells ∧ 0 ≤ (({ frames := 8, cells := 0, slots := 0, locals := 137 } : Room)).slots := ⟨Nat.le_of_ble_eq_true rfl, Nat.le_of_ble_eq_true rfl⟩
  refine lv_aload_n (pc := 0) E.1 E.2 dL_heaviest_0 rfl (lv_at hl 2 rfl) ?_
  refine z_iconst (pc := 1) E dL_heaviest_1 ?_
  refine lv_aload_n (pc := 2) E.1 E.2 dL_heaviest_2 rfl (lv_at hl 0 rfl) ?_
  refine lv_iload_n (pc := 3) E.1 E.2 dL_heaviest_3 rfl (lv_at hl 1 rfl) ?_
  have hS : va_S (fun z : Nat => Ax o 187 z ∨ z = q9) ss.heap ss.heap [] := va_S.rf
  refine z_rVi (pc := 4) (P := fun H : Heap => QT G o ν σ π δ τ ω H) (As := [.int (iI f)]) (rest := [.int (iI 0), .ref q9]) E hml hown hts (mX7_heaviest lL G o ν σ π δ τ ω f hI hf hok) (cwV 1 hts gL_heaviest_X7_heaviest rfl rfl rfl vdX7_heaviest ⟨Nat.le_of_ble_eq_true rfl, Nat.le_of_ble_eq_true rfl⟩) (hM.ob.recv hK rfl) hM hK rfl hl.1 rfl dL_heaviest_4 hcs (Nat.le_of_ble_eq_true rfl) ?_
  have hM2 := hM
  refine z_i2lR (pc := 7) E dL_heaviest_7 ?_
  refine z_lastore (pc := 8) E hK hA hS (Or.inr rfl) (by decide) (by decide) dL_heaviest_8 (fun H locs hA hoth hS => ?_)
  refine lv_goto (pc := 9) (tgt := 18) E.1 E.2 dL_heaviest_9 (by decide) ?_
  refine z_iconst (pc := 18) E dL_heaviest_18 ?_
  exact z_retWi (pc := 19) (P1 := fun H : Heap => LQ G o ν σ π δ τ ω q9 (zu fq 0 (rI ((hvS σ f)))) H) E hr rfl ⟨hM2.kp (fun k hk => hoth _ (hq9 k hk)), hA⟩ hS hlocks dL_heaviest_19
set_option maxRecDepth 100000 in
theorem mL_addFolder (lL : Launch) (G : GG) (o : Nat → Nat) (ν σ : Int → Int) (π : Nat → Int → Int) (δ τ ω : Int → Int) (p : Int) (x : Int) (hI : In σ) (hp : -2147483648 ≤ p ∧ p < 2147483648) (hx : -9223372036854775808 ≤ x ∧ x < 9223372036854775808) (hok : (kxAddF σ p x) = 0) (hc : 0 ≤ ν 2 ∧ ν 2 ≤ 1000000) (hu : 0 ≤ ν 3 ∧ ν 3 ≤ 8) (q9 : Nat) (fq : Int → Int) (hq9 : ∀ k, k < 187 → o k ≠ q9) : Met lL yL_addFolder wsL_addFolder ({ frames := 8, cells := 0, slots := 0, locals := 176 } : Room) (va_Pc [.ref (o 0), .int (iI p), .long (iL x), .ref q9] (fun U => LQ G o ν σ π δ τ ω q9 fq U.heap ∧ KK G U ∧ KX FF0 U U.heap)) (va_Qi (fun r (_ : Unit) => r = iI 0) (fun _ tZ => LQ G o (zu (zu ν 2 (ν 2 + 1)) 3 (min (ν 3 + 1) 8)) (nxAddF σ p x) (pU π (ν 2 % 8) σ) δ τ ω q9 (zu fq 0 (rI ((σ 2)))) tZ.heap) (fun z : Nat => Ax o 187 z ∨ z = q9)) 0 0 (fun z : Nat => Ax o 187 z ∨ z = q9) := by
  refine z_metH (P := fun H : Heap => LQ G o ν σ π δ τ ω q9 fq H) (by decide) rfl (Nat.le_of_ble_eq_true rfl) (fun pp ee ss mm below meth cC E hr hml hown hts hlocks htab hP hK hX ls hl => ?_)
  have hl : lv_has ls 6 [(0, .ref (o 0)), (1, .int (iI p)), (2, .long (iL x)), (4, .ref q9)] := hl
  obtain ⟨hM, hA⟩ := hP
  have hcs : 0 ≤ (({ frames := 8, cells := 0, slots := 0, locals := 176 } : Room)).cells ∧ 0 ≤ (({ frames := 8, cells := 0, slots := 0, locals := 176 } : Room)).slots := ⟨Nat.le_of_ble_eq_true rfl, Nat.le_of_ble_eq_true rfl⟩
  refine lv_aload (pc := 0) E.1 E.2 dL_addFolder_0 (lv_at hl 3 rfl) ?_
  refine z_iconst (pc := 2) E dL_addFolder_2 ?_
  refine lv_aload_n (pc := 3) E.1 E.2 dL_addFolder_3 rfl (lv_at hl 0 rfl) ?_
  refine lv_iload_n (pc := 4) E.1 E.2 dL_addFolder_4 rfl (lv_at hl 1 rfl) ?_
  refine lv_lload_n (pc := 5) E.1 E.2 dL_addFolder_5 rfl (lv_at hl 2 rfl) ?_
  have hS : va_S (fun z : Nat => Ax o 187 z ∨ z = q9) ss.heap ss.heap [] := va_S.rf
  refine z_wVi (pc := 6) (P := fun H : Heap => QT G o ν σ π δ τ ω H) (P1 := fun H : Heap => QT G o (zu (zu ν 2 (ν 2 + 1)) 3 (min (ν 3 + 1) 8)) (nxAddF σ p x) (pU π (ν 2 % 8) σ) δ τ ω H) (As := [.int (iI p), .long (iL x)]) (rest := [.int (iI 0), .ref q9]) E hml hown hts (mX7_addFolder lL G o ν σ π δ τ ω p x hI hp hx hok hc hu) (cwV 2 hts gL_addFolder_X7_addFolder rfl rfl rfl vdX7_addFolder ⟨Nat.le_of_ble_eq_true rfl, Nat.le_of_ble_eq_true rfl⟩) (hM.ob.recv hK rfl) hM hK hS (fun z h => Or.inl h) rfl hl.1 rfl dL_addFolder_6 hcs (Nat.le_of_ble_eq_true rfl) (fun H locs hM2 hsz hoth hS => ?_)
  have hA := hA.kp (hoth _ hA.lt (fun h => Exists.elim h fun k hk => hq9 k hk.1 hk.2.symm))
  refine z_i2lR (pc := 9) E dL_addFolder_9 ?_
  refine z_lastore (pc := 10) E hK hA hS (Or.inr rfl) (by decide) (by decide) dL_addFolder_10 (fun H locs hA hoth hS => ?_)
  refine lv_goto (pc := 11) (tgt := 26) E.1 E.2 dL_addFolder_11 (by decide) ?_
  refine z_iconst (pc := 26) E dL_addFolder_26 ?_
  exact z_retWi (pc := 27) (P1 := fun H : Heap => LQ G o (zu (zu ν 2 (ν 2 + 1)) 3 (min (ν 3 + 1) 8)) (nxAddF σ p x) (pU π (ν 2 % 8) σ) δ τ ω q9 (zu fq 0 (rI ((σ 2)))) H) E hr rfl ⟨hM2.kp (fun k hk => hoth _ (hq9 k hk)), hA⟩ hS hlocks dL_addFolder_27
set_option maxRecDepth 100000 in
theorem mL_removeFolder (lL : Launch) (G : GG) (o : Nat → Nat) (ν σ : Int → Int) (π : Nat → Int → Int) (δ τ ω : Int → Int) (f : Int) (hI : In σ) (hf : -2147483648 ≤ f ∧ f < 2147483648) (hok : (kxRemF σ f) = 0) (hc : 0 ≤ ν 2 ∧ ν 2 ≤ 1000000) (hu : 0 ≤ ν 3 ∧ ν 3 ≤ 8) (q9 : Nat) (fq : Int → Int) (hq9 : ∀ k, k < 187 → o k ≠ q9) : Met lL yL_removeFolder wsL_removeFolder ({ frames := 8, cells := 0, slots := 0, locals := 174 } : Room) (va_Pc [.ref (o 0), .int (iI f), .ref q9] (fun U => LQ G o ν σ π δ τ ω q9 fq U.heap ∧ KK G U ∧ KX FF0 U U.heap)) (va_Qi (fun r (_ : Unit) => r = iI 0) (fun _ tZ => LQ G o (zu (zu ν 2 (ν 2 + 1)) 3 (min (ν 3 + 1) 8)) (nxRemF σ f) (pU π (ν 2 % 8) σ) δ τ ω q9 (zu fq 0 (rI ((σ 2 - 1)))) tZ.heap) (fun z : Nat => Ax o 187 z ∨ z = q9)) 0 0 (fun z : Nat => Ax o 187 z ∨ z = q9) := by
  refine z_metH (P := fun H : Heap => LQ G o ν σ π δ τ ω q9 fq H) (by decide) rfl (Nat.le_of_ble_eq_true rfl) (fun pp ee ss mm below meth cC E hr hml hown hts hlocks htab hP hK hX ls hl => ?_)
  have hl : lv_has ls 4 [(0, .ref (o 0)), (1, .int (iI f)), (2, .ref q9)] := hl
  obtain ⟨hM, hA⟩ := hP
  have hcs : 0 ≤ (({ frames := 8, cells := 0, slots := 0, locals := 174 } : Room)).cells ∧ 0 ≤ (({ frames := 8, cells := 0, slots := 0, locals := 174 } : Room)).slots := ⟨Nat.le_of_ble_eq_true rfl, Nat.le_of_ble_eq_true rfl⟩
  refine lv_aload_n (pc := 0) E.1 E.2 dL_removeFolder_0 rfl (lv_at hl 2 rfl) ?_
  refine z_iconst (pc := 1) E dL_removeFolder_1 ?_
  refine lv_aload_n (pc := 2) E.1 E.2 dL_removeFolder_2 rfl (lv_at hl 0 rfl) ?_
  refine lv_iload_n (pc := 3) E.1 E.2 dL_removeFolder_3 rfl (lv_at hl 1 rfl) ?_
  have hS : va_S (fun z : Nat => Ax o 187 z ∨ z = q9) ss.heap ss.heap [] := va_S.rf
  refine z_wVi (pc := 4) (P := fun H : Heap => QT G o ν σ π δ τ ω H) (P1 := fun H : Heap => QT G o (zu (zu ν 2 (ν 2 + 1)) 3 (min (ν 3 + 1) 8)) (nxRemF σ f) (pU π (ν 2 % 8) σ) δ τ ω H) (As := [.int (iI f)]) (rest := [.int (iI 0), .ref q9]) E hml hown hts (mX7_removeFolder lL G o ν σ π δ τ ω f hI hf hok hc hu) (cwV 1 hts gL_removeFolder_X7_removeFolder rfl rfl rfl vdX7_removeFolder ⟨Nat.le_of_ble_eq_true rfl, Nat.le_of_ble_eq_true rfl⟩) (hM.ob.recv hK rfl) hM hK hS (fun z h => Or.inl h) rfl hl.1 rfl dL_removeFolder_4 hcs (Nat.le_of_ble_eq_true rfl) (fun H locs hM2 hsz hoth hS => ?_)
  have hA := hA.kp (hoth _ hA.lt (fun h => Exists.elim h fun k hk => hq9 k hk.1 hk.2.symm))
  refine z_i2lR (pc := 7) E dL_removeFolder_7 ?_
  refine z_lastore (pc := 8) E hK hA hS (Or.inr rfl) (by decide) (by decide) dL_removeFolder_8 (fun H locs hA hoth hS => ?_)
  refine lv_goto (pc := 9) (tgt := 18) E.1 E.2 dL_removeFolder_9 (by decide) ?_
  refine z_iconst (pc := 18) E dL_removeFolder_18 ?_
  exact z_retWi (pc := 19) (P1 := fun H : Heap => LQ G o (zu (zu ν 2 (ν 2 + 1)) 3 (min (ν 3 + 1) 8)) (nxRemF σ f) (pU π (ν 2 % 8) σ) δ τ ω q9 (zu fq 0 (rI ((σ 2 - 1)))) H) E hr rfl ⟨hM2.kp (fun k hk => hoth _ (hq9 k hk)), hA⟩ hS hlocks dL_removeFolder_19
set_option maxRecDepth 100000 in
theorem mL_tagReason (lL : Launch) (G : GG) (o : Nat → Nat) (ν σ : Int → Int) (π : Nat → Int → Int) (δ τ ω : Int → Int) (f : Int) (t : Int) (hI : In σ) (hf : -2147483648 ≤ f ∧ f < 2147483648) (ht : -2147483648 ≤ t ∧ t < 2147483648) (hok : (kxTagR σ f t) = 0) (q9 : Nat) (fq : Int → Int) (hq9 : ∀ k, k < 187 → o k ≠ q9) : Met lL yL_tagReason wsL_tagReason ({ frames := 8, cells := 0, slots := 0, locals := 157 } : Room) (va_Pc [.ref (o 0), .int (iI f), .int (iI t), .ref q9] (fun U => LQ G o ν σ π δ τ ω q9 fq U.heap ∧ KK G U ∧ KX FF0 U U.heap)) (va_Qi (fun r (_ : Unit) => r = iI 0) (fun _ tZ => LQ G o ν σ π δ τ ω q9 (zu fq 0 (rI ((rtS σ f t)))) tZ.heap) (fun z : Nat => Ax o 187 z ∨ z = q9)) 0 0 (fun z : Nat => Ax o 187 z ∨ z = q9) := by
  refine z_metH (P := fun H : Heap => LQ G o ν σ π δ τ ω q9 fq H) (by decide) rfl (Nat.le_of_ble_eq_true rfl) (fun pp ee ss mm below meth cC E hr hml hown hts hlocks htab hP hK hX ls hl => ?_)
  have hl : lv_has ls 5 [(0, .ref (o 0)), (1, .int (iI f)), (2, .int (iI t)), (3, .ref q9)] := hl
  obtain ⟨hM, hA⟩ := hP
  have hcs : 0 ≤ (({ frames := 8, cells := 0, slots := 0, locals := 157 } : Room)).cells ∧ 0 ≤ (({ frames := 8, cells := 0, slots := 0, locals := 157 } : Room)).slots := ⟨Nat.le_of_ble_eq_true rfl, Nat.le_of_ble_eq_true rfl⟩
  refine lv_aload_n (pc := 0) E.1 E.2 dL_tagReason_0 rfl (lv_at hl 3 rfl) ?_
  refine z_iconst (pc := 1) E dL_tagReason_1 ?_
  refine lv_aload_n (pc := 2) E.1 E.2 dL_tagReason_2 rfl (lv_at hl 0 rfl) ?_
  refine lv_iload_n (pc := 3) E.1 E.2 dL_tagReason_3 rfl (lv_at hl 1 rfl) ?_
  refine lv_iload_n (pc := 4) E.1 E.2 dL_tagReason_4 rfl (lv_at hl 2 rfl) ?_
  have hS : va_S (fun z : Nat => Ax o 187 z ∨ z = q9) ss.heap ss.heap [] := va_S.rf
  refine z_rVi (pc := 5) (P := fun H : Heap => QT G o ν σ π δ τ ω H) (As := [.int (iI f), .int (iI t)]) (rest := [.int (iI 0), .ref q9]) E hml hown hts (mX7_tagReason lL G o ν σ π δ τ ω f t hI hf ht hok) (cwV 2 hts gL_tagReason_X7_tagReason rfl rfl rfl vdX7_tagReason ⟨Nat.le_of_ble_eq_true rfl, Nat.le_of_ble_eq_true rfl⟩) (hM.ob.recv hK rfl) hM hK rfl hl.1 rfl dL_tagReason_5 hcs (Nat.le_of_ble_eq_true rfl) ?_
  have hM2 := hM
  refine z_i2lR (pc := 8) E dL_tagReason_8 ?_
  refine z_lastore (pc := 9) E hK hA hS (Or.inr rfl) (by decide) (by decide) dL_tagReason_9 (fun H locs hA hoth hS => ?_)
  refine lv_goto (pc := 10) (tgt := 21) E.1 E.2 dL_tagReason_10 (by decide) ?_
  refine z_iconst (pc := 21) E dL_tagReason_21 ?_
  exact z_retWi (pc := 22) (P1 := fun H : Heap => LQ G o ν σ π δ τ ω q9 (zu fq 0 (rI ((rtS σ f t)))) H) E hr rfl ⟨hM2.kp (fun k hk => hoth _ (hq9 k hk)), hA⟩ hS hlocks dL_tagReason_22
set_option maxRecDepth 100000 in
theorem mL_tag (lL : Launch) (G : GG) (o : Nat → Nat) (ν σ : Int → Int) (π : Nat → Int → Int) (δ τ ω : Int → Int) (f : Int) (t : Int) (hI : In σ) (hf : -2147483648 ≤ f ∧ f < 2147483648) (ht : -2147483648 ≤ t ∧ t < 2147483648) (hok : (kxTag σ f t) = 0) (hc : 0 ≤ ν 2 ∧ ν 2 ≤ 1000000) (hu : 0 ≤ ν 3 ∧ ν 3 ≤ 8) (hU : Ub σ) (q9 : Nat) (fq : Int → Int) (hq9 : ∀ k, k < 187 → o k ≠ q9) : Met lL yL_tag wsL_tag ({ frames := 8, cells := 0, slots := 0, locals := 180 } : Room) (va_Pc [.ref (o 0), .int (iI f), .int (iI t), .ref q9] (fun U => LQ G o ν σ π δ τ ω q9 fq U.heap ∧ KK G U ∧ KX FF0 U U.heap)) (va_Qi (fun r (_ : Unit) => r = iI 0) (fun _ tZ => LQ G o (zu (zu ν 2 (ν 2 + 1)) 3 (min (ν 3 + 1) 8)) (nxTag σ f t) (pU π (ν 2 % 8) σ) δ τ ω q9 (zu fq 0 (rI ((axTag σ f t)))) tZ.heap) (fun z : Nat => Ax o 187 z ∨ z = q9)) 0 0 (fun z : Nat => Ax o 187 z ∨ z = q9) := by
  refine z_metH (P := fun H : Heap => LQ G o ν σ π δ τ ω q9 fq H) (by decide) rfl (Nat.le_of_ble_eq_true rfl) (fun pp ee ss mm below meth cC E hr hml hown hts hlocks htab hP hK hX ls hl => ?_)
  have hl : lv_has ls 5 [(0, .ref (o 0)), (1, .int (iI f)), (2, .int (iI t)), (3, .ref q9)] := hl
  obtain ⟨hM, hA⟩ := hP
  have hcs : 0 ≤ (({ frames := 8, cells := 0, slots := 0, locals := 180 } : Room)).cells ∧ 0 ≤ (({ frames := 8, cells := 0, slots := 0, locals := 180 } : Room)).slots := ⟨Nat.le_of_ble_eq_true rfl, Nat.le_of_ble_eq_true rfl⟩
  refine lv_aload_n (pc := 0) E.1 E.2 dL_tag_0 rfl (lv_at hl 3 rfl) ?_
  refine z_iconst (pc := 1) E dL_tag_1 ?_
  refine lv_aload_n (pc := 2) E.1 E.2 dL_tag_2 rfl (lv_at hl 0 rfl) ?_
  refine lv_iload_n (pc := 3) E.1 E.2 dL_tag_3 rfl (lv_at hl 1 rfl) ?_
  refine lv_iload_n (pc := 4) E.1 E.2 dL_tag_4 rfl (lv_at hl 2 rfl) ?_
  have hS : va_S (fun z : Nat => Ax o 187 z ∨ z = q9) ss.heap ss.heap [] := va_S.rf
  refine z_wVi (pc := 5) (P := fun H : Heap => QT G o ν σ π δ τ ω H) (P1 := fun H : Heap => QT G o (zu (zu ν 2 (ν 2 + 1)) 3 (min (ν 3 + 1) 8)) (nxTag σ f t) (pU π (ν 2 % 8) σ) δ τ ω H) (As := [.int (iI f), .int (iI t)]) (rest := [.int (iI 0), .ref q9]) E hml hown hts (mX7_tag lL G o ν σ π δ τ ω f t hI hf ht hok hc hu hU) (cwV 2 hts gL_tag_X7_tag rfl rfl rfl vdX7_tag ⟨Nat.le_of_ble_eq_true rfl, Nat.le_of_ble_eq_true rfl⟩) (hM.ob.recv hK rfl) hM hK hS (fun z h => Or.inl h) rfl hl.1 rfl dL_tag_5 hcs (Nat.le_of_ble_eq_true rfl) (fun H locs hM2 hsz hoth hS => ?_)
  have hA := hA.kp (hoth _ hA.lt (fun h => Exists.elim h fun k hk => hq9 k hk.1 hk.2.symm))
  refine z_i2lR (pc := 8) E dL_tag_8 ?_
  refine z_lastore (pc := 9) E hK hA hS (Or.inr rfl) (by decide) (by decide) dL_tag_9 (fun H locs hA hoth hS => ?_)
  refine lv_goto (pc := 10) (tgt := 25) E.1 E.2 dL_tag_10 (by decide) ?_
  refine z_iconst (pc := 25) E dL_tag_25 ?_
  exact z_retWi (pc := 26) (P1 := fun H : Heap => LQ G o (zu (zu ν 2 (ν 2 + 1)) 3 (min (ν 3 + 1) 8)) (nxTag σ f t) (pU π (ν 2 % 8) σ) δ τ ω q9 (zu fq 0 (rI ((axTag σ f t)))) H) E hr rfl ⟨hM2.kp (fun k hk => hoth _ (hq9 k hk)), hA⟩ hS hlocks dL_tag_26
set_option maxRecDepth 100000 in
theorem mL_moveReason (lL : Launch) (G : GG) (o : Nat → Nat) (ν σ : Int → Int) (π : Nat → Int → Int) (δ τ ω : Int → Int) (f : Int) (q : Int) (hI : In σ) (hf : -2147483648 ≤ f ∧ f < 2147483648) (hq : -2147483648 ≤ q ∧ q < 2147483648) (hok : (kxMoveR σ f q) = 0) (q9 : Nat) (fq : Int → Int) (hq9 : ∀ k, k < 187 → o k ≠ q9) : Met lL yL_moveReason wsL_moveReason ({ frames := 8, cells := 0, slots := 0, locals := 157 } : Room) (va_Pc [.ref (o 0), .int (iI f), .int (iI q), .ref q9] (fun U => LQ G o ν σ π δ τ ω q9 fq U.heap ∧ KK G U ∧ KX FF0 U U.heap)) (va_Qi (fun r (_ : Unit) => r = iI 0) (fun _ tZ => LQ G o ν σ π δ τ ω q9 (zu fq 0 (rI ((rmS σ f q)))) tZ.heap) (fun z : Nat => Ax o 187 z ∨ z = q9)) 0 0 (fun z : Nat => Ax o 187 z ∨ z = q9) := by
  refine z_metH (P := fun H : Heap => LQ G o ν σ π δ τ ω q9 fq H) (by decide) rfl (Nat.le_of_ble_eq_true rfl) (fun pp ee ss mm below meth cC E hr hml hown hts hlocks htab hP hK hX ls hl => ?_)
  have hl : lv_has ls 5 [(0, .ref (o 0)), (1, .int (iI f)), (2, .int (iI q)), (3, .ref q9)] := hl
  obtain ⟨hM, hA⟩ := hP
  have hcs : 0 ≤ (({ frames := 8, cells := 0, slots := 0, locals := 157 } : Room)).cells ∧ 0 ≤ (({ frames := 8, cells := 0, slots := 0, locals := 157 } : Room)).slots := ⟨Nat.le_of_ble_eq_true rfl, Nat.le_of_ble_eq_true rfl⟩
  refine lv_aload_n (pc := 0) E.1 E.2 dL_moveReason_0 rfl (lv_at hl 3 rfl) ?_
  refine z_iconst (pc := 1) E dL_moveReason_1 ?_
  refine lv_aload_n (pc := 2) E.1 E.2 dL_moveReason_2 rfl (lv_at hl 0 rfl) ?_
  refine lv_iload_n (pc := 3) E.1 E.2 dL_moveReason_3 rfl (lv_at hl 1 rfl) ?_
  refine lv_iload_n (pc := 4) E.1 E.2 dL_moveReason_4 rfl (lv_at hl 2 rfl) ?_
  have hS : va_S (fun z : Nat => Ax o 187 z ∨ z = q9) ss.heap ss.heap [] := va_S.rf
  refine z_rVi (pc := 5) (P := fun H : Heap => QT G o ν σ π δ τ ω H) (As := [.int (iI f), .int (iI q)]) (rest := [.int (iI 0), .ref q9]) E hml hown hts (mX7_moveReason lL G o ν σ π δ τ ω f q hI hf hq hok) (cwV 2 hts gL_moveReason_X7_moveReason rfl rfl rfl vdX7_moveReason ⟨Nat.le_of_ble_eq_true rfl, Nat.le_of_ble_eq_true rfl⟩) (hM.ob.recv hK rfl) hM hK rfl hl.1 rfl dL_moveReason_5 hcs (Nat.le_of_ble_eq_true rfl) ?_
  have hM2 := hM
  refine z_i2lR (pc := 8) E dL_moveReason_8 ?_
  refine z_lastore (pc := 9) E hK hA hS (Or.inr rfl) (by decide) (by decide) dL_moveReason_9 (fun H locs hA hoth hS => ?_)
  refine lv_goto (pc := 10) (tgt := 17) E.1 E.2 dL_moveReason_10 (by decide) ?_
  refine z_iconst (pc := 17) E dL_moveReason_17 ?_
  exact z_retWi (pc := 18) (P1 := fun H : Heap => LQ G o ν σ π δ τ ω q9 (zu fq 0 (rI ((rmS σ f q)))) H) E hr rfl ⟨hM2.kp (fun k hk => hoth _ (hq9 k hk)), hA⟩ hS hlocks dL_moveReason_18
set_option maxRecDepth 100000 in
theorem mL_moveFolder (lL : Launch) (G : GG) (o : Nat → Nat) (ν σ : Int → Int) (π : Nat → Int → Int) (δ τ ω : Int → Int) (f : Int) (q : Int) (hI : In σ) (hf : -2147483648 ≤ f ∧ f < 2147483648) (hq : -2147483648 ≤ q ∧ q < 2147483648) (hok : (kxMove σ f q) = 0) (hc : 0 ≤ ν 2 ∧ ν 2 ≤ 1000000) (hu : 0 ≤ ν 3 ∧ ν 3 ≤ 8) (hU : Ub σ) (q9 : Nat) (fq : Int → Int) (hq9 : ∀ k, k < 187 → o k ≠ q9) : Met lL yL_moveFolder wsL_moveFolder ({ frames := 8, cells := 0, slots := 0, locals := 180 } : Room) (va_Pc [.ref (o 0), .int (iI f), .int (iI q), .ref q9] (fun U => LQ G o ν σ π δ τ ω q9 fq U.heap ∧ KK G U ∧ KX FF0 U U.heap)) (va_Qi (fun r (_ : Unit) => r = iI 0) (fun _ tZ => LQ G o (zu (zu ν 2 (ν 2 + 1)) 3 (min (ν 3 + 1) 8)) (nxMove σ f q) (pU π (ν 2 % 8) σ) δ τ ω q9 (zu fq 0 (rI ((axMove σ f q)))) tZ.heap) (fun z : Nat => Ax o 187 z ∨ z = q9)) 0 0 (fun z : Nat => Ax o 187 z ∨ z = q9) := by
  refine z_metH (P := fun H : Heap => LQ G o ν σ π δ τ ω q9 fq H) (by decide) rfl (Nat.le_of_ble_eq_true rfl) (fun pp ee ss mm below meth cC E hr hml hown hts hlocks htab hP hK hX ls hl => ?_)
  have hl : lv_has ls 5 [(0, .ref (o 0)), (1, .int (iI f)), (2, .int (iI q)), (3, .ref q9)] := hl
  obtain ⟨hM, hA⟩ := hP
  have hcs : 0 ≤ (({ frames := 8, cells := 0, slots := 0, locals := 180 } : Room)).cells ∧ 0 ≤ (({ frames := 8, cells := 0, slots := 0, locals := 180 } : Room)).slots := ⟨Nat.le_of_ble_eq_true rfl, Nat.le_of_ble_eq_true rfl⟩
  refine lv_aload_n (pc := 0) E.1 E.2 dL_moveFolder_0 rfl (lv_at hl 3 rfl) ?_
  refine z_iconst (pc := 1) E dL_moveFolder_1 ?_
  refine lv_aload_n (pc := 2) E.1 E.2 dL_moveFolder_2 rfl (lv_at hl 0 rfl) ?_
  refine lv_iload_n (pc := 3) E.1 E.2 dL_moveFolder_3 rfl (lv_at hl 1 rfl) ?_
  refine lv_iload_n (pc := 4) E.1 E.2 dL_moveFolder_4 rfl (lv_at hl 2 rfl) ?_
  have hS : va_S (fun z : Nat => Ax o 187 z ∨ z = q9) ss.heap ss.heap [] := va_S.rf
  refine z_wVi (pc := 5) (P := fun H : Heap => QT G o ν σ π δ τ ω H) (P1 := fun H : Heap => QT G o (zu (zu ν 2 (ν 2 + 1)) 3 (min (ν 3 + 1) 8)) (nxMove σ f q) (pU π (ν 2 % 8) σ) δ τ ω H) (As := [.int (iI f), .int (iI q)]) (rest := [.int (iI 0), .ref q9]) E hml hown hts (mX7_moveFolder lL G o ν σ π δ τ ω f q hI hf hq hok hc hu hU) (cwV 2 hts gL_moveFolder_X7_moveFolder rfl rfl rfl vdX7_moveFolder ⟨Nat.le_of_ble_eq_true rfl, Nat.le_of_ble_eq_true rfl⟩) (hM.ob.recv hK rfl) hM hK hS (fun z h => Or.inl h) rfl hl.1 rfl dL_moveFolder_5 hcs (Nat.le_of_ble_eq_true rfl) (fun H locs hM2 hsz hoth hS => ?_)
  have hA := hA.kp (hoth _ hA.lt (fun h => Exists.elim h fun k hk => hq9 k hk.1 hk.2.symm))
  refine z_i2lR (pc := 8) E dL_moveFolder_8 ?_
  refine z_lastore (pc := 9) E hK hA hS (Or.inr rfl) (by decide) (by decide) dL_moveFolder_9 (fun H locs hA hoth hS => ?_)
  refine lv_goto (pc := 10) (tgt := 21) E.1 E.2 dL_moveFolder_10 (by decide) ?_
  refine z_iconst (pc := 21) E dL_moveFolder_21 ?_
  exact z_retWi (pc := 22) (P1 := fun H : Heap => LQ G o (zu (zu ν 2 (ν 2 + 1)) 3 (min (ν 3 + 1) 8)) (nxMove σ f q) (pU π (ν 2 % 8) σ) δ τ ω q9 (zu fq 0 (rI ((axMove σ f q)))) H) E hr rfl ⟨hM2.kp (fun k hk => hoth _ (hq9 k hk)), hA⟩ hS hlocks dL_moveFolder_22
set_option maxRecDepth 100000 in
theorem mL_file (lL : Launch) (G : GG) (o : Nat → Nat) (ν σ : Int → Int) (π : Nat → Int → Int) (δ τ ω : Int → Int) (k : Int) (w : Int) (hI : In σ) (hk : -2147483648 ≤ k ∧ k < 2147483648) (hw : -2147483648 ≤ w ∧ w < 2147483648) (hok : (kxFile σ k w) = 0) (q9 : Nat) (fq : Int → Int) (hq9 : ∀ k, k < 187 → o k ≠ q9) : Met lL yL_file wsL_file ({ frames := 8, cells := 0, slots := 0, locals := 108 } : Room) (va_Pc [.ref (o 0), .int (iI k), .int (iI w), .ref q9] (fun U => LQ G o ν σ π δ τ ω q9 fq U.heap ∧ KK G U ∧ KX FF0 U U.heap)) (va_Qi (fun r (_ : Unit) => r = iI 0) (fun _ tZ => LQ G o ν σ π δ τ ω q9 (zu fq 0 (rI ((axFile σ k w)))) tZ.heap) (fun z : Nat => Ax o 187 z ∨ z = q9)) 0 0 (fun z : Nat => Ax o 187 z ∨ z = q9) := by
  refine z_metH (P := fun H : Heap => LQ G o ν σ π δ τ ω q9 fq H) (by decide) rfl (Nat.le_of_ble_eq_true rfl) (fun pp ee ss mm below meth cC E hr hml hown hts hlocks htab hP hK hX ls hl => ?_)
  have hl : lv_has ls 5 [(0, .ref (o 0)), (1, .int (iI k)), (2, .int (iI w)), (3, .ref q9)] := hl
  obtain ⟨hM, hA⟩ := hP
  have hcs : 0 ≤ (({ frames := 8, cells := 0, slots := 0, locals := 108 } : Room)).cells ∧ 0 ≤ (({ frames := 8, cells := 0, slots := 0, locals := 108 } : Room)).slots := ⟨Nat.le_of_ble_eq_true rfl, Nat.le_of_ble_eq_true rfl⟩
  refine lv_aload_n (pc := 0) E.1 E.2 dL_file_0 rfl (lv_at hl 3 rfl) ?_
  refine z_iconst (pc := 1) E dL_file_1 ?_
  refine lv_aload_n (pc := 2) E.1 E.2 dL_file_2 rfl (lv_at hl 0 rfl) ?_
  refine lv_iload_n (pc := 3) E.1 E.2 dL_file_3 rfl (lv_at hl 1 rfl) ?_
  refine lv_iload_n (pc := 4) E.1 E.2 dL_file_4 rfl (lv_at hl 2 rfl) ?_
  have hS : va_S (fun z : Nat => Ax o 187 z ∨ z = q9) ss.heap ss.heap [] := va_S.rf
  refine z_rVi (pc := 5) (P := fun H : Heap => QT G o ν σ π δ τ ω H) (As := [.int (iI k), .int (iI w)]) (rest := [.int (iI 0), .ref q9]) E hml hown hts (mX7_file lL G o ν σ π δ τ ω k w hI hk hw hok) (cwV 2 hts gL_file_X7_file rfl rfl rfl vdX7_file ⟨Nat.le_of_ble_eq_true rfl, Nat.le_of_ble_eq_true rfl⟩) (hM.ob.recv hK rfl) hM hK rfl hl.1 rfl dL_file_5 hcs (Nat.le_of_ble_eq_true rfl) ?_
  have hM2 := hM
  refine z_i2lR (pc := 8) E dL_file_8 ?_
  refine z_lastore (pc := 9) E hK hA hS (Or.inr rfl) (by decide) (by decide) dL_file_9 (fun H locs hA hoth hS => ?_)
  refine lv_goto (pc := 10) (tgt := 21) E.1 E.2 dL_file_10 (by decide) ?_
  refine z_iconst (pc := 21) E dL_file_21 ?_
  exact z_retWi (pc := 22) (P1 := fun H : Heap => LQ G o ν σ π δ τ ω q9 (zu fq 0 (rI ((axFile σ k w)))) H) E hr rfl ⟨hM2.kp (fun k hk => hoth _ (hq9 k hk)), hA⟩ hS hlocks dL_file_22
set_option maxRecDepth 100000 in
theorem mL_writeReason (lL : Launch) (G : GG) (o : Nat → Nat) (ν σ : Int → Int) (π : Nat → Int → Int) (δ τ ω : Int → Int) (f : Int) (b : Int) (hI : In σ) (hf : -2147483648 ≤ f ∧ f < 2147483648) (hb : -2147483648 ≤ b ∧ b < 2147483648) (hok : (kxWriteR σ f b) = 0) (q9 : Nat) (fq : Int → Int) (hq9 : ∀ k, k < 187 → o k ≠ q9) : Met lL yL_writeReason wsL_writeReason ({ frames := 8, cells := 0, slots := 0, locals := 135 } : Room) (va_Pc [.ref (o 0), .int (iI f), .int (iI b), .ref q9] (fun U => LQ G o ν σ π δ τ ω q9 fq U.heap ∧ KK G U ∧ KX FF0 U U.heap)) (va_Qi (fun r (_ : Unit) => r = iI 0) (fun _ tZ => LQ G o ν σ π δ τ ω q9 (zu fq 0 (rI ((axWriteR σ f b)))) tZ.heap) (fun z : Nat => Ax o 187 z ∨ z = q9)) 0 0 (fun z : Nat => Ax o 187 z ∨ z = q9) := by
  refine z_metH (P := fun H : Heap => LQ G o ν σ π δ τ ω q9 fq H) (by decide) rfl (Nat.le_of_ble_eq_true rfl) (fun pp ee ss mm below meth cC E hr hml hown hts hlocks htab hP hK hX ls hl => ?_)
  have hl : lv_has ls 5 [(0, .ref (o 0)), (1, .int (iI f)), (2, .int (iI b)), (3, .ref q9)] := hl
  obtain ⟨hM, hA⟩ := hP
  have hcs : 0 ≤ (({ frames := 8, cells := 0, slots := 0, locals := 135 } : Room)).cells ∧ 0 ≤ (({ frames := 8, cells := 0, slots := 0, locals := 135 } : Room)).slots := ⟨Nat.le_of_ble_eq_true rfl, Nat.le_of_ble_eq_true rfl⟩
  refine lv_aload_n (pc := 0) E.1 E.2 dL_writeReason_0 rfl (lv_at hl 3 rfl) ?_
  refine z_iconst (pc := 1) E dL_writeReason_1 ?_
  refine lv_aload_n (pc := 2) E.1 E.2 dL_writeReason_2 rfl (lv_at hl 0 rfl) ?_
  refine lv_iload_n (pc := 3) E.1 E.2 dL_writeReason_3 rfl (lv_at hl 1 rfl) ?_
  refine lv_iload_n (pc := 4) E.1 E.2 dL_writeReason_4 rfl (lv_at hl 2 rfl) ?_
  have hS : va_S (fun z : Nat => Ax o 187 z ∨ z = q9) ss.heap ss.heap [] := va_S.rf
  refine z_rVi (pc := 5) (P := fun H : Heap => QT G o ν σ π δ τ ω H) (As := [.int (iI f), .int (iI b)]) (rest := [.int (iI 0), .ref q9]) E hml hown hts (mX7_writeReason lL G o ν σ π δ τ ω f b hI hf hb hok) (cwV 2 hts gL_writeReason_X7_writeReason rfl rfl rfl vdX7_writeReason ⟨Nat.le_of_ble_eq_true rfl, Nat.le_of_ble_eq_true rfl⟩) (hM.ob.recv hK rfl) hM hK rfl hl.1 rfl dL_writeReason_5 hcs (Nat.le_of_ble_eq_true rfl) ?_
  have hM2 := hM
  refine z_i2lR (pc := 8) E dL_writeReason_8 ?_
  refine z_lastore (pc := 9) E hK hA hS (Or.inr rfl) (by decide) (by decide) dL_writeReason_9 (fun H locs hA hoth hS => ?_)
  refine lv_goto (pc := 10) (tgt := 21) E.1 E.2 dL_writeReason_10 (by decide) ?_
  refine z_iconst (pc := 21) E dL_writeReason_21 ?_
  exact z_retWi (pc := 22) (P1 := fun H : Heap => LQ G o ν σ π δ τ ω q9 (zu fq 0 (rI ((axWriteR σ f b)))) H) E hr rfl ⟨hM2.kp (fun k hk => hoth _ (hq9 k hk)), hA⟩ hS hlocks dL_writeReason_22
set_option maxRecDepth 100000 in
theorem mL_write (lL : Launch) (G : GG) (o : Nat → Nat) (ν σ : Int → Int) (π : Nat → Int → Int) (δ τ ω : Int → Int) (f : Int) (b : Int) (hI : In σ) (hf : -2147483648 ≤ f ∧ f < 2147483648) (hb : -2147483648 ≤ b ∧ b < 2147483648) (hok : (kxWrite σ f b) = 0) (hc : 0 ≤ ν 2 ∧ ν 2 ≤ 1000000) (hu : 0 ≤ ν 3 ∧ ν 3 ≤ 8) (hU : Ub σ) (q9 : Nat) (fq : Int → Int) (hq9 : ∀ k, k < 187 → o k ≠ q9) : Met lL yL_write wsL_write ({ frames := 8, cells := 0, slots := 0, locals := 175 } : Room) (va_Pc [.ref (o 0), .int (iI f), .int (iI b), .ref q9] (fun U => LQ G o ν σ π δ τ ω q9 fq U.heap ∧ KK G U ∧ KX FF0 U U.heap)) (va_Qi (fun r (_ : Unit) => r = iI 0) (fun _ tZ => LQ G o (zu (zu ν 2 (ν 2 + 1)) 3 (min (ν 3 + 1) 8)) (nxWrite σ f b) (pU π (ν 2 % 8) σ) δ τ ω q9 (zu fq 0 (rI ((σ 3)))) tZ.heap) (fun z : Nat => Ax o 187 z ∨ z = q9)) 0 0 (fun z : Nat => Ax o 187 z ∨ z = q9) := by
  refine z_metH (P := fun H : Heap => LQ G o ν σ π δ τ ω q9 fq H) (by decide) rfl (Nat.le_of_ble_eq_true rfl) (fun pp ee ss mm below meth cC E hr hml hown hts hlocks htab hP hK hX ls hl => ?_)
  have hl : lv_has ls 5 [(0, .ref (o 0)), (1, .int (iI f)), (2, .int (iI b)), (3, .ref q9)] := hl
  obtain ⟨hM, hA⟩ := hP
  have hcs : 0 ≤ (({ frames := 8, cells := 0, slots := 0, locals := 175 } : Room)).cells ∧ 0 ≤ (({ frames := 8, cells := 0, slots := 0, locals := 175 } : Room)).slots := ⟨Nat.le_of_ble_eq_true rfl, Nat.le_of_ble_eq_true rfl⟩
  refine lv_aload_n (pc := 0) E.1 E.2 dL_write_0 rfl (lv_at hl 3 rfl) ?_
  refine z_iconst (pc := 1) E dL_write_1 ?_
  refine lv_aload_n (pc := 2) E.1 E.2 dL_write_2 rfl (lv_at hl 0 rfl) ?_
  refine lv_iload_n (pc := 3) E.1 E.2 dL_write_3 rfl (lv_at hl 1 rfl) ?_
  refine lv_iload_n (pc := 4) E.1 E.2 dL_write_4 rfl (lv_at hl 2 rfl) ?_
  have hS : va_S (fun z : Nat => Ax o 187 z ∨ z = q9) ss.heap ss.heap [] := va_S.rf
  refine z_wVi (pc := 5) (P := fun H : Heap => QT G o ν σ π δ τ ω H) (P1 := fun H : Heap => QT G o (zu (zu ν 2 (ν 2 + 1)) 3 (min (ν 3 + 1) 8)) (nxWrite σ f b) (pU π (ν 2 % 8) σ) δ τ ω H) (As := [.int (iI f), .int (iI b)]) (rest := [.int (iI 0), .ref q9]) E hml hown hts (mX7_write lL G o ν σ π δ τ ω f b hI hf hb hok hc hu hU) (cwV 2 hts gL_write_X7_write rfl rfl rfl vdX7_write ⟨Nat.le_of_ble_eq_true rfl, Nat.le_of_ble_eq_true rfl⟩) (hM.ob.recv hK rfl) hM hK hS (fun z h => Or.inl h) rfl hl.1 rfl dL_write_5 hcs (Nat.le_of_ble_eq_true rfl) (fun H locs hM2 hsz hoth hS => ?_)
  have hA := hA.kp (hoth _ hA.lt (fun h => Exists.elim h fun k hk => hq9 k hk.1 hk.2.symm))
  refine z_i2lR (pc := 8) E dL_write_8 ?_
  refine z_lastore (pc := 9) E hK hA hS (Or.inr rfl) (by decide) (by decide) dL_write_9 (fun H locs hA hoth hS => ?_)
  refine lv_goto (pc := 10) (tgt := 25) E.1 E.2 dL_write_10 (by decide) ?_
  refine z_iconst (pc := 25) E dL_write_25 ?_
  exact z_retWi (pc := 26) (P1 := fun H : Heap => LQ G o (zu (zu ν 2 (ν 2 + 1)) 3 (min (ν 3 + 1) 8)) (nxWrite σ f b) (pU π (ν 2 % 8) σ) δ τ ω q9 (zu fq 0 (rI ((σ 3)))) H) E hr rfl ⟨hM2.kp (fun k hk => hoth _ (hq9 k hk)), hA⟩ hS hlocks dL_write_26
set_option maxRecDepth 100000 in
theorem mL_room (lL : Launch) (G : GG) (o : Nat → Nat) (ν σ : Int → Int) (π : Nat → Int → Int) (δ τ ω : Int → Int) (f : Int) (hI : In σ) (hf : -2147483648 ≤ f ∧ f < 2147483648) (hok : (kxFo σ f) = 0) (q9 : Nat) (fq : Int → Int) (hq9 : ∀ k, k < 187 → o k ≠ q9) : Met lL yL_room wsL_room ({ frames := 8, cells := 0, slots := 0, locals := 135 } : Room) (va_Pc [.ref (o 0), .int (iI f), .ref q9] (fun U => LQ G o ν σ π δ τ ω q9 fq U.heap ∧ KK G U ∧ KX FF0 U U.heap)) (va_Qi (fun r (_ : Unit) => r = iI 0) (fun _ tZ => LQ G o ν σ π δ τ ω q9 (zu fq 0 (rI ((rooS σ (pjF σ f))))) tZ.heap) (fun z : Nat => Ax o 187 z ∨ z = q9)) 0 0 (fun z : Nat => Ax o 187 z ∨ z = q9) := by
  refine z_metH (P := fun H : Heap => LQ G o ν σ π δ τ ω q9 fq H) (by decide) rfl (Nat.le_of_ble_eq_true rfl) (fun pp ee ss mm below meth cC E hr hml hown hts hlocks htab hP hK hX ls hl => ?_)
  have hl : lv_has ls 4 [(0, .ref (o 0)), (1, .int (iI f)), (2, .ref q9)] := hl
  obtain ⟨hM, hA⟩ := hP
  have hcs : 0 ≤ (({ frames := 8, cells := 0, slots := 0, locals := 135 } : Room)).cells ∧ 0 ≤ (({ frames := 8, cells := 0, slots := 0, locals := 135 } : Room)).slots := ⟨Nat.le_of_ble_eq_true rfl, Nat.le_of_ble_eq_true rfl⟩
  refine lv_aload_n (pc := 0) E.1 E.2 dL_room_0 rfl (lv_at hl 2 rfl) ?_
  refine z_iconst (pc := 1) E dL_room_1 ?_
  refine lv_aload_n (pc := 2) E.1 E.2 dL_room_2 rfl (lv_at hl 0 rfl) ?_
  refine lv_iload_n (pc := 3) E.1 E.2 dL_room_3 rfl (lv_at hl 1 rfl) ?_
  have hS : va_S (fun z : Nat => Ax o 187 z ∨ z = q9) ss.heap ss.heap [] := va_S.rf
  refine z_rVi (pc := 4) (P := fun H : Heap => QT G o ν σ π δ τ ω H) (As := [.int (iI f)]) (rest := [.int (iI 0), .ref q9]) E hml hown hts (mX7_room lL G o ν σ π δ τ ω f hI hf hok) (cwV 1 hts gL_room_X7_room rfl rfl rfl vdX7_room ⟨Nat.le_of_ble_eq_true rfl, Nat.le_of_ble_eq_true rfl⟩) (hM.ob.recv hK rfl) hM hK rfl hl.1 rfl dL_room_4 hcs (Nat.le_of_ble_eq_true rfl) ?_
  have hM2 := hM
  refine z_i2lR (pc := 7) E dL_room_7 ?_
  refine z_lastore (pc := 8) E hK hA hS (Or.inr rfl) (by decide) (by decide) dL_room_8 (fun H locs hA hoth hS => ?_)
  refine lv_goto (pc := 9) (tgt := 15) E.1 E.2 dL_room_9 (by decide) ?_
  refine z_iconst (pc := 15) E dL_room_15 ?_
  exact z_retWi (pc := 16) (P1 := fun H : Heap => LQ G o ν σ π δ τ ω q9 (zu fq 0 (rI ((rooS σ (pjF σ f))))) H) E hr rfl ⟨hM2.kp (fun k hk => hoth _ (hq9 k hk)), hA⟩ hS hlocks dL_room_16
set_option maxRecDepth 100000 in
theorem mL_resize (lL : Launch) (G : GG) (o : Nat → Nat) (ν σ : Int → Int) (π : Nat → Int → Int) (δ τ ω : Int → Int) (k : Int) (b : Int) (hI : In σ) (hk : -2147483648 ≤ k ∧ k < 2147483648) (hb : -2147483648 ≤ b ∧ b < 2147483648) (hok : (kxResize σ k b) = 0) (hc : 0 ≤ ν 2 ∧ ν 2 ≤ 1000000) (hu : 0 ≤ ν 3 ∧ ν 3 ≤ 8) (hU : Ub σ) (q9 : Nat) (fq : Int → Int) (hq9 : ∀ k, k < 187 → o k ≠ q9) : Met lL yL_resize wsL_resize ({ frames := 8, cells := 0, slots := 0, locals := 177 } : Room) (va_Pc [.ref (o 0), .int (iI k), .int (iI b), .ref q9] (fun U => LQ G o ν σ π δ τ ω q9 fq U.heap ∧ KK G U ∧ KX FF0 U U.heap)) (va_Qi (fun r (_ : Unit) => r = iI 0) (fun _ tZ => LQ G o (zu (zu ν 2 (ν 2 + 1)) 3 (min (ν 3 + 1) 8)) (nxResize σ k b) (pU π (ν 2 % 8) σ) δ τ ω q9 (zu fq 0 (rI ((σ (249 + k))))) tZ.heap) (fun z : Nat => Ax o 187 z ∨ z = q9)) 0 0 (fun z : Nat => Ax o 187 z ∨ z = q9) := by
  refine z_metH (P := fun H : Heap => LQ G o ν σ π δ τ ω q9 fq H) (by decide) rfl (Nat.le_of_ble_eq_true rfl) (fun pp ee ss mm below meth cC E hr hml hown hts hlocks htab hP hK hX ls hl => ?_)
  have hl : lv_has ls 5 [(0, .ref (o 0)), (1, .int (iI k)), (2, .int (iI b)), (3, .ref q9)] := hl
  obtain ⟨hM, hA⟩ := hP
  have hcs : 0 ≤ (({ frames := 8, cells := 0, slots := 0, locals := 177 } : Room)).cells ∧ 0 ≤ (({ frames := 8, cells := 0, slots := 0, locals := 177 } : Room)).slots := ⟨Nat.le_of_ble_eq_true rfl, Nat.le_of_ble_eq_true rfl⟩
  refine lv_aload_n (pc := 0) E.1 E.2 dL_resize_0 rfl (lv_at hl 3 rfl) ?_
  refine z_iconst (pc := 1) E dL_resize_1 ?_
  refine lv_aload_n (pc := 2) E.1 E.2 dL_resize_2 rfl (lv_at hl 0 rfl) ?_
  refine lv_iload_n (pc := 3) E.1 E.2 dL_resize_3 rfl (lv_at hl 1 rfl) ?_
  refine lv_iload_n (pc := 4) E.1 E.2 dL_resize_4 rfl (lv_at hl 2 rfl) ?_
  have hS : va_S (fun z : Nat => Ax o 187 z ∨ z = q9) ss.heap ss.heap [] := va_S.rf
  refine z_wVi (pc := 5) (P := fun H : Heap => QT G o ν σ π δ τ ω H) (P1 := fun H : Heap => QT G o (zu (zu ν 2 (ν 2 + 1)) 3 (min (ν 3 + 1) 8)) (nxResize σ k b) (pU π (ν 2 % 8) σ) δ τ ω H) (As := [.int (iI k), .int (iI b)]) (rest := [.int (iI 0), .ref q9]) E hml hown hts (mX7_resize lL G o ν σ π δ τ ω k b hI hk hb hok hc hu hU) (cwV 2 hts gL_resize_X7_resize rfl rfl rfl vdX7_resize ⟨Nat.le_of_ble_eq_true rfl, Nat.le_of_ble_eq_true rfl⟩) (hM.ob.recv hK rfl) hM hK hS (fun z h => Or.inl h) rfl hl.1 rfl dL_resize_5 hcs (Nat.le_of_ble_eq_true rfl) (fun H locs hM2 hsz hoth hS => ?_)
  have hA := hA.kp (hoth _ hA.lt (fun h => Exists.elim h fun k hk => hq9 k hk.1 hk.2.symm))
  refine z_i2lR (pc := 8) E dL_resize_8 ?_
  refine z_lastore (pc := 9) E hK hA hS (Or.inr rfl) (by decide) (by decide) dL_resize_9 (fun H locs hA hoth hS => ?_)
  refine lv_goto (pc := 10) (tgt := 25) E.1 E.2 dL_resize_10 (by decide) ?_
  refine z_iconst (pc := 25) E dL_resize_25 ?_
  exact z_retWi (pc := 26) (P1 := fun H : Heap => LQ G o (zu (zu ν 2 (ν 2 + 1)) 3 (min (ν 3 + 1) 8)) (nxResize σ k b) (pU π (ν 2 % 8) σ) δ τ ω q9 (zu fq 0 (rI ((σ (249 + k))))) H) E hr rfl ⟨hM2.kp (fun k hk => hoth _ (hq9 k hk)), hA⟩ hS hlocks dL_resize_26
set_option maxRecDepth 100000 in
theorem mL_delete (lL : Launch) (G : GG) (o : Nat → Nat) (ν σ : Int → Int) (π : Nat → Int → Int) (δ τ ω : Int → Int) (k : Int) (hI : In σ) (hk : -2147483648 ≤ k ∧ k < 2147483648) (hok : (kxFi σ k) = 0) (hc : 0 ≤ ν 2 ∧ ν 2 ≤ 1000000) (hu : 0 ≤ ν 3 ∧ ν 3 ≤ 8) (q9 : Nat) (fq : Int → Int) (hq9 : ∀ k, k < 187 → o k ≠ q9) : Met lL yL_delete wsL_delete ({ frames := 8, cells := 0, slots := 0, locals := 174 } : Room) (va_Pc [.ref (o 0), .int (iI k), .ref q9] (fun U => LQ G o ν σ π δ τ ω q9 fq U.heap ∧ KK G U ∧ KX FF0 U U.heap)) (va_Qi (fun r (_ : Unit) => r = iI 0) (fun _ tZ => LQ G o (zu (zu ν 2 (ν 2 + 1)) 3 (min (ν 3 + 1) 8)) (nxDelete σ k) (pU π (ν 2 % 8) σ) δ τ ω q9 (zu fq 0 (rI ((σ 3 - 1)))) tZ.heap) (fun z : Nat => Ax o 187 z ∨ z = q9)) 0 0 (fun z : Nat => Ax o 187 z ∨ z = q9) := by
  refine z_metH (P := fun H : Heap => LQ G o ν σ π δ τ ω q9 fq H) (by decide) rfl (Nat.le_of_ble_eq_true rfl) (fun pp ee ss mm below meth cC E hr hml hown hts hlocks htab hP hK hX ls hl => ?_)
  have hl : lv_has ls 4 [(0, .ref (o 0)), (1, .int (iI k)), (2, .ref q9)] := hl
  obtain ⟨hM, hA⟩ := hP
  have hcs : 0 ≤ (({ frames := 8, cells := 0, slots := 0, locals := 174 } : Room)).cells ∧ 0 ≤ (({ frames := 8, cells := 0, slots := 0, locals := 174 } : Room)).slots := ⟨Nat.le_of_ble_eq_true rfl, Nat.le_of_ble_eq_true rfl⟩
  refine lv_aload_n (pc := 0) E.1 E.2 dL_delete_0 rfl (lv_at hl 2 rfl) ?_
  refine z_iconst (pc := 1) E dL_delete_1 ?_
  refine lv_aload_n (pc := 2) E.1 E.2 dL_delete_2 rfl (lv_at hl 0 rfl) ?_
  refine lv_iload_n (pc := 3) E.1 E.2 dL_delete_3 rfl (lv_at hl 1 rfl) ?_
  have hS : va_S (fun z : Nat => Ax o 187 z ∨ z = q9) ss.heap ss.heap [] := va_S.rf
  refine z_wVi (pc := 4) (P := fun H : Heap => QT G o ν σ π δ τ ω H) (P1 := fun H : Heap => QT G o (zu (zu ν 2 (ν 2 + 1)) 3 (min (ν 3 + 1) 8)) (nxDelete σ k) (pU π (ν 2 % 8) σ) δ τ ω H) (As := [.int (iI k)]) (rest := [.int (iI 0), .ref q9]) E hml hown hts (mX7_delete lL G o ν σ π δ τ ω k hI hk hok hc hu) (cwV 1 hts gL_delete_X7_delete rfl rfl rfl vdX7_delete ⟨Nat.le_of_ble_eq_true rfl, Nat.le_of_ble_eq_true rfl⟩) (hM.ob.recv hK rfl) hM hK hS (fun z h => Or.inl h) rfl hl.1 rfl dL_delete_4 hcs (Nat.le_of_ble_eq_true rfl) (fun H locs hM2 hsz hoth hS => ?_)
  have hA := hA.kp (hoth _ hA.lt (fun h => Exists.elim h fun k hk => hq9 k hk.1 hk.2.symm))
  refine z_i2lR (pc := 7) E dL_delete_7 ?_
  refine z_lastore (pc := 8) E hK hA hS (Or.inr rfl) (by decide) (by decide) dL_delete_8 (fun H locs hA hoth hS => ?_)
  refine lv_goto (pc := 9) (tgt := 15) E.1 E.2 dL_delete_9 (by decide) ?_
  refine z_iconst (pc := 15) E dL_delete_15 ?_
  exact z_retWi (pc := 16) (P1 := fun H : Heap => LQ G o (zu (zu ν 2 (ν 2 + 1)) 3 (min (ν 3 + 1) 8)) (nxDelete σ k) (pU π (ν 2 % 8) σ) δ τ ω q9 (zu fq 0 (rI ((σ 3 - 1)))) H) E hr rfl ⟨hM2.kp (fun k hk => hoth _ (hq9 k hk)), hA⟩ hS hlocks dL_delete_16
set_option maxRecDepth 100000 in
theorem mL_moveFile (lL : Launch) (G : GG) (o : Nat → Nat) (ν σ : Int → Int) (π : Nat → Int → Int) (δ τ ω : Int → Int) (k : Int) (f : Int) (hI : In σ) (hk : -2147483648 ≤ k ∧ k < 2147483648) (hf : -2147483648 ≤ f ∧ f < 2147483648) (hok : (kxMoveFi σ k f) = 0) (hc : 0 ≤ ν 2 ∧ ν 2 ≤ 1000000) (hu : 0 ≤ ν 3 ∧ ν 3 ≤ 8) (hU : Ub σ) (q9 : Nat) (fq : Int → Int) (hq9 : ∀ k, k < 187 → o k ≠ q9) : Met lL yL_moveFile wsL_moveFile ({ frames := 8, cells := 0, slots := 0, locals := 178 } : Room) (va_Pc [.ref (o 0), .int (iI k), .int (iI f), .ref q9] (fun U => LQ G o ν σ π δ τ ω q9 fq U.heap ∧ KK G U ∧ KX FF0 U U.heap)) (va_Qi (fun r (_ : Unit) => r = iI 0) (fun _ tZ => LQ G o (zu (zu ν 2 (ν 2 + 1)) 3 (min (ν 3 + 1) 8)) (nxMoveFi σ k f) (pU π (ν 2 % 8) σ) δ τ ω q9 (zu fq 0 (rI ((axMoveFi σ k f)))) tZ.heap) (fun z : Nat => Ax o 187 z ∨ z = q9)) 0 0 (fun z : Nat => Ax o 187 z ∨ z = q9) := by
  refine z_metH (P := fun H : Heap => LQ G o ν σ π δ τ ω q9 fq H) (by decide) rfl (Nat.le_of_ble_eq_true rfl) (fun pp ee ss mm below meth cC E hr hml hown hts hlocks htab hP hK hX ls hl => ?_)
  have hl : lv_has ls 5 [(0, .ref (o 0)), (1, .int (iI k)), (2, .int (iI f)), (3, .ref q9)] := hl
  obtain ⟨hM, hA⟩ := hP
  have hcs : 0 ≤ (({ frames := 8, cells := 0, slots := 0, locals := 178 } : Room)).cells ∧ 0 ≤ (({ frames := 8, cells := 0, slots := 0, locals := 178 } : Room)).slots := ⟨Nat.le_of_ble_eq_true rfl, Nat.le_of_ble_eq_true rfl⟩
  refine lv_aload_n (pc := 0) E.1 E.2 dL_moveFile_0 rfl (lv_at hl 3 rfl) ?_
  refine z_iconst (pc := 1) E dL_moveFile_1 ?_
  refine lv_aload_n (pc := 2) E.1 E.2 dL_moveFile_2 rfl (lv_at hl 0 rfl) ?_
  refine lv_iload_n (pc := 3) E.1 E.2 dL_moveFile_3 rfl (lv_at hl 1 rfl) ?_
  refine lv_iload_n (pc := 4) E.1 E.2 dL_moveFile_4 rfl (lv_at hl 2 rfl) ?_
  have hS : va_S (fun z : Nat => Ax o 187 z ∨ z = q9) ss.heap ss.heap [] := va_S.rf
  refine z_wVi (pc := 5) (P := fun H : Heap => QT G o ν σ π δ τ ω H) (P1 := fun H : Heap => QT G o (zu (zu ν 2 (ν 2 + 1)) 3 (min (ν 3 + 1) 8)) (nxMoveFi σ k f) (pU π (ν 2 % 8) σ) δ τ ω H) (As := [.int (iI k), .int (iI f)]) (rest := [.int (iI 0), .ref q9]) E hml hown hts (mX7_moveFile lL G o ν σ π δ τ ω k f hI hk hf hok hc hu hU) (cwV 2 hts gL_moveFile_X7_moveFile rfl rfl rfl vdX7_moveFile ⟨Nat.le_of_ble_eq_true rfl, Nat.le_of_ble_eq_true rfl⟩) (hM.ob.recv hK rfl) hM hK hS (fun z h => Or.inl h) rfl hl.1 rfl dL_moveFile_5 hcs (Nat.le_of_ble_eq_true rfl) (fun H locs hM2 hsz hoth hS => ?_)
  have hA := hA.kp (hoth _ hA.lt (fun h => Exists.elim h fun k hk => hq9 k hk.1 hk.2.symm))
  refine z_i2lR (pc := 8) E dL_moveFile_8 ?_
  refine z_lastore (pc := 9) E hK hA hS (Or.inr rfl) (by decide) (by decide) dL_moveFile_9 (fun H locs hA hoth hS => ?_)
  refine lv_goto (pc := 10) (tgt := 21) E.1 E.2 dL_moveFile_10 (by decide) ?_
  refine z_iconst (pc := 21) E dL_moveFile_21 ?_
  exact z_retWi (pc := 22) (P1 := fun H : Heap => LQ G o (zu (zu ν 2 (ν 2 + 1)) 3 (min (ν 3 + 1) 8)) (nxMoveFi σ k f) (pU π (ν 2 % 8) σ) δ τ ω q9 (zu fq 0 (rI ((axMoveFi σ k f)))) H) E hr rfl ⟨hM2.kp (fun k hk => hoth _ (hq9 k hk)), hA⟩ hS hlocks dL_moveFile_22
set_option maxRecDepth 100000 in
theorem mL_greatest (lL : Launch) (G : GG) (o : Nat → Nat) (ν σ : Int → Int) (π : Nat → Int → Int) (δ τ ω : Int → Int) (p : Int) (hI : In σ) (hp : -2147483648 ≤ p ∧ p < 2147483648) (hok : (kxGreat σ p) = 0) (q9 : Nat) (fq : Int → Int) (hq9 : ∀ k, k < 187 → o k ≠ q9) : Met lL yL_greatest wsL_greatest ({ frames := 8, cells := 0, slots := 0, locals := 132 } : Room) (va_Pc [.ref (o 0), .int (iI p), .ref q9] (fun U => LQ G o ν σ π δ τ ω q9 fq U.heap ∧ KK G U ∧ KX FF0 U U.heap)) (va_Qi (fun r (_ : Unit) => r = iI 0) (fun _ tZ => LQ G o ν σ π δ τ ω q9 (zu fq 0 (rI ((gfS σ p)))) tZ.heap) (fun z : Nat => Ax o 187 z ∨ z = q9)) 0 0 (fun z : Nat => Ax o 187 z ∨ z = q9) := by
  refine z_metH (P := fun H : Heap => LQ G o ν σ π δ τ ω q9 fq H) (by decide) rfl (Nat.le_of_ble_eq_true rfl) (fun pp ee ss mm below meth cC E hr hml hown hts hlocks htab hP hK hX ls hl => ?_)
  have hl : lv_has ls 4 [(0, .ref (o 0)), (1, .int (iI p)), (2, .ref q9)] := hl
  obtain ⟨hM, hA⟩ := hP
  have hcs : 0 ≤ (({ frames := 8, cells := 0, slots := 0, locals := 132 } : Room)).cells ∧ 0 ≤ (({ frames := 8, cells := 0, slots := 0, locals := 132 } : Room)).slots := ⟨Nat.le_of_ble_eq_true rfl, Nat.le_of_ble_eq_true rfl⟩
  refine lv_aload_n (pc := 0) E.1 E.2 dL_greatest_0 rfl (lv_at hl 2 rfl) ?_
  refine z_iconst (pc := 1) E dL_greatest_1 ?_
  refine lv_aload_n (pc := 2) E.1 E.2 dL_greatest_2 rfl (lv_at hl 0 rfl) ?_
  refine lv_iload_n (pc := 3) E.1 E.2 dL_greatest_3 rfl (lv_at hl 1 rfl) ?_
  have hS : va_S (fun z : Nat => Ax o 187 z ∨ z = q9) ss.heap ss.heap [] := va_S.rf
  refine z_rVi (pc := 4) (P := fun H : Heap => QT G o ν σ π δ τ ω H) (As := [.int (iI p)]) (rest := [.int (iI 0), .ref q9]) E hml hown hts (mX7_greatest lL G o ν σ π δ τ ω p hI hp hok) (cwV 1 hts gL_greatest_X7_greatest rfl rfl rfl vdX7_greatest ⟨Nat.le_of_ble_eq_true rfl, Nat.le_of_ble_eq_true rfl⟩) (hM.ob.recv hK rfl) hM hK rfl hl.1 rfl dL_greatest_4 hcs (Nat.le_of_ble_eq_true rfl) ?_
  have hM2 := hM
  refine z_i2lR (pc := 7) E dL_greatest_7 ?_
  refine z_lastore (pc := 8) E hK hA hS (Or.inr rfl) (by decide) (by decide) dL_greatest_8 (fun H locs hA hoth hS => ?_)
  refine lv_goto (pc := 9) (tgt := 18) E.1 E.2 dL_greatest_9 (by decide) ?_
  refine z_iconst (pc := 18) E dL_greatest_18 ?_
  exact z_retWi (pc := 19) (P1 := fun H : Heap => LQ G o ν σ π δ τ ω q9 (zu fq 0 (rI ((gfS σ p)))) H) E hr rfl ⟨hM2.kp (fun k hk => hoth _ (hq9 k hk)), hA⟩ hS hlocks dL_greatest_19
set_option maxRecDepth 100000 in
theorem mL_used (lL : Launch) (G : GG) (o : Nat → Nat) (ν σ : Int → Int) (π : Nat → Int → Int) (δ τ ω : Int → Int) (p : Int) (k : Int) (hI : In σ) (hp : -2147483648 ≤ p ∧ p < 2147483648) (hk : -2147483648 ≤ k ∧ k < 2147483648) (hok : (kxPK p k) = 0) (q9 : Nat) (fq : Int → Int) (hq9 : ∀ k, k < 187 → o k ≠ q9) : Met lL yL_used wsL_used ({ frames := 8, cells := 0, slots := 0, locals := 85 } : Room) (va_Pc [.ref (o 0), .int (iI p), .int (iI k), .ref q9] (fun U => LQ G o ν σ π δ τ ω q9 fq U.heap ∧ KK G U ∧ KX FF0 U U.heap)) (va_Qi (fun r (_ : Unit) => r = iI 0) (fun _ tZ => LQ G o ν σ π δ τ ω q9 (zu fq 0 (rI ((σ (37 + (2 * p + k)))))) tZ.heap) (fun z : Nat => Ax o 187 z ∨ z = q9)) 0 0 (fun z : Nat => Ax o 187 z ∨ z = q9) := by
  refine z_metH (P := fun H : Heap => LQ G o ν σ π δ τ ω q9 fq H) (by decide) rfl (Nat.le_of_ble_eq_true rfl) (fun pp ee ss mm below meth cC E hr hml hown hts hlocks htab hP hK hX ls hl => ?_)
  have hl : lv_has ls 5 [(0, .ref (o 0)), (1, .int (iI p)), (2, .int (iI k)), (3, .ref q9)] := hl
  obtain ⟨hM, hA⟩ := hP
  have hcs : 0 ≤ (({ frames := 8, cells := 0, slots := 0, locals := 85 } : Room)).cells ∧ 0 ≤ (({ frames := 8, cells := 0, slots := 0, locals := 85 } : Room)).slots := ⟨Nat.le_of_ble_eq_true rfl, Nat.le_of_ble_eq_true rfl⟩
  refine lv_aload_n (pc := 0) E.1 E.2 dL_used_0 rfl (lv_at hl 3 rfl) ?_
  refine z_iconst (pc := 1) E dL_used_1 ?_
  refine lv_aload_n (pc := 2) E.1 E.2 dL_used_2 rfl (lv_at hl 0 rfl) ?_
  refine lv_iload_n (pc := 3) E.1 E.2 dL_used_3 rfl (lv_at hl 1 rfl) ?_
  refine lv_iload_n (pc := 4) E.1 E.2 dL_used_4 rfl (lv_at hl 2 rfl) ?_
  have hS : va_S (fun z : Nat => Ax o 187 z ∨ z = q9) ss.heap ss.heap [] := va_S.rf
  refine z_rVi (pc := 5) (P := fun H : Heap => QT G o ν σ π δ τ ω H) (As := [.int (iI p), .int (iI k)]) (rest := [.int (iI 0), .ref q9]) E hml hown hts (mX7_used lL G o ν σ π δ τ ω p k hI hp hk hok) (cwV 2 hts gL_used_X7_used rfl rfl rfl vdX7_used ⟨Nat.le_of_ble_eq_true rfl, Nat.le_of_ble_eq_true rfl⟩) (hM.ob.recv hK rfl) hM hK rfl hl.1 rfl dL_used_5 hcs (Nat.le_of_ble_eq_true rfl) ?_
  have hM2 := hM
  refine z_i2lR (pc := 8) E dL_used_8 ?_
  refine z_lastore (pc := 9) E hK hA hS (Or.inr rfl) (by decide) (by decide) dL_used_9 (fun H locs hA hoth hS => ?_)
  refine lv_goto (pc := 10) (tgt := 17) E.1 E.2 dL_used_10 (by decide) ?_
  refine z_iconst (pc := 17) E dL_used_17 ?_
  exact z_retWi (pc := 18) (P1 := fun H : Heap => LQ G o ν σ π δ τ ω q9 (zu fq 0 (rI ((σ (37 + (2 * p + k)))))) H) E hr rfl ⟨hM2.kp (fun k hk => hoth _ (hq9 k hk)), hA⟩ hS hlocks dL_used_18
set_option maxRecDepth 100000 in
theorem mL_counted (lL : Launch) (G : GG) (o : Nat → Nat) (ν σ : Int → Int) (π : Nat → Int → Int) (δ τ ω : Int → Int) (p : Int) (k : Int) (hI : In σ) (hp : -2147483648 ≤ p ∧ p < 2147483648) (hk : -2147483648 ≤ k ∧ k < 2147483648) (hok : (kxPK p k) = 0) (q9 : Nat) (fq : Int → Int) (hq9 : ∀ k, k < 187 → o k ≠ q9) : Met lL yL_counted wsL_counted ({ frames := 8, cells := 0, slots := 0, locals := 132 } : Room) (va_Pc [.ref (o 0), .int (iI p), .int (iI k), .ref q9] (fun U => LQ G o ν σ π δ τ ω q9 fq U.heap ∧ KK G U ∧ KX FF0 U U.heap)) (va_Qi (fun r (_ : Unit) => r = iI 0) (fun _ tZ => LQ G o ν σ π δ τ ω q9 (zu fq 0 (rI ((coS σ p k)))) tZ.heap) (fun z : Nat => Ax o 187 z ∨ z = q9)) 0 0 (fun z : Nat => Ax o 187 z ∨ z = q9) := by
  refine z_metH (P := fun H : Heap => LQ G o ν σ π δ τ ω q9 fq H) (by decide) rfl (Nat.le_of_ble_eq_true rfl) (fun pp ee ss mm below meth cC E hr hml hown hts hlocks htab hP hK hX ls hl => ?_)
  have hl : lv_has ls 5 [(0, .ref (o 0)), (1, .int (iI p)), (2, .int (iI k)), (3, .ref q9)] := hl
  obtain ⟨hM, hA⟩ := hP
  have hcs : 0 ≤ (({ frames := 8, cells := 0, slots := 0, locals := 132 } : Room)).cells ∧ 0 ≤ (({ frames := 8, cells := 0, slots := 0, locals := 132 } : Room)).slots := ⟨Nat.le_of_ble_eq_true rfl, Nat.le_of_ble_eq_true rfl⟩
  refine lv_aload_n (pc := 0) E.1 E.2 dL_counted_0 rfl (lv_at hl 3 rfl) ?_
  refine z_iconst (pc := 1) E dL_counted_1 ?_
  refine lv_aload_n (pc := 2) E.1 E.2 dL_counted_2 rfl (lv_at hl 0 rfl) ?_
  refine lv_iload_n (pc := 3) E.1 E.2 dL_counted_3 rfl (lv_at hl 1 rfl) ?_
  refine lv_iload_n (pc := 4) E.1 E.2 dL_counted_4 rfl (lv_at hl 2 rfl) ?_
  have hS : va_S (fun z : Nat => Ax o 187 z ∨ z = q9) ss.heap ss.heap [] := va_S.rf
  refine z_rVi (pc := 5) (P := fun H : Heap => QT G o ν σ π δ τ ω H) (As := [.int (iI p), .int (iI k)]) (rest := [.int (iI 0), .ref q9]) E hml hown hts (mX7_counted lL G o ν σ π δ τ ω p k hI hp hk hok) (cwV 2 hts gL_counted_X7_counted rfl rfl rfl vdX7_counted ⟨Nat.le_of_ble_eq_true rfl, Nat.le_of_ble_eq_true rfl⟩) (hM.ob.recv hK rfl) hM hK rfl hl.1 rfl dL_counted_5 hcs (Nat.le_of_ble_eq_true rfl) ?_
  have hM2 := hM
  refine z_i2lR (pc := 8) E dL_counted_8 ?_
  refine z_lastore (pc := 9) E hK hA hS (Or.inr rfl) (by decide) (by decide) dL_counted_9 (fun H locs hA hoth hS => ?_)
  refine lv_goto (pc := 10) (tgt := 17) E.1 E.2 dL_counted_10 (by decide) ?_
  refine z_iconst (pc := 17) E dL_counted_17 ?_
  exact z_retWi (pc := 18) (P1 := fun H : Heap => LQ G o ν σ π δ τ ω q9 (zu fq 0 (rI ((coS σ p k)))) H) E hr rfl ⟨hM2.kp (fun k hk => hoth _ (hq9 k hk)), hA⟩ hS hlocks dL_counted_18
set_option maxRecDepth 100000 in
theorem mL_limit (lL : Launch) (G : GG) (o : Nat → Nat) (ν σ : Int → Int) (π : Nat → Int → Int) (δ τ ω : Int → Int) (p : Int) (k : Int) (h : Int) (hI : In σ) (hp : -2147483648 ≤ p ∧ p < 2147483648) (hk : -2147483648 ≤ k ∧ k < 2147483648) (hh : h = 0 ∨ h = 1) (hok : (kxPK p k) = 0) (q9 : Nat) (fq : Int → Int) (hq9 : ∀ k, k < 187 → o k ≠ q9) : Met lL yL_limit wsL_limit ({ frames := 8, cells := 0, slots := 0, locals := 88 } : Room) (va_Pc [.ref (o 0), .int (iI p), .int (iI k), .int (iI h), .ref q9] (fun U => LQ G o ν σ π δ τ ω q9 fq U.heap ∧ KK G U ∧ KX FF0 U U.heap)) (va_Qi (fun r (_ : Unit) => r = iI 0) (fun _ tZ => LQ G o ν σ π δ τ ω q9 (zu fq 0 (rI ((lmS σ (if h = 0 then 5 else 21) p k)))) tZ.heap) (fun z : Nat => Ax o 187 z ∨ z = q9)) 0 0 (fun z : Nat => Ax o 187 z ∨ z = q9) := by
  refine z_metH (P := fun H : Heap => LQ G o ν σ π δ τ ω q9 fq H) (by decide) rfl (Nat.le_of_ble_eq_true rfl) (fun pp ee ss mm below meth cC E hr hml hown hts hlocks htab hP hK hX ls hl => ?_)
  have hl : lv_has ls 6 [(0, .ref (o 0)), (1, .int (iI p)), (2, .int (iI k)), (3, .int (iI h)), (4, .ref q9)] := hl
  obtain ⟨hM, hA⟩ := hP
  have hcs : 0 ≤ (({ frames := 8, cells := 0, slots := 0, locals := 88 } : Room)).cells ∧ 0 ≤ (({ frames := 8, cells := 0, slots := 0, locals := 88 } : Room)).slots := ⟨Nat.le_of_ble_eq_true rfl, Nat.le_of_ble_eq_true rfl⟩
  refine lv_aload (pc := 0) E.1 E.2 dL_limit_0 (lv_at hl 4 rfl) ?_
  refine z_iconst (pc := 2) E dL_limit_2 ?_
  refine lv_aload_n (pc := 3) E.1 E.2 dL_limit_3 rfl (lv_at hl 0 rfl) ?_
  refine lv_iload_n (pc := 4) E.1 E.2 dL_limit_4 rfl (lv_at hl 1 rfl) ?_
  refine lv_iload_n (pc := 5) E.1 E.2 dL_limit_5 rfl (lv_at hl 2 rfl) ?_
  refine lv_iload_n (pc := 6) E.1 E.2 dL_limit_6 rfl (lv_at hl 3 rfl) ?_
  have hS : va_S (fun z : Nat => Ax o 187 z ∨ z = q9) ss.heap ss.heap [] := va_S.rf
  refine z_rVi (pc := 7) (P := fun H : Heap => QT G o ν σ π δ τ ω H) (As := [.int (iI p), .int (iI k), .int (iI h)]) (rest := [.int (iI 0), .ref q9]) E hml hown hts (mX7_limit lL G o ν σ π δ τ ω p k h hI hp hk hh hok) (cwV 3 hts gL_limit_X7_limit rfl rfl rfl vdX7_limit ⟨Nat.le_of_ble_eq_true rfl, Nat.le_of_ble_eq_true rfl⟩) (hM.ob.recv hK rfl) hM hK rfl hl.1 rfl dL_limit_7 hcs (Nat.le_of_ble_eq_true rfl) ?_
  have hM2 := hM
  refine z_i2lR (pc := 10) E dL_limit_10 ?_
  refine z_lastore (pc := 11) E hK hA hS (Or.inr rfl) (by decide) (by decide) dL_limit_11 (fun H locs hA hoth hS => ?_)
  refine lv_goto (pc := 12) (tgt := 19) E.1 E.2 dL_limit_12 (by decide) ?_
  refine z_iconst (pc := 19) E dL_limit_19 ?_
  exact z_retWi (pc := 20) (P1 := fun H : Heap => LQ G o ν σ π δ τ ω q9 (zu fq 0 (rI ((lmS σ (if h = 0 then 5 else 21) p k)))) H) E hr rfl ⟨hM2.kp (fun k hk => hoth _ (hq9 k hk)), hA⟩ hS hlocks dL_limit_20
set_option maxRecDepth 100000 in
theorem mL_setLimit (lL : Launch) (G : GG) (o : Nat → Nat) (ν σ : Int → Int) (π : Nat → Int → Int) (δ τ ω : Int → Int) (p : Int) (k : Int) (s : Int) (h : Int) (hI : In σ) (hp : -2147483648 ≤ p ∧ p < 2147483648) (hk : -2147483648 ≤ k ∧ k < 2147483648) (hs : -2147483648 ≤ s ∧ s < 2147483648) (hh : -2147483648 ≤ h ∧ h < 2147483648) (hok : (kxSetL σ p k s h) = 0) (hc : 0 ≤ ν 2 ∧ ν 2 ≤ 1000000) (hu : 0 ≤ ν 3 ∧ ν 3 ≤ 8) (q9 : Nat) (fq : Int → Int) (hq9 : ∀ k, k < 187 → o k ≠ q9) : Met lL yL_setLimit wsL_setLimit ({ frames := 8, cells := 0, slots := 0, locals := 177 } : Room) (va_Pc [.ref (o 0), .int (iI p), .int (iI k), .int (iI s), .int (iI h), .ref q9] (fun U => LQ G o ν σ π δ τ ω q9 fq U.heap ∧ KK G U ∧ KX FF0 U U.heap)) (va_Qi (fun r (_ : Unit) => r = iI 0) (fun _ tZ => LQ G o (zu (zu ν 2 (ν 2 + 1)) 3 (min (ν 3 + 1) 8)) (nxSetL σ p k s h) (pU π (ν 2 % 8) σ) δ τ ω q9 (zu fq 0 (rI ((stS (nxSetL σ p k s h) p k)))) tZ.heap) (fun z : Nat => Ax o 187 z ∨ z = q9)) 0 0 (fun z : Nat => Ax o 187 z ∨ z = q9) := by
  refine z_metH (P := fun H : Heap => LQ G o ν σ π δ τ ω q9 fq H) (by decide) rfl (Nat.le_of_ble_eq_true rfl) (fun pp ee ss mm below meth cC E hr hml hown hts hlocks htab hP hK hX ls hl => ?_)
  have hl : lv_has ls 7 [(0, .ref (o 0)), (1, .int (iI p)), (2, .int (iI k)), (3, .int (iI s)), (4, .int (iI h)), (5, .ref q9)] := hl
  obtain ⟨hM, hA⟩ := hP
  have hcs : 0 ≤ (({ frames := 8, cells := 0, slots := 0, locals := 177 } : Room)).cells ∧ 0 ≤ (({ frames := 8, cells := 0, slots := 0, locals := 177 } : Room)).slots := ⟨Nat.le_of_ble_eq_true rfl, Nat.le_of_ble_eq_true rfl⟩
  refine lv_aload (pc := 0) E.1 E.2 dL_setLimit_0 (lv_at hl 5 rfl) ?_
  refine z_iconst (pc := 2) E dL_setLimit_2 ?_
  refine lv_aload_n (pc := 3) E.1 E.2 dL_setLimit_3 rfl (lv_at hl 0 rfl) ?_
  refine lv_iload_n (pc := 4) E.1 E.2 dL_setLimit_4 rfl (lv_at hl 1 rfl) ?_
  refine lv_iload_n (pc := 5) E.1 E.2 dL_setLimit_5 rfl (lv_at hl 2 rfl) ?_
  refine lv_iload_n (pc := 6) E.1 E.2 dL_setLimit_6 rfl (lv_at hl 3 rfl) ?_
  refine lv_iload (pc := 7) E.1 E.2 dL_setLimit_7 (lv_at hl 4 rfl) ?_
  have hS : va_S (fun z : Nat => Ax o 187 z ∨ z = q9) ss.heap ss.heap [] := va_S.rf
  refine z_wVi (pc := 9) (P := fun H : Heap => QT G o ν σ π δ τ ω H) (P1 := fun H : Heap => QT G o (zu (zu ν 2 (ν 2 + 1)) 3 (min (ν 3 + 1) 8)) (nxSetL σ p k s h) (pU π (ν 2 % 8) σ) δ τ ω H) (As := [.int (iI p), .int (iI k), .int (iI s), .int (iI h)]) (rest := [.int (iI 0), .ref q9]) E hml hown hts (mX7_setLimit lL G o ν σ π δ τ ω p k s h hI hp hk hs hh hok hc hu) (cwV 4 hts gL_setLimit_X7_setLimit rfl rfl rfl vdX7_setLimit ⟨Nat.le_of_ble_eq_true rfl, Nat.le_of_ble_eq_true rfl⟩) (hM.ob.recv hK rfl) hM hK hS (fun z h => Or.inl h) rfl hl.1 rfl dL_setLimit_9 hcs (Nat.le_of_ble_eq_true rfl) (fun H locs hM2 hsz hoth hS => ?_)
  have hA := hA.kp (hoth _ hA.lt (fun h => Exists.elim h fun k hk => hq9 k hk.1 hk.2.symm))
  refine z_i2lR (pc := 12) E dL_setLimit_12 ?_
  refine z_lastore (pc := 13) E hK hA hS (Or.inr rfl) (by decide) (by decide) dL_setLimit_13 (fun H locs hA hoth hS => ?_)
  refine lv_goto (pc := 14) (tgt := 25) E.1 E.2 dL_setLimit_14 (by decide) ?_
  refine z_iconst (pc := 25) E dL_setLimit_25 ?_
  exact z_retWi (pc := 26) (P1 := fun H : Heap => LQ G o (zu (zu ν 2 (ν 2 + 1)) 3 (min (ν 3 + 1) 8)) (nxSetL σ p k s h) (pU π (ν 2 % 8) σ) δ τ ω q9 (zu fq 0 (rI ((stS (nxSetL σ p k s h) p k)))) H) E hr rfl ⟨hM2.kp (fun k hk => hoth _ (hq9 k hk)), hA⟩ hS hlocks dL_setLimit_26
set_option maxRecDepth 100000 in
theorem mL_state (lL : Launch) (G : GG) (o : Nat → Nat) (ν σ : Int → Int) (π : Nat → Int → Int) (δ τ ω : Int → Int) (p : Int) (k : Int) (hI : In σ) (hp : -2147483648 ≤ p ∧ p < 2147483648) (hk : -2147483648 ≤ k ∧ k < 2147483648) (hok : (kxPK p k) = 0) (q9 : Nat) (fq : Int → Int) (hq9 : ∀ k, k < 187 → o k ≠ q9) : Met lL yL_state wsL_state ({ frames := 8, cells := 0, slots := 0, locals := 134 } : Room) (va_Pc [.ref (o 0), .int (iI p), .int (iI k), .ref q9] (fun U => LQ G o ν σ π δ τ ω q9 fq U.heap ∧ KK G U ∧ KX FF0 U U.heap)) (va_Qi (fun r (_ : Unit) => r = iI 0) (fun _ tZ => LQ G o ν σ π δ τ ω q9 (zu fq 0 (rI ((stS σ p k)))) tZ.heap) (fun z : Nat => Ax o 187 z ∨ z = q9)) 0 0 (fun z : Nat => Ax o 187 z ∨ z = q9) := by
  refine z_metH (P := fun H : Heap => LQ G o ν σ π δ τ ω q9 fq H) (by decide) rfl (Nat.le_of_ble_eq_true rfl) (fun pp ee ss mm below meth cC E hr hml hown hts hlocks htab hP hK hX ls hl => ?_)
  have hl : lv_has ls 5 [(0, .ref (o 0)), (1, .int (iI p)), (2, .int (iI k)), (3, .ref q9)] := hl
  obtain ⟨hM, hA⟩ := hP
  have hcs : 0 ≤ (({ frames := 8, cells := 0, slots := 0, locals := 134 } : Room)).cells ∧ 0 ≤ (({ frames := 8, cells := 0, slots := 0, locals := 134 } : Room)).slots := ⟨Nat.le_of_ble_eq_true rfl, Nat.le_of_ble_eq_true rfl⟩
  refine lv_aload_n (pc := 0) E.1 E.2 dL_state_0 rfl (lv_at hl 3 rfl) ?_
  refine z_iconst (pc := 1) E dL_state_1 ?_
  refine lv_aload_n (pc := 2) E.1 E.2 dL_state_2 rfl (lv_at hl 0 rfl) ?_
  refine lv_iload_n (pc := 3) E.1 E.2 dL_state_3 rfl (lv_at hl 1 rfl) ?_
  refine lv_iload_n (pc := 4) E.1 E.2 dL_state_4 rfl (lv_at hl 2 rfl) ?_
  have hS : va_S (fun z : Nat => Ax o 187 z ∨ z = q9) ss.heap ss.heap [] := va_S.rf
  refine z_rVi (pc := 5) (P := fun H : Heap => QT G o ν σ π δ τ ω H) (As := [.int (iI p), .int (iI k)]) (rest := [.int (iI 0), .ref q9]) E hml hown hts (mX7_state lL G o ν σ π δ τ ω p k hI hp hk hok) (cwV 2 hts gL_state_X7_state rfl rfl rfl vdX7_state ⟨Nat.le_of_ble_eq_true rfl, Nat.le_of_ble_eq_true rfl⟩) (hM.ob.recv hK rfl) hM hK rfl hl.1 rfl dL_state_5 hcs (Nat.le_of_ble_eq_true rfl) ?_
  have hM2 := hM
  refine z_i2lR (pc := 8) E dL_state_8 ?_
  refine z_lastore (pc := 9) E hK hA hS (Or.inr rfl) (by decide) (by decide) dL_state_9 (fun H locs hA hoth hS => ?_)
  refine lv_goto (pc := 10) (tgt := 17) E.1 E.2 dL_state_10 (by decide) ?_
  refine z_iconst (pc := 17) E dL_state_17 ?_
  exact z_retWi (pc := 18) (P1 := fun H : Heap => LQ G o ν σ π δ τ ω q9 (zu fq 0 (rI ((stS σ p k)))) H) E hr rfl ⟨hM2.kp (fun k hk => hoth _ (hq9 k hk)), hA⟩ hS hlocks dL_state_18
set_option maxRecDepth 100000 in
theorem mL_graceLeft (lL : Launch) (G : GG) (o : Nat → Nat) (ν σ : Int → Int) (π : Nat → Int → Int) (δ τ ω : Int → Int) (p : Int) (k : Int) (hI : In σ) (hp : -2147483648 ≤ p ∧ p < 2147483648) (hk : -2147483648 ≤ k ∧ k < 2147483648) (hok : (kxPK p k) = 0) (q9 : Nat) (fq : Int → Int) (hq9 : ∀ k, k < 187 → o k ≠ q9) : Met lL yL_graceLeft wsL_graceLeft ({ frames := 8, cells := 0, slots := 0, locals := 86 } : Room) (va_Pc [.ref (o 0), .int (iI p), .int (iI k), .ref q9] (fun U => LQ G o ν σ π δ τ ω q9 fq U.heap ∧ KK G U ∧ KX FF0 U U.heap)) (va_Qi (fun r (_ : Unit) => r = iI 0) (fun _ tZ => LQ G o ν σ π δ τ ω q9 (zu fq 0 (rI ((axGrace σ p k)))) tZ.heap) (fun z : Nat => Ax o 187 z ∨ z = q9)) 0 0 (fun z : Nat => Ax o 187 z ∨ z = q9) := by
  refine z_metH (P := fun H : Heap => LQ G o ν σ π δ τ ω q9 fq H) (by decide) rfl (Nat.le_of_ble_eq_true rfl) (fun pp ee ss mm below meth cC E hr hml hown hts hlocks htab hP hK hX ls hl => ?_)
  have hl : lv_has ls 5 [(0, .ref (o 0)), (1, .int (iI p)), (2, .int (iI k)), (3, .ref q9)] := hl
  obtain ⟨hM, hA⟩ := hP
  have hcs : 0 ≤ (({ frames := 8, cells := 0, slots := 0, locals := 86 } : Room)).cells ∧ 0 ≤ (({ frames := 8, cells := 0, slots := 0, locals := 86 } : Room)).slots := ⟨Nat.le_of_ble_eq_true rfl, Nat.le_of_ble_eq_true rfl⟩
  refine lv_aload_n (pc := 0) E.1 E.2 dL_graceLeft_0 rfl (lv_at hl 3 rfl) ?_
  refine z_iconst (pc := 1) E dL_graceLeft_1 ?_
  refine lv_aload_n (pc := 2) E.1 E.2 dL_graceLeft_2 rfl (lv_at hl 0 rfl) ?_
  refine lv_iload_n (pc := 3) E.1 E.2 dL_graceLeft_3 rfl (lv_at hl 1 rfl) ?_
  refine lv_iload_n (pc := 4) E.1 E.2 dL_graceLeft_4 rfl (lv_at hl 2 rfl) ?_
  have hS : va_S (fun z : Nat => Ax o 187 z ∨ z = q9) ss.heap ss.heap [] := va_S.rf
  refine z_rVi (pc := 5) (P := fun H : Heap => QT G o ν σ π δ τ ω H) (As := [.int (iI p), .int (iI k)]) (rest := [.int (iI 0), .ref q9]) E hml hown hts (mX7_graceLeft lL G o ν σ π δ τ ω p k hI hp hk hok) (cwV 2 hts gL_graceLeft_X7_graceLeft rfl rfl rfl vdX7_graceLeft ⟨Nat.le_of_ble_eq_true rfl, Nat.le_of_ble_eq_true rfl⟩) (hM.ob.recv hK rfl) hM hK rfl hl.1 rfl dL_graceLeft_5 hcs (Nat.le_of_ble_eq_true rfl) ?_
  have hM2 := hM
  refine z_i2lR (pc := 8) E dL_graceLeft_8 ?_
  refine z_lastore (pc := 9) E hK hA hS (Or.inr rfl) (by decide) (by decide) dL_graceLeft_9 (fun H locs hA hoth hS => ?_)
  refine lv_goto (pc := 10) (tgt := 17) E.1 E.2 dL_graceLeft_10 (by decide) ?_
  refine z_iconst (pc := 17) E dL_graceLeft_17 ?_
  exact z_retWi (pc := 18) (P1 := fun H : Heap => LQ G o ν σ π δ τ ω q9 (zu fq 0 (rI ((axGrace σ p k)))) H) E hr rfl ⟨hM2.kp (fun k hk => hoth _ (hq9 k hk)), hA⟩ hS hlocks dL_graceLeft_18
set_option maxRecDepth 100000 in
theorem mL_setGrace (lL : Launch) (G : GG) (o : Nat → Nat) (ν σ : Int → Int) (π : Nat → Int → Int) (δ τ ω : Int → Int) (g : Int) (hI : In σ) (hg : -2147483648 ≤ g ∧ g < 2147483648) (hok : (kxSetG g) = 0) (hc : 0 ≤ ν 2 ∧ ν 2 ≤ 1000000) (hu : 0 ≤ ν 3 ∧ ν 3 ≤ 8) (q9 : Nat) (fq : Int → Int) (hq9 : ∀ k, k < 187 → o k ≠ q9) : Met lL yL_setGrace wsL_setGrace ({ frames := 8, cells := 0, slots := 0, locals := 175 } : Room) (va_Pc [.ref (o 0), .int (iI g), .ref q9] (fun U => LQ G o ν σ π δ τ ω q9 fq U.heap ∧ KK G U ∧ KX FF0 U U.heap)) (va_Qi (fun r (_ : Unit) => r = iI 0) (fun _ tZ => LQ G o (zu (zu ν 2 (ν 2 + 1)) 3 (min (ν 3 + 1) 8)) (nxSetG σ g) (pU π (ν 2 % 8) σ) δ τ ω q9 (zu fq 0 (rI ((σ 1)))) tZ.heap) (fun z : Nat => Ax o 187 z ∨ z = q9)) 0 0 (fun z : Nat => Ax o 187 z ∨ z = q9) := by
  refine z_metH (P := fun H : Heap => LQ G o ν σ π δ τ ω q9 fq H) (by decide) rfl (Nat.le_of_ble_eq_true rfl) (fun pp ee ss mm below meth cC E hr hml hown hts hlocks htab hP hK hX ls hl => ?_)
  have hl : lv_has ls 4 [(0, .ref (o 0)), (1, .int (iI g)), (2, .ref q9)] := hl
  obtain ⟨hM, hA⟩ := hP
  have hcs : 0 ≤ (({ frames := 8, cells := 0, slots := 0, locals := 175 } : Room)).cells ∧ 0 ≤ (({ frames := 8, cells := 0, slots := 0, locals := 175 } : Room)).slots := ⟨Nat.le_of_ble_eq_true rfl, Nat.le_of_ble_eq_true rfl⟩
  refine lv_aload_n (pc := 0) E.1 E.2 dL_setGrace_0 rfl (lv_at hl 2 rfl) ?_
  refine z_iconst (pc := 1) E dL_setGrace_1 ?_
  refine lv_aload_n (pc := 2) E.1 E.2 dL_setGrace_2 rfl (lv_at hl 0 rfl) ?_
  refine lv_iload_n (pc := 3) E.1 E.2 dL_setGrace_3 rfl (lv_at hl 1 rfl) ?_
  have hS : va_S (fun z : Nat => Ax o 187 z ∨ z = q9) ss.heap ss.heap [] := va_S.rf
  refine z_wVi (pc := 4) (P := fun H : Heap => QT G o ν σ π δ τ ω H) (P1 := fun H : Heap => QT G o (zu (zu ν 2 (ν 2 + 1)) 3 (min (ν 3 + 1) 8)) (nxSetG σ g) (pU π (ν 2 % 8) σ) δ τ ω H) (As := [.int (iI g)]) (rest := [.int (iI 0), .ref q9]) E hml hown hts (mX7_setGrace lL G o ν σ π δ τ ω g hI hg hok hc hu) (cwV 1 hts gL_setGrace_X7_setGrace rfl rfl rfl vdX7_setGrace ⟨Nat.le_of_ble_eq_true rfl, Nat.le_of_ble_eq_true rfl⟩) (hM.ob.recv hK rfl) hM hK hS (fun z h => Or.inl h) rfl hl.1 rfl dL_setGrace_4 hcs (Nat.le_of_ble_eq_true rfl) (fun H locs hM2 hsz hoth hS => ?_)
  have hA := hA.kp (hoth _ hA.lt (fun h => Exists.elim h fun k hk => hq9 k hk.1 hk.2.symm))
  refine z_i2lR (pc := 7) E dL_setGrace_7 ?_
  refine z_lastore (pc := 8) E hK hA hS (Or.inr rfl) (by decide) (by decide) dL_setGrace_8 (fun H locs hA hoth hS => ?_)
  refine lv_goto (pc := 9) (tgt := 15) E.1 E.2 dL_setGrace_9 (by decide) ?_
  refine z_iconst (pc := 15) E dL_setGrace_15 ?_
  exact z_retWi (pc := 16) (P1 := fun H : Heap => LQ G o (zu (zu ν 2 (ν 2 + 1)) 3 (min (ν 3 + 1) 8)) (nxSetG σ g) (pU π (ν 2 % 8) σ) δ τ ω q9 (zu fq 0 (rI ((σ 1)))) H) E hr rfl ⟨hM2.kp (fun k hk => hoth _ (hq9 k hk)), hA⟩ hS hlocks dL_setGrace_16
set_option maxRecDepth 100000 in
theorem mL_tick (lL : Launch) (G : GG) (o : Nat → Nat) (ν σ : Int → Int) (π : Nat → Int → Int) (δ τ ω : Int → Int) (t : Int) (hI : In σ) (ht : -2147483648 ≤ t ∧ t < 2147483648) (hok : (kxTick σ t) = 0) (hc : 0 ≤ ν 2 ∧ ν 2 ≤ 1000000) (hu : 0 ≤ ν 3 ∧ ν 3 ≤ 8) (q9 : Nat) (fq : Int → Int) (hq9 : ∀ k, k < 187 → o k ≠ q9) : Met lL yL_tick wsL_tick ({ frames := 8, cells := 0, slots := 0, locals := 175 } : Room) (va_Pc [.ref (o 0), .int (iI t), .ref q9] (fun U => LQ G o ν σ π δ τ ω q9 fq U.heap ∧ KK G U ∧ KX FF0 U U.heap)) (va_Qi (fun r (_ : Unit) => r = iI 0) (fun _ tZ => LQ G o (zu (zu ν 2 (ν 2 + 1)) 3 (min (ν 3 + 1) 8)) (nxTick σ t) (pU π (ν 2 % 8) σ) δ τ ω q9 (zu fq 0 (rI ((σ 4 - tkA σ t 4)))) tZ.heap) (fun z : Nat => Ax o 187 z ∨ z = q9)) 0 0 (fun z : Nat => Ax o 187 z ∨ z = q9) := by
  refine z_metH (P := fun H : Heap => LQ G o ν σ π δ τ ω q9 fq H) (by decide) rfl (Nat.le_of_ble_eq_true rfl) (fun pp ee ss mm below meth cC E hr hml hown hts hlocks htab hP hK hX ls hl => ?_)
  have hl : lv_has ls 4 [(0, .ref (o 0)), (1, .int (iI t)), (2, .ref q9)] := hl
  obtain ⟨hM, hA⟩ := hP
  have hcs : 0 ≤ (({ frames := 8, cells := 0, slots := 0, locals := 175 } : Room)).cells ∧ 0 ≤ (({ frames := 8, cells := 0, slots := 0, locals := 175 } : Room)).slots := ⟨Nat.le_of_ble_eq_true rfl, Nat.le_of_ble_eq_true rfl⟩
  refine lv_aload_n (pc := 0) E.1 E.2 dL_tick_0 rfl (lv_at hl 2 rfl) ?_
  refine z_iconst (pc := 1) E dL_tick_1 ?_
  refine lv_aload_n (pc := 2) E.1 E.2 dL_tick_2 rfl (lv_at hl 0 rfl) ?_
  refine lv_iload_n (pc := 3) E.1 E.2 dL_tick_3 rfl (lv_at hl 1 rfl) ?_
  have hS : va_S (fun z : Nat => Ax o 187 z ∨ z = q9) ss.heap ss.heap [] := va_S.rf
  refine z_wVi (pc := 4) (P := fun H : Heap => QT G o ν σ π δ τ ω H) (P1 := fun H : Heap => QT G o (zu (zu ν 2 (ν 2 + 1)) 3 (min (ν 3 + 1) 8)) (nxTick σ t) (pU π (ν 2 % 8) σ) δ τ ω H) (As := [.int (iI t)]) (rest := [.int (iI 0), .ref q9]) E hml hown hts (mX7_tick lL G o ν σ π δ τ ω t hI ht hok hc hu) (cwV 1 hts gL_tick_X7_tick rfl rfl rfl vdX7_tick ⟨Nat.le_of_ble_eq_true rfl, Nat.le_of_ble_eq_true rfl⟩) (hM.ob.recv hK rfl) hM hK hS (fun z h => Or.inl h) rfl hl.1 rfl dL_tick_4 hcs (Nat.le_of_ble_eq_true rfl) (fun H locs hM2 hsz hoth hS => ?_)
  have hA := hA.kp (hoth _ hA.lt (fun h => Exists.elim h fun k hk => hq9 k hk.1 hk.2.symm))
  refine z_i2lR (pc := 7) E dL_tick_7 ?_
  refine z_lastore (pc := 8) E hK hA hS (Or.inr rfl) (by decide) (by decide) dL_tick_8 (fun H locs hA hoth hS => ?_)
  refine lv_goto (pc := 9) (tgt := 18) E.1 E.2 dL_tick_9 (by decide) ?_
  refine z_iconst (pc := 18) E dL_tick_18 ?_
  exact z_retWi (pc := 19) (P1 := fun H : Heap => LQ G o (zu (zu ν 2 (ν 2 + 1)) 3 (min (ν 3 + 1) 8)) (nxTick σ t) (pU π (ν 2 % 8) σ) δ τ ω q9 (zu fq 0 (rI ((σ 4 - tkA σ t 4)))) H) E hr rfl ⟨hM2.kp (fun k hk => hoth _ (hq9 k hk)), hA⟩ hS hlocks dL_tick_19
set_option maxRecDepth 100000 in
theorem mL_gift (lL : Launch) (G : GG) (o : Nat → Nat) (ν σ : Int → Int) (π : Nat → Int → Int) (δ τ ω : Int → Int) (a : Int) (t : Int) (b : Int) (d : Int) (hI : In σ) (ha : -2147483648 ≤ a ∧ a < 2147483648) (ht : -2147483648 ≤ t ∧ t < 2147483648) (hb : -2147483648 ≤ b ∧ b < 2147483648) (hd : -2147483648 ≤ d ∧ d < 2147483648) (hok : (kxGift σ a t b d) = 0) (hc : 0 ≤ ν 2 ∧ ν 2 ≤ 1000000) (hu : 0 ≤ ν 3 ∧ ν 3 ≤ 8) (q9 : Nat) (fq : Int → Int) (hq9 : ∀ k, k < 187 → o k ≠ q9) : Met lL yL_gift wsL_gift ({ frames := 8, cells := 0, slots := 0, locals := 177 } : Room) (va_Pc [.ref (o 0), .int (iI a), .int (iI t), .int (iI b), .int (iI d), .ref q9] (fun U => LQ G o ν σ π δ τ ω q9 fq U.heap ∧ KK G U ∧ KX FF0 U U.heap)) (va_Qi (fun r (_ : Unit) => r = iI 0) (fun _ tZ => LQ G o (zu (zu ν 2 (ν 2 + 1)) 3 (min (ν 3 + 1) 8)) (nxGift σ a t b d) (pU π (ν 2 % 8) σ) δ τ ω q9 (zu fq 0 (rI ((σ 4)))) tZ.heap) (fun z : Nat => Ax o 187 z ∨ z = q9)) 0 0 (fun z : Nat => Ax o 187 z ∨ z = q9) := by
  refine z_metH (P := fun H : Heap => LQ G o ν σ π δ τ ω q9 fq H) (by decide) rfl (Nat.le_of_ble_eq_true rfl) (fun pp ee ss mm below meth cC E hr hml hown hts hlocks htab hP hK hX ls hl => ?_)
  have hl : lv_has ls 7 [(0, .ref (o 0)), (1, .int (iI a)), (2, .int (iI t)), (3, .int (iI b)), (4, .int (iI d)), (5, .ref q9)] := hl
  obtain ⟨hM, hA⟩ := hP
  have hcs : 0 ≤ (({ frames := 8, cells := 0, slots := 0, locals := 177 } : Room)).cells ∧ 0 ≤ (({ frames := 8, cells := 0, slots := 0, locals := 177 } : Room)).slots := ⟨Nat.le_of_ble_eq_true rfl, Nat.le_of_ble_eq_true rfl⟩
  refine lv_aload (pc := 0) E.1 E.2 dL_gift_0 (lv_at hl 5 rfl) ?_
  refine z_iconst (pc := 2) E dL_gift_2 ?_
  refine lv_aload_n (pc := 3) E.1 E.2 dL_gift_3 rfl (lv_at hl 0 rfl) ?_
  refine lv_iload_n (pc := 4) E.1 E.2 dL_gift_4 rfl (lv_at hl 1 rfl) ?_
  refine lv_iload_n (pc := 5) E.1 E.2 dL_gift_5 rfl (lv_at hl 2 rfl) ?_
  refine lv_iload_n (pc := 6) E.1 E.2 dL_gift_6 rfl (lv_at hl 3 rfl) ?_
  refine lv_iload (pc := 7) E.1 E.2 dL_gift_7 (lv_at hl 4 rfl) ?_
  have hS : va_S (fun z : Nat => Ax o 187 z ∨ z = q9) ss.heap ss.heap [] := va_S.rf
  refine z_wVi (pc := 9) (P := fun H : Heap => QT G o ν σ π δ τ ω H) (P1 := fun H : Heap => QT G o (zu (zu ν 2 (ν 2 + 1)) 3 (min (ν 3 + 1) 8)) (nxGift σ a t b d) (pU π (ν 2 % 8) σ) δ τ ω H) (As := [.int (iI a), .int (iI t), .int (iI b), .int (iI d)]) (rest := [.int (iI 0), .ref q9]) E hml hown hts (mX7_gift lL G o ν σ π δ τ ω a t b d hI ha ht hb hd hok hc hu) (cwV 4 hts gL_gift_X7_gift rfl rfl rfl vdX7_gift ⟨Nat.le_of_ble_eq_true rfl, Nat.le_of_ble_eq_true rfl⟩) (hM.ob.recv hK rfl) hM hK hS (fun z h => Or.inl h) rfl hl.1 rfl dL_gift_9 hcs (Nat.le_of_ble_eq_true rfl) (fun H locs hM2 hsz hoth hS => ?_)
  have hA := hA.kp (hoth _ hA.lt (fun h => Exists.elim h fun k hk => hq9 k hk.1 hk.2.symm))
  refine z_i2lR (pc := 12) E dL_gift_12 ?_
  refine z_lastore (pc := 13) E hK hA hS (Or.inr rfl) (by decide) (by decide) dL_gift_13 (fun H locs hA hoth hS => ?_)
  refine lv_goto (pc := 14) (tgt := 25) E.1 E.2 dL_gift_14 (by decide) ?_
  refine z_iconst (pc := 25) E dL_gift_25 ?_
  exact z_retWi (pc := 26) (P1 := fun H : Heap => LQ G o (zu (zu ν 2 (ν 2 + 1)) 3 (min (ν 3 + 1) 8)) (nxGift σ a t b d) (pU π (ν 2 % 8) σ) δ τ ω q9 (zu fq 0 (rI ((σ 4)))) H) E hr rfl ⟨hM2.kp (fun k hk => hoth _ (hq9 k hk)), hA⟩ hS hlocks dL_gift_26
set_option maxRecDepth 100000 in
theorem mL_giftOf (lL : Launch) (G : GG) (o : Nat → Nat) (ν σ : Int → Int) (π : Nat → Int → Int) (δ τ ω : Int → Int) (g : Int) (w : Int) (hI : In σ) (hg : -2147483648 ≤ g ∧ g < 2147483648) (hw : -2147483648 ≤ w ∧ w < 2147483648) (hok : (kxGiftO σ g w) = 0) (q9 : Nat) (fq : Int → Int) (hq9 : ∀ k, k < 187 → o k ≠ q9) : Met lL yL_giftOf wsL_giftOf ({ frames := 8, cells := 0, slots := 0, locals := 64 } : Room) (va_Pc [.ref (o 0), .int (iI g), .int (iI w), .ref q9] (fun U => LQ G o ν σ π δ τ ω q9 fq U.heap ∧ KK G U ∧ KX FF0 U U.heap)) (va_Qi (fun r (_ : Unit) => r = iI 0) (fun _ tZ => LQ G o ν σ π δ τ ω q9 (zu fq 0 (rI ((σ (309 + 4 * g + w))))) tZ.heap) (fun z : Nat => Ax o 187 z ∨ z = q9)) 0 0 (fun z : Nat => Ax o 187 z ∨ z = q9) := by
  refine z_metH (P := fun H : Heap => LQ G o ν σ π δ τ ω q9 fq H) (by decide) rfl (Nat.le_of_ble_eq_true rfl) (fun pp ee ss mm below meth cC E hr hml hown hts hlocks htab hP hK hX ls hl => ?_)
  have hl : lv_has ls 5 [(0, .ref (o 0)), (1, .int (iI g)), (2, .int (iI w)), (3, .ref q9)] := hl
  obtain ⟨hM, hA⟩ := hP
  have hcs : 0 ≤ (({ frames := 8, cells := 0, slots := 0, locals := 64 } : Room)).cells ∧ 0 ≤ (({ frames := 8, cells := 0, slots := 0, locals := 64 } : Room)).slots := ⟨Nat.le_of_ble_eq_true rfl, Nat.le_of_ble_eq_true rfl⟩
  refine lv_aload_n (pc := 0) E.1 E.2 dL_giftOf_0 rfl (lv_at hl 3 rfl) ?_
  refine z_iconst (pc := 1) E dL_giftOf_1 ?_
  refine lv_aload_n (pc := 2) E.1 E.2 dL_giftOf_2 rfl (lv_at hl 0 rfl) ?_
  refine lv_iload_n (pc := 3) E.1 E.2 dL_giftOf_3 rfl (lv_at hl 1 rfl) ?_
  refine lv_iload_n (pc := 4) E.1 E.2 dL_giftOf_4 rfl (lv_at hl 2 rfl) ?_
  have hS : va_S (fun z : Nat => Ax o 187 z ∨ z = q9) ss.heap ss.heap [] := va_S.rf
  refine z_rVi (pc := 5) (P := fun H : Heap => QT G o ν σ π δ τ ω H) (As := [.int (iI g), .int (iI w)]) (rest := [.int (iI 0), .ref q9]) E hml hown hts (mX7_giftOf lL G o ν σ π δ τ ω g w hI hg hw hok) (cwV 2 hts gL_giftOf_X7_giftOf rfl rfl rfl vdX7_giftOf ⟨Nat.le_of_ble_eq_true rfl, Nat.le_of_ble_eq_true rfl⟩) (hM.ob.recv hK rfl) hM hK rfl hl.1 rfl dL_giftOf_5 hcs (Nat.le_of_ble_eq_true rfl) ?_
  have hM2 := hM
  refine z_i2lR (pc := 8) E dL_giftOf_8 ?_
  refine z_lastore (pc := 9) E hK hA hS (Or.inr rfl) (by decide) (by decide) dL_giftOf_9 (fun H locs hA hoth hS => ?_)
  refine lv_goto (pc := 10) (tgt := 21) E.1 E.2 dL_giftOf_10 (by decide) ?_
  refine z_iconst (pc := 21) E dL_giftOf_21 ?_
  exact z_retWi (pc := 22) (P1 := fun H : Heap => LQ G o ν σ π δ τ ω q9 (zu fq 0 (rI ((σ (309 + 4 * g + w))))) H) E hr rfl ⟨hM2.kp (fun k hk => hoth _ (hq9 k hk)), hA⟩ hS hlocks dL_giftOf_22
set_option maxRecDepth 100000 in
theorem mL_endGift (lL : Launch) (G : GG) (o : Nat → Nat) (ν σ : Int → Int) (π : Nat → Int → Int) (δ τ ω : Int → Int) (g : Int) (hI : In σ) (hg : -2147483648 ≤ g ∧ g < 2147483648) (hok : (kxGi σ g) = 0) (hc : 0 ≤ ν 2 ∧ ν 2 ≤ 1000000) (hu : 0 ≤ ν 3 ∧ ν 3 ≤ 8) (q9 : Nat) (fq : Int → Int) (hq9 : ∀ k, k < 187 → o k ≠ q9) : Met lL yL_endGift wsL_endGift ({ frames := 8, cells := 0, slots := 0, locals := 174 } : Room) (va_Pc [.ref (o 0), .int (iI g), .ref q9] (fun U => LQ G o ν σ π δ τ ω q9 fq U.heap ∧ KK G U ∧ KX FF0 U U.heap)) (va_Qi (fun r (_ : Unit) => r = iI 0) (fun _ tZ => LQ G o (zu (zu ν 2 (ν 2 + 1)) 3 (min (ν 3 + 1) 8)) (nxEndG σ g) (pU π (ν 2 % 8) σ) δ τ ω q9 (zu fq 0 (rI ((σ 4 - 1)))) tZ.heap) (fun z : Nat => Ax o 187 z ∨ z = q9)) 0 0 (fun z : Nat => Ax o 187 z ∨ z = q9) := by
  refine z_metH (P := fun H : Heap => LQ G o ν σ π δ τ ω q9 fq H) (by decide) rfl (Nat.le_of_ble_eq_true rfl) (fun pp ee ss mm below meth cC E hr hml hown hts hlocks htab hP hK hX ls hl => ?_)
  have hl : lv_has ls 4 [(0, .ref (o 0)), (1, .int (iI g)), (2, .ref q9)] := hl
  obtain ⟨hM, hA⟩ := hP
  have hcs : 0 ≤ (({ frames := 8, cells := 0, slots := 0, locals := 174 } : Room)).cells ∧ 0 ≤ (({ frames := 8, cells := 0, slots := 0, locals := 174 } : Room)).slots := ⟨Nat.le_of_ble_eq_true rfl, Nat.le_of_ble_eq_true rfl⟩
  refine lv_aload_n (pc := 0) E.1 E.2 dL_endGift_0 rfl (lv_at hl 2 rfl) ?_
  refine z_iconst (pc := 1) E dL_endGift_1 ?_
  refine lv_aload_n (pc := 2) E.1 E.2 dL_endGift_2 rfl (lv_at hl 0 rfl) ?_
  refine lv_iload_n (pc := 3) E.1 E.2 dL_endGift_3 rfl (lv_at hl 1 rfl) ?_
  have hS : va_S (fun z : Nat => Ax o 187 z ∨ z = q9) ss.heap ss.heap [] := va_S.rf
  refine z_wVi (pc := 4) (P := fun H : Heap => QT G o ν σ π δ τ ω H) (P1 := fun H : Heap => QT G o (zu (zu ν 2 (ν 2 + 1)) 3 (min (ν 3 + 1) 8)) (nxEndG σ g) (pU π (ν 2 % 8) σ) δ τ ω H) (As := [.int (iI g)]) (rest := [.int (iI 0), .ref q9]) E hml hown hts (mX7_endGift lL G o ν σ π δ τ ω g hI hg hok hc hu) (cwV 1 hts gL_endGift_X7_endGift rfl rfl rfl vdX7_endGift ⟨Nat.le_of_ble_eq_true rfl, Nat.le_of_ble_eq_true rfl⟩) (hM.ob.recv hK rfl) hM hK hS (fun z h => Or.inl h) rfl hl.1 rfl dL_endGift_4 hcs (Nat.le_of_ble_eq_true rfl) (fun H locs hM2 hsz hoth hS => ?_)
  have hA := hA.kp (hoth _ hA.lt (fun h => Exists.elim h fun k hk => hq9 k hk.1 hk.2.symm))
  refine z_i2lR (pc := 7) E dL_endGift_7 ?_
  refine z_lastore (pc := 8) E hK hA hS (Or.inr rfl) (by decide) (by decide) dL_endGift_8 (fun H locs hA hoth hS => ?_)
  refine lv_goto (pc := 9) (tgt := 15) E.1 E.2 dL_endGift_9 (by decide) ?_
  refine z_iconst (pc := 15) E dL_endGift_15 ?_
  exact z_retWi (pc := 16) (P1 := fun H : Heap => LQ G o (zu (zu ν 2 (ν 2 + 1)) 3 (min (ν 3 + 1) 8)) (nxEndG σ g) (pU π (ν 2 % 8) σ) δ τ ω q9 (zu fq 0 (rI ((σ 4 - 1)))) H) E hr rfl ⟨hM2.kp (fun k hk => hoth _ (hq9 k hk)), hA⟩ hS hlocks dL_endGift_16
set_option maxRecDepth 100000 in
theorem mL_adjust (lL : Launch) (G : GG) (o : Nat → Nat) (ν σ : Int → Int) (π : Nat → Int → Int) (δ τ ω : Int → Int) (p : Int) (k : Int) (b : Int) (hI : In σ) (hp : -2147483648 ≤ p ∧ p < 2147483648) (hk : -2147483648 ≤ k ∧ k < 2147483648) (hb : -2147483648 ≤ b ∧ b < 2147483648) (hok : (kxAdj σ p k b) = 0) (hc : 0 ≤ ν 2 ∧ ν 2 ≤ 1000000) (hu : 0 ≤ ν 3 ∧ ν 3 ≤ 8) (q9 : Nat) (fq : Int → Int) (hq9 : ∀ k, k < 187 → o k ≠ q9) : Met lL yL_adjust wsL_adjust ({ frames := 8, cells := 0, slots := 0, locals := 178 } : Room) (va_Pc [.ref (o 0), .int (iI p), .int (iI k), .int (iI b), .ref q9] (fun U => LQ G o ν σ π δ τ ω q9 fq U.heap ∧ KK G U ∧ KX FF0 U U.heap)) (va_Qi (fun r (_ : Unit) => r = iI 0) (fun _ tZ => LQ G o (zu (zu ν 2 (ν 2 + 1)) 3 (min (ν 3 + 1) 8)) (nxAdj σ p k b) (pU π (ν 2 % 8) σ) δ τ ω q9 (zu fq 0 (rI ((σ (37 + (2 * p + k)) + b)))) tZ.heap) (fun z : Nat => Ax o 187 z ∨ z = q9)) 0 0 (fun z : Nat => Ax o 187 z ∨ z = q9) := by
  refine z_metH (P := fun H : Heap => LQ G o ν σ π δ τ ω q9 fq H) (by decide) rfl (Nat.le_of_ble_eq_true rfl) (fun pp ee ss mm below meth cC E hr hml hown hts hlocks htab hP hK hX ls hl => ?_)
  have hl : lv_has ls 6 [(0, .ref (o 0)), (1, .int (iI p)), (2, .int (iI k)), (3, .int (iI b)), (4, .ref q9)] := hl
  obtain ⟨hM, hA⟩ := hP
  have hcs : 0 ≤ (({ frames := 8, cells := 0, slots := 0, locals := 178 } : Room)).cells ∧ 0 ≤ (({ frames := 8, cells := 0, slots := 0, locals := 178 } : Room)).slots := ⟨Nat.le_of_ble_eq_true rfl, Nat.le_of_ble_eq_true rfl⟩
  refine lv_aload (pc := 0) E.1 E.2 dL_adjust_0 (lv_at hl 4 rfl) ?_
  refine z_iconst (pc := 2) E dL_adjust_2 ?_
  refine lv_aload_n (pc := 3) E.1 E.2 dL_adjust_3 rfl (lv_at hl 0 rfl) ?_
  refine lv_iload_n (pc := 4) E.1 E.2 dL_adjust_4 rfl (lv_at hl 1 rfl) ?_
  refine lv_iload_n (pc := 5) E.1 E.2 dL_adjust_5 rfl (lv_at hl 2 rfl) ?_
  refine lv_iload_n (pc := 6) E.1 E.2 dL_adjust_6 rfl (lv_at hl 3 rfl) ?_
  have hS : va_S (fun z : Nat => Ax o 187 z ∨ z = q9) ss.heap ss.heap [] := va_S.rf
  refine z_wVi (pc := 7) (P := fun H : Heap => QT G o ν σ π δ τ ω H) (P1 := fun H : Heap => QT G o (zu (zu ν 2 (ν 2 + 1)) 3 (min (ν 3 + 1) 8)) (nxAdj σ p k b) (pU π (ν 2 % 8) σ) δ τ ω H) (As := [.int (iI p), .int (iI k), .int (iI b)]) (rest := [.int (iI 0), .ref q9]) E hml hown hts (mX7_adjust lL G o ν σ π δ τ ω p k b hI hp hk hb hok hc hu) (cwV 3 hts gL_adjust_X7_adjust rfl rfl rfl vdX7_adjust ⟨Nat.le_of_ble_eq_true rfl, Nat.le_of_ble_eq_true rfl⟩) (hM.ob.recv hK rfl) hM hK hS (fun z h => Or.inl h) rfl hl.1 rfl dL_adjust_7 hcs (Nat.le_of_ble_eq_true rfl) (fun H locs hM2 hsz hoth hS => ?_)
  have hA := hA.kp (hoth _ hA.lt (fun h => Exists.elim h fun k hk => hq9 k hk.1 hk.2.symm))
  refine z_i2lR (pc := 10) E dL_adjust_10 ?_
  refine z_lastore (pc := 11) E hK hA hS (Or.inr rfl) (by decide) (by decide) dL_adjust_11 (fun H locs hA hoth hS => ?_)
  refine lv_goto (pc := 12) (tgt := 23) E.1 E.2 dL_adjust_12 (by decide) ?_
  refine z_iconst (pc := 23) E dL_adjust_23 ?_
  exact z_retWi (pc := 24) (P1 := fun H : Heap => LQ G o (zu (zu ν 2 (ν 2 + 1)) 3 (min (ν 3 + 1) 8)) (nxAdj σ p k b) (pU π (ν 2 % 8) σ) δ τ ω q9 (zu fq 0 (rI ((σ (37 + (2 * p + k)) + b)))) H) E hr rfl ⟨hM2.kp (fun k hk => hoth _ (hq9 k hk)), hA⟩ hS hlocks dL_adjust_24
set_option maxRecDepth 100000 in
theorem mL_writePath (lL : Launch) (G : GG) (o : Nat → Nat) (ν σ : Int → Int) (π : Nat → Int → Int) (δ τ ω : Int → Int) (f : Int) (hI : In σ) (hf : -2147483648 ≤ f ∧ f < 2147483648) (hok : (kxFo σ f) = 0) (q9 : Nat) (fq : Int → Int) (hq9 : ∀ k, k < 187 → o k ≠ q9) : Met lL yL_writePath wsL_writePath ({ frames := 8, cells := 0, slots := 0, locals := 88 } : Room) (va_Pc [.ref (o 0), .int (iI f), .ref q9] (fun U => LQ G o ν σ π δ τ ω q9 fq U.heap ∧ KK G U ∧ KX FF0 U U.heap)) (va_Qi (fun r (_ : Unit) => r = iI 0) (fun _ tZ => LQ G o (zu ν 31 ((paL σ 39 f).length : Int)) σ π δ τ (ouA ω 0 (paL σ 39 f)) q9 (zu fq 0 (rI (((paL σ 39 f).length : Int)))) tZ.heap) (fun z : Nat => Ax o 187 z ∨ z = q9)) 0 0 (fun z : Nat => Ax o 187 z ∨ z = q9) := by
  refine z_metH (P := fun H : Heap => LQ G o ν σ π δ τ ω q9 fq H) (by decide) rfl (Nat.le_of_ble_eq_true rfl) (fun pp ee ss mm below meth cC E hr hml hown hts hlocks htab hP hK hX ls hl => ?_)
  have hl : lv_has ls 4 [(0, .ref (o 0)), (1, .int (iI f)), (2, .ref q9)] := hl
  obtain ⟨hM, hA⟩ := hP
  have hcs : 0 ≤ (({ frames := 8, cells := 0, slots := 0, locals := 88 } : Room)).cells ∧ 0 ≤ (({ frames := 8, cells := 0, slots := 0, locals := 88 } : Room)).slots := ⟨Nat.le_of_ble_eq_true rfl, Nat.le_of_ble_eq_true rfl⟩
  refine lv_aload_n (pc := 0) E.1 E.2 dL_writePath_0 rfl (lv_at hl 2 rfl) ?_
  refine z_iconst (pc := 1) E dL_writePath_1 ?_
  refine lv_aload_n (pc := 2) E.1 E.2 dL_writePath_2 rfl (lv_at hl 0 rfl) ?_
  refine lv_iload_n (pc := 3) E.1 E.2 dL_writePath_3 rfl (lv_at hl 1 rfl) ?_
  have hS : va_S (fun z : Nat => Ax o 187 z ∨ z = q9) ss.heap ss.heap [] := va_S.rf
  refine z_wVi (pc := 4) (P := fun H : Heap => QT G o ν σ π δ τ ω H) (P1 := fun H : Heap => QT G o (zu ν 31 ((paL σ 39 f).length : Int)) σ π δ τ (ouA ω 0 (paL σ 39 f)) H) (As := [.int (iI f)]) (rest := [.int (iI 0), .ref q9]) E hml hown hts (mX7_writePath lL G o ν σ π δ τ ω f hI hf hok) (cwV 1 hts gL_writePath_X7_writePath rfl rfl rfl vdX7_writePath ⟨Nat.le_of_ble_eq_true rfl, Nat.le_of_ble_eq_true rfl⟩) (hM.ob.recv hK rfl) hM hK hS (fun z h => Or.inl h) rfl hl.1 rfl dL_writePath_4 hcs (Nat.le_of_ble_eq_true rfl) (fun H locs hM2 hsz hoth hS => ?_)
  have hA := hA.kp (hoth _ hA.lt (fun h => Exists.elim h fun k hk => hq9 k hk.1 hk.2.symm))
  refine z_i2lR (pc := 7) E dL_writePath_7 ?_
  refine z_lastore (pc := 8) E hK hA hS (Or.inr rfl) (by decide) (by decide) dL_writePath_8 (fun H locs hA hoth hS => ?_)
  refine lv_goto (pc := 9) (tgt := 15) E.1 E.2 dL_writePath_9 (by decide) ?_
  refine z_iconst (pc := 15) E dL_writePath_15 ?_
  exact z_retWi (pc := 16) (P1 := fun H : Heap => LQ G o (zu ν 31 ((paL σ 39 f).length : Int)) σ π δ τ (ouA ω 0 (paL σ 39 f)) q9 (zu fq 0 (rI (((paL σ 39 f).length : Int)))) H) E hr rfl ⟨hM2.kp (fun k hk => hoth _ (hq9 k hk)), hA⟩ hS hlocks dL_writePath_16
set_option maxRecDepth 100000 in
theorem mL_writeAccounts (lL : Launch) (G : GG) (o : Nat → Nat) (ν σ : Int → Int) (π : Nat → Int → Int) (δ τ ω : Int → Int) (p : Int) (hI : In σ) (hp : -2147483648 ≤ p ∧ p < 2147483648) (hok : (kxWA p) = 0) (q9 : Nat) (fq : Int → Int) (hq9 : ∀ k, k < 187 → o k ≠ q9) : Met lL yL_writeAccounts wsL_writeAccounts ({ frames := 8, cells := 0, slots := 0, locals := 158 } : Room) (va_Pc [.ref (o 0), .int (iI p), .ref q9] (fun U => LQ G o ν σ π δ τ ω q9 fq U.heap ∧ KK G U ∧ KX FF0 U U.heap)) (va_Qi (fun r (_ : Unit) => r = iI 0) (fun _ tZ => LQ G o (zu ν 31 ((waL σ p).length : Int)) σ π δ τ (ouA ω 0 (waL σ p)) q9 (zu fq 0 (rI (((waL σ p).length : Int)))) tZ.heap) (fun z : Nat => Ax o 187 z ∨ z = q9)) 0 0 (fun z : Nat => Ax o 187 z ∨ z = q9) := by
  refine z_metH (P := fun H : Heap => LQ G o ν σ π δ τ ω q9 fq H) (by decide) rfl (Nat.le_of_ble_eq_true rfl) (fun pp ee ss mm below meth cC E hr hml hown hts hlocks htab hP hK hX ls hl => ?_)
  have hl : lv_has ls 4 [(0, .ref (o 0)), (1, .int (iI p)), (2, .ref q9)] := hl
  obtain ⟨hM, hA⟩ := hP
  have hcs : 0 ≤ (({ frames := 8, cells := 0, slots := 0, locals := 158 } : Room)).cells ∧ 0 ≤ (({ frames := 8, cells := 0, slots := 0, locals := 158 } : Room)).slots := ⟨Nat.le_of_ble_eq_true rfl, Nat.le_of_ble_eq_true rfl⟩
  refine lv_aload_n (pc := 0) E.1 E.2 dL_writeAccounts_0 rfl (lv_at hl 2 rfl) ?_
  refine z_iconst (pc := 1) E dL_writeAccounts_1 ?_
  refine lv_aload_n (pc := 2) E.1 E.2 dL_writeAccounts_2 rfl (lv_at hl 0 rfl) ?_
  refine lv_iload_n (pc := 3) E.1 E.2 dL_writeAccounts_3 rfl (lv_at hl 1 rfl) ?_
  have hS : va_S (fun z : Nat => Ax o 187 z ∨ z = q9) ss.heap ss.heap [] := va_S.rf
  refine z_wVi (pc := 4) (P := fun H : Heap => QT G o ν σ π δ τ ω H) (P1 := fun H : Heap => QT G o (zu ν 31 ((waL σ p).length : Int)) σ π δ τ (ouA ω 0 (waL σ p)) H) (As := [.int (iI p)]) (rest := [.int (iI 0), .ref q9]) E hml hown hts (mX7_writeAccounts lL G o ν σ π δ τ ω p hI hp hok) (cwV 1 hts gL_writeAccounts_X7_writeAccounts rfl rfl rfl vdX7_writeAccounts ⟨Nat.le_of_ble_eq_true rfl, Nat.le_of_ble_eq_true rfl⟩) (hM.ob.recv hK rfl) hM hK hS (fun z h => Or.inl h) rfl hl.1 rfl dL_writeAccounts_4 hcs (Nat.le_of_ble_eq_true rfl) (fun H locs hM2 hsz hoth hS => ?_)
  have hA := hA.kp (hoth _ hA.lt (fun h => Exists.elim h fun k hk => hq9 k hk.1 hk.2.symm))
  refine z_i2lR (pc := 7) E dL_writeAccounts_7 ?_
  refine z_lastore (pc := 8) E hK hA hS (Or.inr rfl) (by decide) (by decide) dL_writeAccounts_8 (fun H locs hA hoth hS => ?_)
  refine lv_goto (pc := 9) (tgt := 15) E.1 E.2 dL_writeAccounts_9 (by decide) ?_
  refine z_iconst (pc := 15) E dL_writeAccounts_15 ?_
  exact z_retWi (pc := 16) (P1 := fun H : Heap => LQ G o (zu ν 31 ((waL σ p).length : Int)) σ π δ τ (ouA ω 0 (waL σ p)) q9 (zu fq 0 (rI (((waL σ p).length : Int)))) H) E hr rfl ⟨hM2.kp (fun k hk => hoth _ (hq9 k hk)), hA⟩ hS hlocks dL_writeAccounts_16
set_option maxRecDepth 100000 in
theorem mL_writtenByte (lL : Launch) (G : GG) (o : Nat → Nat) (ν σ : Int → Int) (π : Nat → Int → Int) (δ τ ω : Int → Int) (i : Int) (hI : In σ) (hi : -2147483648 ≤ i ∧ i < 2147483648) (hm31 : 0 ≤ ν 31 ∧ ν 31 ≤ 900) (hok : (kxWB (ν 31) i) = 0) (q9 : Nat) (fq : Int → Int) (hq9 : ∀ k, k < 187 → o k ≠ q9) : Met lL yL_writtenByte wsL_writtenByte ({ frames := 8, cells := 0, slots := 0, locals := 60 } : Room) (va_Pc [.ref (o 0), .int (iI i), .ref q9] (fun U => LQ G o ν σ π δ τ ω q9 fq U.heap ∧ KK G U ∧ KX FF0 U U.heap)) (va_Qi (fun r (_ : Unit) => r = iI 0) (fun _ tZ => LQ G o ν σ π δ τ ω q9 (zu fq 0 (rI ((ω i % 256)))) tZ.heap) (fun z : Nat => Ax o 187 z ∨ z = q9)) 0 0 (fun z : Nat => Ax o 187 z ∨ z = q9) := by
  refine z_metH (P := fun H : Heap => LQ G o ν σ π δ τ ω q9 fq H) (by decide) rfl (Nat.le_of_ble_eq_true rfl) (fun pp ee ss mm below meth cC E hr hml hown hts hlocks htab hP hK hX ls hl => ?_)
  have hl : lv_has ls 4 [(0, .ref (o 0)), (1, .int (iI i)), (2, .ref q9)] := hl
  obtain ⟨hM, hA⟩ := hP
  have hcs : 0 ≤ (({ frames := 8, cells := 0, slots := 0, locals := 60 } : Room)).cells ∧ 0 ≤ (({ frames := 8, cells := 0, slots := 0, locals := 60 } : Room)).slots := ⟨Nat.le_of_ble_eq_true rfl, Nat.le_of_ble_eq_true rfl⟩
  refine lv_aload_n (pc := 0) E.1 E.2 dL_writtenByte_0 rfl (lv_at hl 2 rfl) ?_
  refine z_iconst (pc := 1) E dL_writtenByte_1 ?_
  refine lv_aload_n (pc := 2) E.1 E.2 dL_writtenByte_2 rfl (lv_at hl 0 rfl) ?_
  refine lv_iload_n (pc := 3) E.1 E.2 dL_writtenByte_3 rfl (lv_at hl 1 rfl) ?_
  have hS : va_S (fun z : Nat => Ax o 187 z ∨ z = q9) ss.heap ss.heap [] := va_S.rf
  refine z_rVi (pc := 4) (P := fun H : Heap => QT G o ν σ π δ τ ω H) (As := [.int (iI i)]) (rest := [.int (iI 0), .ref q9]) E hml hown hts (mX7_writtenByte lL G o ν σ π δ τ ω i hI hi hm31 hok) (cwV 1 hts gL_writtenByte_X7_writtenByte rfl rfl rfl vdX7_writtenByte ⟨Nat.le_of_ble_eq_true rfl, Nat.le_of_ble_eq_true rfl⟩) (hM.ob.recv hK rfl) hM hK rfl hl.1 rfl dL_writtenByte_4 hcs (Nat.le_of_ble_eq_true rfl) ?_
  have hM2 := hM
  refine z_i2lR (pc := 7) E dL_writtenByte_7 ?_
  refine z_lastore (pc := 8) E hK hA hS (Or.inr rfl) (by decide) (by decide) dL_writtenByte_8 (fun H locs hA hoth hS => ?_)
  refine lv_goto (pc := 9) (tgt := 15) E.1 E.2 dL_writtenByte_9 (by decide) ?_
  refine z_iconst (pc := 15) E dL_writtenByte_15 ?_
  exact z_retWi (pc := 16) (P1 := fun H : Heap => LQ G o ν σ π δ τ ω q9 (zu fq 0 (rI ((ω i % 256)))) H) E hr rfl ⟨hM2.kp (fun k hk => hoth _ (hq9 k hk)), hA⟩ hS hlocks dL_writtenByte_16
set_option maxRecDepth 100000 in
theorem mL_undo (lL : Launch) (G : GG) (o : Nat → Nat) (ν σ : Int → Int) (π : Nat → Int → Int) (δ τ ω : Int → Int) (hI : In σ) (hu : 0 ≤ ν 3 ∧ ν 3 ≤ 8) (hok : (kxUndo (ν 3)) = 0) (hc : 1 ≤ ν 2 ∧ ν 2 ≤ 1000000) (q9 : Nat) (fq : Int → Int) (hq9 : ∀ k, k < 187 → o k ≠ q9) : Met lL yL_undo wsL_undo ({ frames := 8, cells := 0, slots := 0, locals := 153 } : Room) (va_Pc [.ref (o 0), .ref q9] (fun U => LQ G o ν σ π δ τ ω q9 fq U.heap ∧ KK G U ∧ KX FF0 U U.heap)) (va_Qi (fun r (_ : Unit) => r = iI 0) (fun _ tZ => LQ G o (zu (zu ν 3 (ν 3 - 1)) 2 (ν 2 - 1)) (π ((ν 2 - 1) % 8).toNat) π δ τ ω q9 (zu fq 0 (rI ((ν 3 - 1)))) tZ.heap) (fun z : Nat => Ax o 187 z ∨ z = q9)) 0 0 (fun z : Nat => Ax o 187 z ∨ z = q9) := by
  refine z_metH (P := fun H : Heap => LQ G o ν σ π δ τ ω q9 fq H) (by decide) rfl (Nat.le_of_ble_eq_true rfl) (fun pp ee ss mm below meth cC E hr hml hown hts hlocks htab hP hK hX ls hl => ?_)
  have hl : lv_has ls 3 [(0, .ref (o 0)), (1, .ref q9)] := hl
  obtain ⟨hM, hA⟩ := hP
  have hcs : 0 ≤ (({ frames := 8, cells := 0, slots := 0, locals := 153 } : Room)).cells ∧ 0 ≤ (({ frames := 8, cells := 0, slots := 0, locals := 153 } : Room)).slots := ⟨Nat.le_of_ble_eq_true rfl, Nat.le_of_ble_eq_true rfl⟩
  refine lv_aload_n (pc := 0) E.1 E.2 dL_undo_0 rfl (lv_at hl 1 rfl) ?_
  refine z_iconst (pc := 1) E dL_undo_1 ?_
  refine lv_aload_n (pc := 2) E.1 E.2 dL_undo_2 rfl (lv_at hl 0 rfl) ?_
  have hS : va_S (fun z : Nat => Ax o 187 z ∨ z = q9) ss.heap ss.heap [] := va_S.rf
  refine z_wVi (pc := 3) (P := fun H : Heap => QT G o ν σ π δ τ ω H) (P1 := fun H : Heap => QT G o (zu (zu ν 3 (ν 3 - 1)) 2 (ν 2 - 1)) (π ((ν 2 - 1) % 8).toNat) π δ τ ω H) (As := []) (rest := [.int (iI 0), .ref q9]) E hml hown hts (mX7_undo lL G o ν σ π δ τ ω hI hu hok hc) (cwV 0 hts gL_undo_X7_undo rfl rfl rfl vdX7_undo ⟨Nat.le_of_ble_eq_true rfl, Nat.le_of_ble_eq_true rfl⟩) (hM.ob.recv hK rfl) hM hK hS (fun z h => Or.inl h) rfl hl.1 rfl dL_undo_3 hcs (Nat.le_of_ble_eq_true rfl) (fun H locs hM2 hsz hoth hS => ?_)
  have hA := hA.kp (hoth _ hA.lt (fun h => Exists.elim h fun k hk => hq9 k hk.1 hk.2.symm))
  refine z_i2lR (pc := 6) E dL_undo_6 ?_
  refine z_lastore (pc := 7) E hK hA hS (Or.inr rfl) (by decide) (by decide) dL_undo_7 (fun H locs hA hoth hS => ?_)
  refine lv_goto (pc := 8) (tgt := 14) E.1 E.2 dL_undo_8 (by decide) ?_
  refine z_iconst (pc := 14) E dL_undo_14 ?_
  exact z_retWi (pc := 15) (P1 := fun H : Heap => LQ G o (zu (zu ν 3 (ν 3 - 1)) 2 (ν 2 - 1)) (π ((ν 2 - 1) % 8).toNat) π δ τ ω q9 (zu fq 0 (rI ((ν 3 - 1)))) H) E hr rfl ⟨hM2.kp (fun k hk => hoth _ (hq9 k hk)), hA⟩ hS hlocks dL_undo_15
