/-! what holds between the class's object and the reference, n calls since the beginning -/
/-- the row that the class keeps at a place of its past -/
def slo (a j : Int) : Nat := ((a + j) % 8).toNat
def LR (n : Nat) (ν σ : Int → Int) (π : Nat → Int → Int) (β ω μ κ : Int → Int) : Prop := (Ok n σ) ∧ (TX β) ∧ (0 ≤ μ 6 ∧ μ 6 ≤ 900) ∧ (ν 21 = μ 6) ∧ (ν 31 = μ 17) ∧ (0 ≤ μ 17 ∧ μ 17 ≤ 400) ∧ (∀ i : Int, 0 ≤ i → i < μ 17 → 0 ≤ ω i ∧ ω i ≤ 127) ∧ (ν 42 = μ 14) ∧ (ν 3 = μ 3) ∧ (0 ≤ μ 3 ∧ μ 3 ≤ 8) ∧ (μ 3 ≤ ν 2 ∧ ν 2 ≤ (n : Int)) ∧ (∀ j : Int, 0 ≤ j → j < μ 3 → Ok n (π (slo (ν 2 - μ 3) j)) ∧ ∀ i : Int, 0 ≤ i → i < 357 → κ (357 * j + i) = π (slo (ν 2 - μ 3) j) i)
theorem LR.ok {n : Nat} {ν σ : Int → Int} {π : Nat → Int → Int} {β ω μ κ : Int → Int} (h : LR n ν σ π β ω μ κ) : Ok n σ := h.1
theorem LR.tx {n : Nat} {ν σ : Int → Int} {π : Nat → Int → Int} {β ω μ κ : Int → Int} (h : LR n ν σ π β ω μ κ) : TX β := h.2.1
theorem LR.m6 {n : Nat} {ν σ : Int → Int} {π : Nat → Int → Int} {β ω μ κ : Int → Int} (h : LR n ν σ π β ω μ κ) : 0 ≤ μ 6 ∧ μ 6 ≤ 900 := h.2.2.1
theorem LR.e6 {n : Nat} {ν σ : Int → Int} {π : Nat → Int → Int} {β ω μ κ : Int → Int} (h : LR n ν σ π β ω μ κ) : ν 21 = μ 6 := h.2.2.2.1
theorem LR.e17 {n : Nat} {ν σ : Int → Int} {π : Nat → Int → Int} {β ω μ κ : Int → Int} (h : LR n ν σ π β ω μ κ) : ν 31 = μ 17 := h.2.2.2.2.1
theorem LR.m17 {n : Nat} {ν σ : Int → Int} {π : Nat → Int → Int} {β ω μ κ : Int → Int} (h : LR n ν σ π β ω μ κ) : 0 ≤ μ 17 ∧ μ 17 ≤ 400 := h.2.2.2.2.2.1
theorem LR.sig {n : Nat} {ν σ : Int → Int} {π : Nat → Int → Int} {β ω μ κ : Int → Int} (h : LR n ν σ π β ω μ κ) : ∀ i : Int, 0 ≤ i → i < μ 17 → 0 ≤ ω i ∧ ω i ≤ 127 := h.2.2.2.2.2.2.1
theorem LR.e14 {n : Nat} {ν σ : Int → Int} {π : Nat → Int → Int} {β ω μ κ : Int → Int} (h : LR n ν σ π β ω μ κ) : ν 42 = μ 14 := h.2.2.2.2.2.2.2.1
theorem LR.e3 {n : Nat} {ν σ : Int → Int} {π : Nat → Int → Int} {β ω μ κ : Int → Int} (h : LR n ν σ π β ω μ κ) : ν 3 = μ 3 := h.2.2.2.2.2.2.2.2.1
theorem LR.m3 {n : Nat} {ν σ : Int → Int} {π : Nat → Int → Int} {β ω μ κ : Int → Int} (h : LR n ν σ π β ω μ κ) : 0 ≤ μ 3 ∧ μ 3 ≤ 8 := h.2.2.2.2.2.2.2.2.2.1
theorem LR.n2 {n : Nat} {ν σ : Int → Int} {π : Nat → Int → Int} {β ω μ κ : Int → Int} (h : LR n ν σ π β ω μ κ) : μ 3 ≤ ν 2 ∧ ν 2 ≤ (n : Int) := h.2.2.2.2.2.2.2.2.2.2.1
theorem LR.old {n : Nat} {ν σ : Int → Int} {π : Nat → Int → Int} {β ω μ κ : Int → Int} (h : LR n ν σ π β ω μ κ) : ∀ j : Int, 0 ≤ j → j < μ 3 → Ok n (π (slo (ν 2 - μ 3) j)) ∧ ∀ i : Int, 0 ≤ i → i < 357 → κ (357 * j + i) = π (slo (ν 2 - μ 3) j) i := h.2.2.2.2.2.2.2.2.2.2.2
section LRS
variable {n : Nat} {ν ν1 σ σ1 : Int → Int} {π : Nat → Int → Int} {β ω μ μ1 κ : Int → Int}
/-- a call that changes nothing but the code -/
theorem LR.id (h : LR n ν σ π β ω μ κ) (h6 : μ1 6 = μ 6) (h17 : μ1 17 = μ 17) (h14 : μ1 14 = μ 14) (h3 : μ1 3 = μ 3) : LR (n + 1) ν σ π β ω μ1 κ := by
  refine ⟨?_, ?_, ?_, ?_, ?_, ?_, ?_, ?_, ?_, ?_, ?_, ?_⟩
  · exact h.ok.up (Nat.le_succ n)
  · exact h.tx
  · rw [h6]; exact h.m6
  · rw [h6]; exact h.e6
  · rw [h17]; exact h.e17
  · rw [h17]; exact h.m17
  · rw [h17]; exact h.sig
  · rw [h14]; exact h.e14
  · rw [h3]; exact h.e3
  · rw [h3]; exact h.m3
  · rw [h3]; have := h.n2; omega
  · rw [h3]; exact fun j h0 h1 => ⟨(h.old j h0 h1).1.up (Nat.le_succ n), (h.old j h0 h1).2⟩
theorem LR.hc (h : LR n ν σ π β ω μ κ) (hn : n ≤ 600) : 0 ≤ ν 2 ∧ ν 2 ≤ 1000000 := by have := h.n2; have := h.m3; omega
theorem LR.hu (h : LR n ν σ π β ω μ κ) : 0 ≤ ν 3 ∧ ν 3 ≤ 8 := by rw [h.e3]; exact h.m3
/-- the past, with one row more -/
theorem past_up (h : LR n ν σ π β ω μ κ) : ∀ j : Int, 0 ≤ j → j < keM (μ 3) → Ok (n + 1) (pU π (ν 2 % 8) σ (slo (ν 2 + 1 - keM (μ 3)) j)) ∧ ∀ i : Int, 0 ≤ i → i < 357 → keK κ σ (μ 3) (357 * j + i) = pU π (ν 2 % 8) σ (slo (ν 2 + 1 - keM (μ 3)) j) i := by
  have hm := h.m3
  have hn := h.n2
  intro j j0 j1
  by_cases h8 : μ 3 = 8
  · unfold keM at j1 ⊢
    rw [if_pos h8] at j1 ⊢
    unfold keK
    rw [if_pos h8]
    by_cases e : j = 7
    · have es : slo (ν 2 + 1 - 8) j = (ν 2 % 8).toNat := by unfold slo; rw [e]; omega
      rw [es]
      unfold pU
      rw [if_pos rfl]
      refine ⟨h.ok.up (Nat.le_succ n), fun i i0 i1 => ?_⟩
      unfold sh2
      rw [if_pos (by omega), show 357 * j + i - 357 * 7 = i by omega]
    · have es : slo (ν 2 + 1 - 8) j = slo (ν 2 - μ 3) (j + 1) := by unfold slo; congr 1; omega
      have ne : ¬ slo (ν 2 - μ 3) (j + 1) = (ν 2 % 8).toNat := by unfold slo; omega
      have hb := h.old (j + 1) (by omega) (by omega)
      rw [es]
      unfold pU
      rw [if_neg ne]
      refine ⟨hb.1.up (Nat.le_succ n), fun i i0 i1 => ?_⟩
      rw [← hb.2 i i0 i1]
      unfold sh2 sh1
      rw [if_neg (by omega), if_pos (by omega), show 357 * j + i + 357 = 357 * (j + 1) + i by omega]
  · unfold keM at j1 ⊢
    rw [if_neg h8] at j1 ⊢
    unfold keK
    rw [if_neg h8]
    by_cases e : j = μ 3
    · have es : slo (ν 2 + 1 - (μ 3 + 1)) j = (ν 2 % 8).toNat := by unfold slo; rw [e]; congr 1; omega
      rw [es]
      unfold pU
      rw [if_pos rfl]
      refine ⟨h.ok.up (Nat.le_succ n), fun i i0 i1 => ?_⟩
      unfold sh2
      rw [if_pos (by omega), show 357 * j + i - 357 * μ 3 = i by rw [e]; omega]
    · have es : slo (ν 2 + 1 - (μ 3 + 1)) j = slo (ν 2 - μ 3) j := by unfold slo; congr 1; omega
      have ne : ¬ slo (ν 2 - μ 3) j = (ν 2 % 8).toNat := by unfold slo; omega
      have hb := h.old j j0 (by omega)
      rw [es]
      unfold pU
      rw [if_neg ne]
      refine ⟨hb.1.up (Nat.le_succ n), fun i i0 i1 => ?_⟩
      rw [← hb.2 i i0 i1]
      unfold sh2
      rw [if_neg (by omega)]
/-- a call that changes the row -/
theorem LR.wr (h : LR n ν σ π β ω μ κ) (ho : Ok (n + 1) σ1) (v2 : ν1 2 = ν 2 + 1) (v3 : ν1 3 = min (ν 3 + 1) 8) (v21 : ν1 21 = μ1 6) (b6 : 0 ≤ μ1 6 ∧ μ1 6 ≤ 900) (v31 : ν1 31 = ν 31) (v42 : ν1 42 = μ1 14) (h17 : μ1 17 = μ 17) (h3 : μ1 3 = keM (μ 3)) : LR (n + 1) ν1 σ1 (pU π (ν 2 % 8) σ) β ω μ1 (keK κ σ (μ 3)) := by
  refine ⟨?_, ?_, ?_, ?_, ?_, ?_, ?_, ?_, ?_, ?_, ?_, ?_⟩
  · exact ho
  · exact h.tx
  · exact b6
  · exact v21
  · rw [h17, v31]; exact h.e17
  · rw [h17]; exact h.m17
  · rw [h17]; exact h.sig
  · exact v42
  · have := h.m3; have := h.e3; rw [v3, h3]; unfold keM; split <;> omega
  · have := h.m3; rw [h3]; unfold keM; split <;> omega
  · have := h.n2; have := h.m3; rw [h3, v2]; unfold keM; split <;> omega
  · rw [h3, v2]; exact past_up h
/-- the last change taken back -/
theorem LR.un (h : LR n ν σ π β ω μ κ) (hk : kxUndo (μ 3) = 0) (v2 : ν1 2 = ν 2 - 1) (v3 : ν1 3 = ν 3 - 1) (v21 : ν1 21 = ν 21) (v31 : ν1 31 = ν 31) (v42 : ν1 42 = ν 42) (h6 : μ1 6 = μ 6) (h17 : μ1 17 = μ 17) (h14 : μ1 14 = μ 14) (h3 : μ1 3 = μ 3 - 1) : LR (n + 1) ν1 (π ((ν 2 - 1) % 8).toNat) π β ω μ1 κ := by
  have hm := h.m3
  have hz := kxUndo_ok hk
  have hn := h.n2
  have hl := h.old (μ 3 - 1) (by omega) (by omega)
  have es : slo (ν 2 - μ 3) (μ 3 - 1) = ((ν 2 - 1) % 8).toNat := by unfold slo; congr 1; omega
  rw [es] at hl
  refine ⟨?_, ?_, ?_, ?_, ?_, ?_, ?_, ?_, ?_, ?_, ?_, ?_⟩
  · exact hl.1.up (Nat.le_succ n)
  · exact h.tx
  · rw [h6]; exact h.m6
  · rw [h6, v21]; exact h.e6
  · rw [h17, v31]; exact h.e17
  · rw [h17]; exact h.m17
  · rw [h17]; exact h.sig
  · rw [h14, v42]; exact h.e14
  · rw [h3, v3, h.e3]
  · rw [h3]; omega
  · rw [h3, v2]; omega
  · rw [h3, v2, show ν 2 - 1 - (μ 3 - 1) = ν 2 - μ 3 by omega]
    exact fun j h0 h1 => ⟨(h.old j h0 (by omega)).1.up (Nat.le_succ n), (h.old j h0 (by omega)).2⟩
theorem LR.und (h : LR n ν σ π β ω μ κ) (hk : kxUndo (μ 3) = 0) : ∀ i : Int, 0 ≤ i → i < 357 → π ((ν 2 - 1) % 8).toNat i = beA σ κ (357 * (μ 3 - 1)) 357 i := by
  have hm := h.m3
  have hz := kxUndo_ok hk
  have hl := h.old (μ 3 - 1) (by omega) (by omega)
  have es : slo (ν 2 - μ 3) (μ 3 - 1) = ((ν 2 - 1) % 8).toNat := by unfold slo; congr 1; omega
  rw [es] at hl
  intro i i0 i1
  rw [beA_y _ _ _ i0 i1, ← hl.2 i i0 i1]
/-- a text more -/
theorem LR.ap (h : LR n ν σ π β ω μ κ) {a b c d e : Int} (hm : μ 6 ≤ 880) (v21 : ν1 21 = ν 21 + 20) (v31 : ν1 31 = ν 31) (v42 : ν1 42 = ν 42) (v2 : ν1 2 = ν 2) (v3 : ν1 3 = ν 3) (h6 : μ1 6 = μ 6 + 20) (h17 : μ1 17 = μ 17) (h14 : μ1 14 = μ 14) (h3 : μ1 3 = μ 3) : LR (n + 1) ν1 σ π (apB β (μ 6) a b c d e 20) ω μ1 κ := by
  refine ⟨?_, ?_, ?_, ?_, ?_, ?_, ?_, ?_, ?_, ?_, ?_, ?_⟩
  · exact h.ok.up (Nat.le_succ n)
  · exact apB_t h.tx _ _ _ _ _ _ _
  · have := h.m6; rw [h6]; omega
  · rw [v21, h6, h.e6]
  · rw [h17, v31]; exact h.e17
  · rw [h17]; exact h.m17
  · rw [h17]; exact h.sig
  · rw [h14, v42]; exact h.e14
  · rw [h3, v3]; exact h.e3
  · rw [h3]; exact h.m3
  · rw [h3, v2]; have := h.n2; omega
  · rw [h3, v2]; exact fun j h0 h1 => ⟨(h.old j h0 h1).1.up (Nat.le_succ n), (h.old j h0 h1).2⟩
/-- a text written -/
theorem LR.ou (h : LR n ν σ π β ω μ κ) {L : List Int} (hL : L.length ≤ 400) (hv : ∀ x ∈ L, 0 ≤ x ∧ x < 128) (v21 : ν1 21 = ν 21) (v31 : ν1 31 = (L.length : Int)) (v42 : ν1 42 = ν 42) (v2 : ν1 2 = ν 2) (v3 : ν1 3 = ν 3) (h6 : μ1 6 = μ 6) (h17 : μ1 17 = (L.length : Int)) (h14 : μ1 14 = μ 14) (h3 : μ1 3 = μ 3) : LR (n + 1) ν1 σ π β (ouA ω 0 L) μ1 κ := by
  refine ⟨?_, ?_, ?_, ?_, ?_, ?_, ?_, ?_, ?_, ?_, ?_, ?_⟩
  · exact h.ok.up (Nat.le_succ n)
  · exact h.tx
  · rw [h6]; exact h.m6
  · rw [v21, h6]; exact h.e6
  · rw [v31, h17]
  · rw [h17]; omega
  · rw [h17]
    intro i i0 i1
    have := hv _ (ouA_in L ω 0 i i0 (by omega))
    omega
  · rw [h14, v42]; exact h.e14
  · rw [h3, v3]; exact h.e3
  · rw [h3]; exact h.m3
  · rw [h3, v2]; have := h.n2; omega
  · rw [h3, v2]; exact fun j h0 h1 => ⟨(h.old j h0 h1).1.up (Nat.le_succ n), (h.old j h0 h1).2⟩
/-- a load that fails -/
theorem LR.lf (h : LR n ν σ π β ω μ κ) (v21 : ν1 21 = 0) (v31 : ν1 31 = ν 31) (v42 : ν1 42 = μ1 14) (v2 : ν1 2 = ν 2) (v3 : ν1 3 = ν 3) (h6 : μ1 6 = 0) (h17 : μ1 17 = μ 17) (h3 : μ1 3 = μ 3) : LR (n + 1) ν1 σ π β ω μ1 κ := by
  refine ⟨?_, ?_, ?_, ?_, ?_, ?_, ?_, ?_, ?_, ?_, ?_, ?_⟩
  · exact h.ok.up (Nat.le_succ n)
  · exact h.tx
  · rw [h6]; omega
  · rw [v21, h6]
  · rw [h17, v31]; exact h.e17
  · rw [h17]; exact h.m17
  · rw [h17]; exact h.sig
  · exact v42
  · rw [h3, v3]; exact h.e3
  · rw [h3]; exact h.m3
  · rw [h3, v2]; have := h.n2; omega
  · rw [h3, v2]; exact fun j h0 h1 => ⟨(h.old j h0 h1).1.up (Nat.le_succ n), (h.old j h0 h1).2⟩
end LRS
theorem LR.ini : LR 0 nuI iniT (fun _ => iniT) (fun _ => 0) (fun _ => 0) (zu (fun _ => 0) 14 (-1)) (fun _ => 0) := by
  refine ⟨?_, ?_, ?_, ?_, ?_, ?_, ?_, ?_, ?_, ?_, ?_, ?_⟩
  · exact Ok.ini
  · exact fun _ _ _ => ⟨by show (0 : Int) ≤ 0; decide, by show (0 : Int) ≤ 255; decide⟩
  · decide
  · exact rfl
  · exact rfl
  · decide
  · exact fun i i0 i1 => absurd i1 (by rw [show zu (fun _ => (0 : Int)) 14 (-1) 17 = 0 from rfl]; omega)
  · exact rfl
  · exact rfl
  · decide
  · decide
  · exact fun j j0 j1 => absurd j1 (by rw [show zu (fun _ => (0 : Int)) 14 (-1) 3 = 0 from rfl]; omega)
/-- both objects, in one heap -/
def LJ (G : GG) (n : Nat) (o o8 : Nat → Nat) (H : Heap) : Prop := ∃ (ν σ : Int → Int) (π : Nat → Int → Int) (δ β ω μ φ κ : Int → Int), QT G o ν σ π δ (fun j => sg8 (β j)) ω H ∧ W8 G o8 (mV o8 μ) σ φ κ β ω H ∧ LR n ν σ π β ω μ κ
theorem W8.sg {G : GG} {o : Nat → Nat} {Vs : List Value} {σ φ κ β ω f : Int → Int} {H : Heap} (h : W8 G o Vs σ φ κ β ω H) (e : ∀ j : Int, 0 ≤ j → j < 357 → f j = σ j) : W8 G o Vs f φ κ β ω H :=
  ⟨h.1, h.2.1.cg (fun j j0 j1 => e j j0 (by omega)), h.2.2⟩
