/-! the reference's cells: the object, its rows -/
abbrev mV (o : Nat → Nat) (μ : Int → Int) : List Value := [.ref (o 1), .ref (o 2), .ref (o 3), .int (iI (μ 3)), .int (iI (μ 4)), .ref (o 4), .int (iI (μ 6)), .int (iI (μ 7)), .int (iI (μ 8)), .int (iI (μ 9)), .int (iI (μ 10)), .int (iI (μ 11)), .int (iI (μ 12)), .int (iI (μ 13)), .int (iI (μ 14)), .long (iL (μ 15)), .ref (o 5), .int (iI (μ 17))]
def W8 (G : GG) (o : Nat → Nat) (Vs : List Value) (σ φ κ β ω : Int → Int) (H : Heap) : Prop := oB G 8 (o 0) Vs H ∧ aL G (o 1) 357 σ H ∧ aL G (o 2) 357 φ H ∧ aL G (o 3) 2856 κ H ∧ aI G (o 4) 900 β H ∧ aI G (o 5) 400 ω H ∧ Ij o 6
section W8S
variable {G : GG} {o : Nat → Nat} {Vs V2 : List Value} {σ φ κ β ω f : Int → Int} {H H1 : Heap}
theorem W8.kp (h : W8 G o Vs σ φ κ β ω H) (hk : ∀ k, k < 6 → H1[o k]? = H[o k]?) : W8 G o Vs σ φ κ β ω H1 :=
  ⟨h.1.kp (hk 0 (by decide)), h.2.1.kp (hk 1 (by decide)), h.2.2.1.kp (hk 2 (by decide)), h.2.2.2.1.kp (hk 3 (by decide)), h.2.2.2.2.1.kp (hk 4 (by decide)), h.2.2.2.2.2.1.kp (hk 5 (by decide)), h.2.2.2.2.2.2⟩
theorem W8.lt (h : W8 G o Vs σ φ κ β ω H) : ∀ k, k < 6 → o k < H.size := by
  intro k hk
  have : k = 0 ∨ k = 1 ∨ k = 2 ∨ k = 3 ∨ k = 4 ∨ k = 5 := by omega
  rcases this with rfl | rfl | rfl | rfl | rfl | rfl
  · exact h.1.lt
  · exact h.2.1.lt
  · exact h.2.2.1.lt
  · exact h.2.2.2.1.lt
  · exact h.2.2.2.2.1.lt
  · exact h.2.2.2.2.2.1.lt
theorem W8.ij (h : W8 G o Vs σ φ κ β ω H) : Ij o 6 := h.2.2.2.2.2.2
theorem W8.nx (h : W8 G o Vs σ φ κ β ω H) {k : Nat} (hk : k < 6) (ho : ∀ a, a < H.size → ¬ a = o k → H1[a]? = H[a]?) : ∀ j, j < 6 → j ≠ k → H1[o j]? = H[o j]? := fun j hj hn => ho _ (h.lt j hj) (h.ij.ne j k hj hk hn)
theorem W8.p (h : W8 G o Vs σ φ κ β ω H) (hn : oB G 8 (o 0) V2 H1) (ho : ∀ a, a < H.size → ¬ a = o 0 → H1[a]? = H[a]?) : W8 G o V2 σ φ κ β ω H1 := by
  have q := h.nx (k := 0) (by decide) ho
  exact ⟨hn, h.2.1.kp (q 1 (by decide) (by decide)), h.2.2.1.kp (q 2 (by decide) (by decide)), h.2.2.2.1.kp (q 3 (by decide) (by decide)), h.2.2.2.2.1.kp (q 4 (by decide) (by decide)), h.2.2.2.2.2.1.kp (q 5 (by decide) (by decide)), h.2.2.2.2.2.2⟩
theorem W8.a1 (h : W8 G o Vs σ φ κ β ω H) (hn : aL G (o 1) 357 f H1) (ho : ∀ a, a < H.size → ¬ a = o 1 → H1[a]? = H[a]?) : W8 G o Vs f φ κ β ω H1 := by
  have q := h.nx (k := 1) (by decide) ho
  exact ⟨h.1.kp (q 0 (by decide) (by decide)), hn, h.2.2.1.kp (q 2 (by decide) (by decide)), h.2.2.2.1.kp (q 3 (by decide) (by decide)), h.2.2.2.2.1.kp (q 4 (by decide) (by decide)), h.2.2.2.2.2.1.kp (q 5 (by decide) (by decide)), h.2.2.2.2.2.2⟩
theorem W8.a2 (h : W8 G o Vs σ φ κ β ω H) (hn : aL G (o 2) 357 f H1) (ho : ∀ a, a < H.size → ¬ a = o 2 → H1[a]? = H[a]?) : W8 G o Vs σ f κ β ω H1 := by
  have q := h.nx (k := 2) (by decide) ho
  exact ⟨h.1.kp (q 0 (by decide) (by decide)), h.2.1.kp (q 1 (by decide) (by decide)), hn, h.2.2.2.1.kp (q 3 (by decide) (by decide)), h.2.2.2.2.1.kp (q 4 (by decide) (by decide)), h.2.2.2.2.2.1.kp (q 5 (by decide) (by decide)), h.2.2.2.2.2.2⟩
theorem W8.a3 (h : W8 G o Vs σ φ κ β ω H) (hn : aL G (o 3) 2856 f H1) (ho : ∀ a, a < H.size → ¬ a = o 3 → H1[a]? = H[a]?) : W8 G o Vs σ φ f β ω H1 := by
  have q := h.nx (k := 3) (by decide) ho
  exact ⟨h.1.kp (q 0 (by decide) (by decide)), h.2.1.kp (q 1 (by decide) (by decide)), h.2.2.1.kp (q 2 (by decide) (by decide)), hn, h.2.2.2.2.1.kp (q 4 (by decide) (by decide)), h.2.2.2.2.2.1.kp (q 5 (by decide) (by decide)), h.2.2.2.2.2.2⟩
theorem W8.a4 (h : W8 G o Vs σ φ κ β ω H) (hn : aI G (o 4) 900 f H1) (ho : ∀ a, a < H.size → ¬ a = o 4 → H1[a]? = H[a]?) : W8 G o Vs σ φ κ f ω H1 := by
  have q := h.nx (k := 4) (by decide) ho
  exact ⟨h.1.kp (q 0 (by decide) (by decide)), h.2.1.kp (q 1 (by decide) (by decide)), h.2.2.1.kp (q 2 (by decide) (by decide)), h.2.2.2.1.kp (q 3 (by decide) (by decide)), hn, h.2.2.2.2.2.1.kp (q 5 (by decide) (by decide)), h.2.2.2.2.2.2⟩
theorem W8.a5 (h : W8 G o Vs σ φ κ β ω H) (hn : aI G (o 5) 400 f H1) (ho : ∀ a, a < H.size → ¬ a = o 5 → H1[a]? = H[a]?) : W8 G o Vs σ φ κ β f H1 := by
  have q := h.nx (k := 5) (by decide) ho
  exact ⟨h.1.kp (q 0 (by decide) (by decide)), h.2.1.kp (q 1 (by decide) (by decide)), h.2.2.1.kp (q 2 (by decide) (by decide)), h.2.2.2.1.kp (q 3 (by decide) (by decide)), h.2.2.2.2.1.kp (q 4 (by decide) (by decide)), hn, h.2.2.2.2.2.2⟩
end W8S
theorem z_nb (B : Prop) [Decidable B] : narrow .boolean (.int (iI (if B then 1 else 0))) = .int (iI (if B then 1 else 0)) := by
  split <;> rfl
