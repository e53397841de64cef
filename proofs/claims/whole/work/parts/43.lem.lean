/-! bounds of answers; rows behind the acts, read -/
theorem fnr_b (σ : Int → Int) (x : Int) : ∀ (n : Nat) (k : Int), fnr σ x n k = -1 ∨ (k ≤ fnr σ x n k ∧ fnr σ x n k < k + n ∧ σ (149 + fnr σ x n k) = x)
  | 0, k => Or.inl rfl
  | n + 1, k => by
    rw [fnr]
    by_cases q : σ (149 + k) = x
    · rw [if_pos q]; right; exact ⟨by omega, by omega, q⟩
    · rw [if_neg q]
      rcases fnr_b σ x n (k + 1) with h | ⟨h1, h2, h3⟩
      · exact Or.inl h
      · right; exact ⟨by omega, by omega, h3⟩
theorem fnS_f {σ : Int → Int} (h : In σ) (x : Int) : fnS σ x 0 = -1 ∨ (0 ≤ fnS σ x 0 ∧ fnS σ x 0 < σ 2 ∧ σ (149 + fnS σ x 0) = x) := by
  have hF := h.F
  unfold fnS
  rcases fnr_b σ x (σ 2 - 0).toNat 0 with q | ⟨q1, q2, q3⟩
  · exact Or.inl q
  · right; exact ⟨q1, by omega, q3⟩
theorem fnS_r {σ : Int → Int} (h : In σ) (x : Int) : -1 ≤ fnS σ x 0 ∧ fnS σ x 0 < 40 := by
  have hF := h.F
  rcases fnS_f h x with q | ⟨q1, q2, q3⟩ <;> omega
theorem In.biSb {σ : Int → Int} (h : In σ) (f : Int) : 0 ≤ biS σ f ∧ biS σ f ≤ 40 := by
  have hF := h.F
  have q := cn_bd (p := biP σ f) (b := 1) (fun k => by unfold biP; split <;> omega) (σ 2).toNat
  unfold biS
  omega
theorem In.fiSb {σ : Int → Int} (h : In σ) (f : Int) : 0 ≤ fiS σ f ∧ fiS σ f ≤ 60 := by
  have hM := h.M
  have q := cn_bd (p := fiP σ f) (b := 1) (fun k => by unfold fiP; split <;> omega) (σ 3).toNat
  unfold fiS
  omega
theorem rsS_b (σ : Int → Int) (p b n : Int) : 0 ≤ rsS σ p b n ∧ rsS σ p b n ≤ 4 := by
  unfold rsS; (repeat' split) <;> omega
theorem rpS_b (σ : Int → Int) (f a t : Int) : 0 ≤ rpS σ f a t ∧ rpS σ f a t ≤ 4 := by
  unfold rpS; split
  · omega
  · exact rsS_b _ _ _ _
theorem rtS_b (σ : Int → Int) (f t : Int) : 0 ≤ rtS σ f t ∧ rtS σ f t ≤ 4 := rpS_b _ _ _ _
theorem rmS_b (σ : Int → Int) (f q : Int) : 0 ≤ rmS σ f q ∧ rmS σ f q ≤ 5 := by
  unfold rmS; split
  · omega
  · have := rpS_b σ f (pjF σ f) (puS σ f q); omega
theorem rcS_b (σ : Int → Int) (k f : Int) : 0 ≤ rcS σ k f ∧ rcS σ k f ≤ 4 := by
  unfold rcS; split
  · omega
  · exact rsS_b _ _ _ _
/-- projects are read off the folders' rows alone -/
theorem pjF_cong {σ τ : Int → Int} (hI : In σ) (h : ∀ j, j = 2 ∨ (69 ≤ j ∧ j < 149) → τ j = σ j) {f : Int} (hf : fo σ f) : pjF τ f = pjF σ f := by
  have hF := hI.F
  unfold pjF
  refine pj_cong (fun j j0 j1 => h j (by omega)) (h 2 (by omega)) hF.2 41 f ?_
  rcases hf with q | ⟨q1, q2⟩
  · exact Or.inl q
  · exact ch_up σ 40 _ (hI.cs _ q1 q2)
theorem afF_v (σ : Int → Int) (f b j : Int) : afF σ f b j = if j = 3 then σ 3 + 1 else if j = 249 + σ 3 then b else if j = 189 + σ 3 then f else σ j := rfl
theorem afF_n {σ : Int → Int} (hM : 0 ≤ σ 3 ∧ σ 3 ≤ 60) {f b j : Int} (h : j < 3 ∨ (3 < j ∧ j < 189) ∨ 310 ≤ j) : afF σ f b j = σ j := by
  rw [afF_v, if_neg (by omega), if_neg (by omega), if_neg (by omega)]
theorem afF_pj {σ : Int → Int} (h : In σ) (g b : Int) {f : Int} (hf : fo σ f) : pjF (afF σ g b) f = pjF σ f :=
  pjF_cong h (fun j hj => afF_n h.M (by omega)) hf
theorem coA_pj {σ : Int → Int} (h : In σ) {p b n : Int} (hp : -1 ≤ p ∧ p ≤ 7) {f : Int} (hf : fo σ f) : pjF (coA σ p b n) f = pjF σ f :=
  pjF_cong h (fun j hj => coA_n hp (by omega)) hf
