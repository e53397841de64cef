theorem fb_holes : ∀ (m n : Nat) (f : Nat → Nat), (∀ i, i < n → f i < m) → (∀ i j, i < j → j < n → f i ≠ f j) → n ≤ m := by
  intro m
  induction m with
  | zero =>
    intro n f h1 _
    rcases Nat.eq_zero_or_pos n with h | h
    · omega
    · exact absurd (h1 0 h) (Nat.not_lt_zero _)
  | succ m ih =>
    intro n f h1 h2
    by_cases hx : ∃ i, i < n ∧ f i = m
    · obtain ⟨a, ha, hfa⟩ := hx
      have hg := ih (n - 1) (fun i => if i < a then f i else f (i + 1)) (by
        intro i hi
        by_cases q : i < a
        · simp only [if_pos q]
          have b1 := h1 i (by omega)
          have b2 := h2 i a q ha
          omega
        · simp only [if_neg q]
          have b1 := h1 (i + 1) (by omega)
          have b2 := h2 a (i + 1) (by omega) (by omega)
          omega) (by
        intro i j hij hj
        by_cases q : i < a
        · by_cases r : j < a
          · simp only [if_pos q, if_pos r]
            exact h2 i j hij (by omega)
          · simp only [if_pos q, if_neg r]
            exact h2 i (j + 1) (by omega) (by omega)
        · have r : ¬ j < a := by omega
          simp only [if_neg q, if_neg r]
          exact h2 (i + 1) (j + 1) (by omega) (by omega))
      omega
    · have hg := ih n f (fun i hi => by
        have b1 := h1 i hi
        have b2 : f i ≠ m := fun e => hx ⟨i, hi, e⟩
        omega) h2
      omega
abbrev R62 (a : Int) : Prop := -4611686018427387904 ≤ a ∧ a < 4611686018427387904
/-- a name: 1 to 8 letters of 5 bits -/
def nmo : Nat → Int → Prop
  | 0, x => x = 0
  | n + 1, x => x = 0 ∨ (0 < x ∧ 1 ≤ x % 32 ∧ x % 32 ≤ 26 ∧ nmo n (x / 32))
def nmk (x : Int) : Prop := 0 < x ∧ nmo 8 x
/-- what holds of a tree at all times -/
def In (σ : Int → Int) : Prop :=
  (0 ≤ σ 0 ∧ σ 0 ≤ 9999) ∧ (1 ≤ σ 1 ∧ σ 1 ≤ 99) ∧ (1 ≤ σ 2 ∧ σ 2 ≤ 40) ∧ (0 ≤ σ 3 ∧ σ 3 ≤ 60) ∧ (0 ≤ σ 4 ∧ σ 4 ≤ 12) ∧
  (∀ k : Int, 0 ≤ k → k < 16 → (0 ≤ σ (5 + k) ∧ σ (5 + k) ≤ 99999) ∧ (0 ≤ σ (21 + k) ∧ σ (21 + k) ≤ 99999) ∧ (0 ≤ σ (37 + k) ∧ σ (37 + k) ≤ 1000000000) ∧ (-1 ≤ σ (53 + k) ∧ σ (53 + k) ≤ 9999)) ∧
  (σ 69 = -1 ∧ ∀ f : Int, 1 ≤ f → f < σ 2 → 0 ≤ σ (69 + f) ∧ σ (69 + f) < σ 2) ∧
  (∃ d : Int → Nat, ∀ f : Int, 1 ≤ f → f < σ 2 → d (σ (69 + f)) < d f) ∧
  (∀ f : Int, 0 ≤ f → f < σ 2 → -1 ≤ σ (109 + f) ∧ σ (109 + f) ≤ 7) ∧
  (∀ f : Int, 0 ≤ f → f < σ 2 → nmk (σ (149 + f))) ∧
  (∀ k : Int, 0 ≤ k → k < σ 3 → (0 ≤ σ (189 + k) ∧ σ (189 + k) < σ 2) ∧ (0 ≤ σ (249 + k) ∧ σ (249 + k) ≤ 9999)) ∧
  (∀ g : Int, 0 ≤ g → g < σ 4 → (0 ≤ σ (309 + 4 * g) ∧ σ (309 + 4 * g) ≤ 7) ∧ (0 ≤ σ (309 + 4 * g + 1) ∧ σ (309 + 4 * g + 1) ≤ 7) ∧ (1 ≤ σ (309 + 4 * g + 2) ∧ σ (309 + 4 * g + 2) ≤ 9999) ∧ (0 ≤ σ (309 + 4 * g + 3) ∧ σ (309 + 4 * g + 3) ≤ 19999)) ∧
  (∀ k : Int, -4611686018427387904 ≤ σ k ∧ σ k < 4611686018427387904)
section INV
variable {σ : Int → Int}
theorem In.ti (h : In σ) : 0 ≤ σ 0 ∧ σ 0 ≤ 9999 := h.1
theorem In.gr (h : In σ) : 1 ≤ σ 1 ∧ σ 1 ≤ 99 := h.2.1
theorem In.F (h : In σ) : 1 ≤ σ 2 ∧ σ 2 ≤ 40 := h.2.2.1
theorem In.M (h : In σ) : 0 ≤ σ 3 ∧ σ 3 ≤ 60 := h.2.2.2.1
theorem In.Gn (h : In σ) : 0 ≤ σ 4 ∧ σ 4 ≤ 12 := h.2.2.2.2.1
theorem In.acc (h : In σ) {k : Int} (h0 : 0 ≤ k) (h1 : k < 16) : (0 ≤ σ (5 + k) ∧ σ (5 + k) ≤ 99999) ∧ (0 ≤ σ (21 + k) ∧ σ (21 + k) ≤ 99999) ∧ (0 ≤ σ (37 + k) ∧ σ (37 + k) ≤ 1000000000) ∧ (-1 ≤ σ (53 + k) ∧ σ (53 + k) ≤ 9999) := h.2.2.2.2.2.1 k h0 h1
theorem In.root (h : In σ) : σ 69 = -1 := h.2.2.2.2.2.2.1.1
theorem In.par1 (h : In σ) {f : Int} (h0 : 1 ≤ f) (h1 : f < σ 2) : 0 ≤ σ (69 + f) ∧ σ (69 + f) < σ 2 := h.2.2.2.2.2.2.1.2 f h0 h1
theorem In.rk (h : In σ) : ∃ d : Int → Nat, ∀ f : Int, 1 ≤ f → f < σ 2 → d (σ (69 + f)) < d f := h.2.2.2.2.2.2.2.1
theorem In.tag (h : In σ) {f : Int} (h0 : 0 ≤ f) (h1 : f < σ 2) : -1 ≤ σ (109 + f) ∧ σ (109 + f) ≤ 7 := h.2.2.2.2.2.2.2.2.1 f h0 h1
theorem In.nam (h : In σ) {f : Int} (h0 : 0 ≤ f) (h1 : f < σ 2) : nmk (σ (149 + f)) := h.2.2.2.2.2.2.2.2.2.1 f h0 h1
theorem In.fil (h : In σ) {k : Int} (h0 : 0 ≤ k) (h1 : k < σ 3) : (0 ≤ σ (189 + k) ∧ σ (189 + k) < σ 2) ∧ (0 ≤ σ (249 + k) ∧ σ (249 + k) ≤ 9999) := h.2.2.2.2.2.2.2.2.2.2.1 k h0 h1
theorem In.gft (h : In σ) {g : Int} (h0 : 0 ≤ g) (h1 : g < σ 4) : (0 ≤ σ (309 + 4 * g) ∧ σ (309 + 4 * g) ≤ 7) ∧ (0 ≤ σ (309 + 4 * g + 1) ∧ σ (309 + 4 * g + 1) ≤ 7) ∧ (1 ≤ σ (309 + 4 * g + 2) ∧ σ (309 + 4 * g + 2) ≤ 9999) ∧ (0 ≤ σ (309 + 4 * g + 3) ∧ σ (309 + 4 * g + 3) ≤ 19999) := h.2.2.2.2.2.2.2.2.2.2.2.1 g h0 h1
theorem In.bd (h : In σ) (k : Int) : -4611686018427387904 ≤ σ k ∧ σ k < 4611686018427387904 := h.2.2.2.2.2.2.2.2.2.2.2.2 k
theorem In.par (h : In σ) {f : Int} (h0 : 0 ≤ f) (h1 : f < σ 2) : -1 ≤ σ (69 + f) ∧ σ (69 + f) < σ 2 := by
  rcases Int.lt_or_le 0 f with q | q
  · have := h.par1 (f := f) (by omega) h1
    omega
  · have e : f = 0 := by omega
    subst e
    have h3 : σ (69 + 0) = -1 := h.root
    have h4 := h.F
    omega
/-- the folder i steps up -/
def itp (σ : Int → Int) : Nat → Int → Int
  | 0, f => f
  | n + 1, f => itp σ n (σ (69 + f))
theorem itp_s (σ : Int → Int) : ∀ (n : Nat) (f : Int), itp σ (n + 1) f = σ (69 + itp σ n f)
  | 0, _ => rfl
  | n + 1, f => by
    show itp σ (n + 1) (σ (69 + f)) = σ (69 + itp σ n (σ (69 + f)))
    exact itp_s σ n _
theorem In.long (h : In σ) : ∀ (n : Nat) (f : Int), -1 ≤ f → f < σ 2 → ¬ ch σ n f → ∀ i, i ≤ n → 0 ≤ itp σ i f ∧ itp σ i f < σ 2
  | 0, f, h1, h2, hn, i, hi => by
    have hi0 : i = 0 := by omega
    subst hi0
    have : f ≠ -1 := hn
    show 0 ≤ f ∧ f < σ 2
    omega
  | n + 1, f, h1, h2, hn, i, hi => by
    have hf : f ≠ -1 := fun q => hn (Or.inl q)
    have hf0 : 0 ≤ f := by omega
    cases i with
    | zero => exact ⟨hf0, h2⟩
    | succ i =>
      have hp := h.par hf0 h2
      exact In.long h n _ hp.1 hp.2 (fun q => hn (Or.inr ⟨hf0, h2, q⟩)) i (by omega)
theorem In.cs (h : In σ) : chs σ := by
  intro f h0 h1
  refine Classical.byContradiction (fun hn => ?_)
  have hv := h.long 40 f (by omega) h1 hn
  obtain ⟨d, hd⟩ := h.rk
  have hdec : ∀ i, i < 40 → d (itp σ (i + 1) f) < d (itp σ i f) := by
    intro i hi
    have v1 := hv i (by omega)
    have v2 := hv (i + 1) (by omega)
    rw [itp_s] at v2 ⊢
    refine hd _ ?_ v1.2
    rcases Int.lt_or_le 0 (itp σ i f) with q | q
    · omega
    · have e : itp σ i f = 0 := by omega
      rw [e] at v2
      have := h.root
      have e2 : σ (69 + 0) = -1 := this
      omega
  have hmono : ∀ k i, i + k + 1 ≤ 40 → d (itp σ (i + k + 1) f) < d (itp σ i f) := by
    intro k
    induction k with
    | zero => intro i hi; exact hdec i (by omega)
    | succ k ih =>
      intro i hi
      have a := ih i (by omega)
      have b := hdec (i + k + 1) (by omega)
      have e : i + (k + 1) + 1 = i + k + 1 + 1 := by omega
      rw [e]
      omega
  have hF := h.F
  have hh := fb_holes 40 41 (fun i => (itp σ i f).toNat) (fun i hi => by
    have v := hv i (by omega)
    show (itp σ i f).toNat < 40
    omega) (fun i j hij hj q => by
    have v1 := hv i (by omega)
    have v2 := hv j (by omega)
    have q2 : (itp σ i f).toNat = (itp σ j f).toNat := q
    have e : itp σ i f = itp σ j f := by omega
    obtain ⟨k, hk⟩ : ∃ k, j = i + k + 1 := ⟨j - i - 1, by omega⟩
    have c := hmono k i (by omega)
    rw [← hk, ← e] at c
    exact Nat.lt_irrefl _ c)
  omega
theorem In.fp (h : In σ) {f : Int} (h0 : 0 ≤ f) (h1 : f < σ 2) : fo σ (σ (69 + f)) := h.cs.fp h0 h1
theorem In.pjb (h : In σ) : ∀ (n : Nat) (f : Int), ch σ n f → -1 ≤ pj σ n f ∧ pj σ n f ≤ 7
  | 0, f, hc => by simp [pj]
  | n + 1, f, hc => by
    rw [pj]
    rcases hc with q | ⟨q1, q2, q3⟩
    · rw [if_pos q]; omega
    · rw [if_neg (by omega)]
      by_cases t : σ (109 + f) = -1
      · rw [if_pos t]; exact In.pjb h n _ q3
      · rw [if_neg t]; exact h.tag q1 q2
theorem In.pjr (h : In σ) {f : Int} (hf : fo σ f) : -1 ≤ pjF σ f ∧ pjF σ f ≤ 7 := by
  rcases hf with q | ⟨q1, q2⟩
  · rw [q, pjF_n]; omega
  · exact h.pjb 41 f (ch_up σ 40 f (h.cs f q1 q2))
end INV
