/-! more of what the acts leave -/
theorem scA_e {σ : Int → Int} {i : Int} (h : 0 ≤ i) (e : ckS σ i = σ (53 + i)) : scA σ (i + 1) = scA σ i := by
  rw [← scA_s σ h, e]
  funext j
  unfold zu
  by_cases q : j = 53 + i
  · rw [if_pos q, q, scA_n σ i (Or.inr (Int.le_refl _))]
  · rw [if_neg q]
theorem exS_sc (σ : Int → Int) {p k : Int} (hp : 0 ≤ p ∧ p ≤ 7) (hk : k = 0 ∨ k = 1) : exS (scA σ (2 * p + k)) 5 p k 0 ↔ (¬ lmS σ 5 ((2 * p + k) / 2) ((2 * p + k) % 2) = -1 ∧ lmS σ 5 ((2 * p + k) / 2) ((2 * p + k) % 2) < σ (37 + (2 * p + k))) := by
  have e1 : (2 * p + k) / 2 = p := by omega
  have e2 : (2 * p + k) % 2 = k := by omega
  rw [e1, e2]
  show (¬ lmS (scA σ (2 * p + k)) 5 p k = -1 ∧ lmS (scA σ (2 * p + k)) 5 p k < scA σ (2 * p + k) (37 + (2 * p + k)) + 0) ↔ _
  rw [lmS_sc σ (by omega) (Or.inl rfl) hp hk, scA_n σ _ (j := 37 + (2 * p + k)) (by omega), Int.add_zero]
theorem ckS_n {σ : Int → Int} {p k : Int} (hp : 0 ≤ p ∧ p ≤ 7) (hk : k = 0 ∨ k = 1) (h : ¬ exS (scA σ (2 * p + k)) 5 p k 0) : ckS σ (2 * p + k) = -1 := by
  unfold ckS
  rw [if_neg (fun q => h ((exS_sc σ hp hk).mpr q))]
theorem ckS_y {σ : Int → Int} {p k : Int} (hp : 0 ≤ p ∧ p ≤ 7) (hk : k = 0 ∨ k = 1) (h : exS (scA σ (2 * p + k)) 5 p k 0) : ckS σ (2 * p + k) = if σ (53 + (2 * p + k)) = -1 then σ 0 else σ (53 + (2 * p + k)) := by
  unfold ckS
  rw [if_pos ((exS_sc σ hp hk).mp h)]
theorem coA_n {σ : Int → Int} {p b n j : Int} (hp : -1 ≤ p ∧ p ≤ 7) (h : j < 37 ∨ 53 ≤ j) : coA σ p b n j = σ j := by
  unfold coA
  by_cases q : p = -1
  · rw [if_pos q]
  · rw [if_neg q, zu_n _ _ (by omega), zu_n _ _ (by omega)]
theorem In.cong2 {σ τ : Int → Int} (h : In σ) (h1 : ∀ j, (j < 37 ∨ 69 ≤ j) → τ j = σ j) (h2 : ∀ k, 0 ≤ k → k < 16 → (0 ≤ τ (37 + k) ∧ τ (37 + k) ≤ 1000000000) ∧ (-1 ≤ τ (53 + k) ∧ τ (53 + k) ≤ 9999)) : In τ := by
  have e : ∀ j, (j < 37 ∨ 69 ≤ j) → τ j = σ j := h1
  refine ⟨?_, ?_, ?_, ?_, ?_, ?_, ?_, ?_, ?_, ?_, ?_, ?_, ?_⟩
  · rw [e 0 (by omega)]; exact h.ti
  · rw [e 1 (by omega)]; exact h.gr
  · rw [e 2 (by omega)]; exact h.F
  · rw [e 3 (by omega)]; exact h.M
  · rw [e 4 (by omega)]; exact h.Gn
  · intro k h0 hk
    have q := h.acc h0 hk
    rw [e (5 + k) (by omega), e (21 + k) (by omega)]
    exact ⟨q.1, q.2.1, (h2 k h0 hk).1, (h2 k h0 hk).2⟩
  · refine ⟨by rw [e 69 (by omega)]; exact h.root, fun f h0 hf => ?_⟩
    rw [e 2 (by omega)] at hf ⊢
    rw [e (69 + f) (by omega)]
    exact h.par1 h0 hf
  · obtain ⟨d, hd⟩ := h.rk
    refine ⟨d, fun f h0 hf => ?_⟩
    rw [e 2 (by omega)] at hf
    rw [e (69 + f) (by omega)]
    exact hd f h0 hf
  · intro f h0 hf
    rw [e 2 (by omega)] at hf
    rw [e (109 + f) (by omega)]
    exact h.tag h0 hf
  · intro f h0 hf
    rw [e 2 (by omega)] at hf
    rw [e (149 + f) (by omega)]
    exact h.nam h0 hf
  · intro k h0 hk
    rw [e 3 (by omega)] at hk
    rw [e 2 (by omega), e (189 + k) (by omega), e (249 + k) (by omega)]
    exact h.fil h0 hk
  · intro g h0 hg
    rw [e 4 (by omega)] at hg
    rw [e (309 + 4 * g) (by omega), e (309 + 4 * g + 1) (by omega), e (309 + 4 * g + 2) (by omega), e (309 + 4 * g + 3) (by omega)]
    exact h.gft h0 hg
  · intro k
    by_cases q : 37 ≤ k ∧ k < 69
    · by_cases q2 : k < 53
      · have r := h2 (k - 37) (by omega) (by omega)
        rw [show 37 + (k - 37) = k by omega] at r
        omega
      · have r := h2 (k - 53) (by omega) (by omega)
        rw [show 53 + (k - 53) = k by omega] at r
        omega
    · rw [e k (by omega)]; exact h.bd k
theorem In.re {σ : Int → Int} (h : In σ) {i : Int} (hi : 0 ≤ i ∧ i ≤ 16) : In (reA σ i) := by
  refine h.cong2 (fun j hj => reA_n σ i (by omega)) (fun k h0 h1 => ?_)
  have ha := h.acc h0 h1
  refine ⟨?_, by rw [reA_n σ i (by omega)]; exact ha.2.2.2⟩
  unfold reA
  split
  · have q := coS_b h ((37 + k - 37) / 2) ((37 + k - 37) % 2)
    omega
  · exact ha.2.2.1
theorem reA_e {σ : Int → Int} {i : Int} (h : 0 ≤ i) (e : coS σ (i / 2) (i % 2) = σ (37 + i)) : reA σ (i + 1) = reA σ i := by
  rw [← reA_s σ h, e]
  funext j
  unfold zu
  by_cases q : j = 37 + i
  · rw [if_pos q, q, reA_n σ i (Or.inr (Int.le_refl _))]
  · rw [if_neg q]
theorem wrP_b (σ : Int → Int) (k : Int) : 0 ≤ wrP σ k ∧ wrP σ k ≤ 1 := by
  unfold wrP; split <;> omega
theorem wr_b (σ : Int → Int) (n : Nat) : 0 ≤ cn (wrP σ) n ∧ cn (wrP σ) n ≤ n := by
  have q := cn_bd (p := wrP σ) (b := 1) (wrP_b σ) n
  omega
theorem coS_re {σ : Int → Int} (h : In σ) (i p b : Int) (hi : i ≤ 16) : coS (reA σ i) p b = coS σ p b :=
  coS_cong h (fun j hj => reA_n σ i (by omega)) p b
/-- the row of a state at its beginning -/
def iniT : Int → Int := bgF (fun _ => 0)
/-- the gifts that have ended by t go, from the last -/
def reG (σ : Int → Int) (t : Int) : Nat → (Int → Int)
  | 0 => σ
  | n + 1 => if σ (309 + 4 * (n : Int) + 3) ≤ t then reG (dgF σ (n : Int)) t n else reG σ t n
