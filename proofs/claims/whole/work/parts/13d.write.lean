/-! what the writing methods leave -/
def adF (f : Int → Int) (p nm : Int) : Int → Int := zu (zu (zu (zu f (69 + f 2) p) (109 + f 2) (-1)) (149 + f 2) nm) 2 (f 2 + 1)
def afF (f : Int → Int) (p b : Int) : Int → Int := zu (zu (zu f (189 + f 3) p) (249 + f 3) b) 3 (f 3 + 1)
def clA (σ : Int → Int) (fr k i : Int) : Int → Int := fun j => if fr + k ≤ j ∧ j < fr + i then σ (j + 1) else σ j
theorem clA_0 (σ : Int → Int) (fr k : Int) : clA σ fr k k = σ := by
  funext j; unfold clA; rw [if_neg (by omega)]
theorem clA_s (σ : Int → Int) (fr : Int) {k i : Int} (h : k ≤ i) : zu (clA σ fr k i) (fr + i) (clA σ fr k i (fr + i + 1)) = clA σ fr k (i + 1) := by
  funext j
  unfold zu clA
  by_cases q : j = fr + i
  · subst q
    rw [if_pos rfl, if_neg (by omega), if_pos (by omega)]
  · rw [if_neg q]
    by_cases r : fr + k ≤ j ∧ j < fr + i
    · rw [if_pos r, if_pos (by omega)]
    · rw [if_neg r, if_neg (by omega)]
def sh1 (κ : Int → Int) (i : Int) : Int → Int := fun j => if 0 ≤ j ∧ j < i then κ (j + 357) else κ j
theorem sh1_0 (κ : Int → Int) : sh1 κ 0 = κ := by
  funext j; unfold sh1; rw [if_neg (by omega)]
theorem sh1_s (κ : Int → Int) {i : Int} (h : 0 ≤ i) : zu (sh1 κ i) i (sh1 κ i (i + 357)) = sh1 κ (i + 1) := by
  funext j
  unfold zu sh1
  by_cases q : j = i
  · subst q
    rw [if_pos rfl, if_neg (by omega), if_pos (by omega)]
  · rw [if_neg q]
    by_cases r : 0 ≤ j ∧ j < i
    · rw [if_pos r, if_pos (by omega)]
    · rw [if_neg r, if_neg (by omega)]
def sh2 (κ σ : Int → Int) (b i : Int) : Int → Int := fun j => if b ≤ j ∧ j < b + i then σ (j - b) else κ j
theorem sh2_0 (κ σ : Int → Int) (b : Int) : sh2 κ σ b 0 = κ := by
  funext j; unfold sh2; rw [if_neg (by omega)]
theorem sh2_s (κ σ : Int → Int) (b : Int) {i : Int} (h : 0 ≤ i) : zu (sh2 κ σ b i) (b + i) (σ i) = sh2 κ σ b (i + 1) := by
  funext j
  unfold zu sh2
  by_cases q : j = b + i
  · subst q
    rw [if_pos rfl, if_pos (by omega), show b + i - b = i by omega]
  · rw [if_neg q]
    by_cases r : b ≤ j ∧ j < b + i
    · rw [if_pos r, if_pos (by omega)]
    · rw [if_neg r, if_neg (by omega)]
/-- the kept rows behind one more: the eldest of eight goes -/
def keK (κ σ : Int → Int) (km : Int) : Int → Int := if km = 8 then sh2 (sh1 κ 2499) σ (357 * 7) 357 else sh2 κ σ (357 * km) 357
def keM (km : Int) : Int := if km = 8 then 8 else km + 1
def beA (σ ρ : Int → Int) (fr i : Int) : Int → Int := fun j => if 0 ≤ j ∧ j < i then ρ (fr + j) else σ j
theorem beA_0 (σ ρ : Int → Int) (fr : Int) : beA σ ρ fr 0 = σ := by
  funext j; unfold beA; rw [if_neg (by omega)]
theorem beA_s (σ ρ : Int → Int) (fr : Int) {i : Int} (h : 0 ≤ i) : zu (beA σ ρ fr i) i (ρ (fr + i)) = beA σ ρ fr (i + 1) := by
  funext j
  unfold zu beA
  by_cases q : j = i
  · subst q
    rw [if_pos rfl, if_pos (by omega)]
  · rw [if_neg q]
    by_cases r : 0 ≤ j ∧ j < i
    · rw [if_pos r, if_pos (by omega)]
    · rw [if_neg r, if_neg (by omega)]
def bgA (φ : Int → Int) (i : Int) : Int → Int := fun j => if 0 ≤ j ∧ j < i then (if 53 ≤ j ∧ j < 149 then -1 else 0) else φ j
theorem bgA_0 (φ : Int → Int) : bgA φ 0 = φ := by
  funext j; unfold bgA; rw [if_neg (by omega)]
theorem bgA_s (φ : Int → Int) {i v : Int} (h : 0 ≤ i) (hv : v = if 53 ≤ i ∧ i < 149 then -1 else 0) : zu (bgA φ i) i v = bgA φ (i + 1) := by
  funext j
  unfold zu bgA
  by_cases q : j = i
  · subst q
    rw [if_pos rfl, if_pos (by omega), hv]
  · rw [if_neg q]
    by_cases r : 0 ≤ j ∧ j < i
    · rw [if_pos r, if_pos (show 0 ≤ j ∧ j < i + 1 by omega)]
    · rw [if_neg r, if_neg (show ¬ (0 ≤ j ∧ j < i + 1) by omega)]
def bgF (φ : Int → Int) : Int → Int := zu (zu (zu (bgA φ 357) 1 10) 2 1) 149 605684
def coA (σ : Int → Int) (p b n : Int) : Int → Int := if p = -1 then σ else zu (zu σ (37 + (2 * p + 0)) (max 0 (σ (37 + (2 * p + 0)) + b))) (37 + (2 * p + 1)) (max 0 (σ (37 + (2 * p + 1)) + n))
/-- a clock, set anew -/
def ckS (σ : Int → Int) (k : Int) : Int := if ¬ lmS σ 5 (k / 2) (k % 2) = -1 ∧ lmS σ 5 (k / 2) (k % 2) < σ (37 + k) then (if σ (53 + k) = -1 then σ 0 else σ (53 + k)) else -1
def scA (σ : Int → Int) (i : Int) : Int → Int := fun j => if 53 ≤ j ∧ j < 53 + i then ckS σ (j - 53) else σ j
theorem scA_0 (σ : Int → Int) : scA σ 0 = σ := by
  funext j; unfold scA; rw [if_neg (by omega)]
theorem scA_s (σ : Int → Int) {i : Int} (h : 0 ≤ i) : zu (scA σ i) (53 + i) (ckS σ i) = scA σ (i + 1) := by
  funext j
  unfold zu scA
  by_cases q : j = 53 + i
  · subst q
    rw [if_pos rfl, if_pos (by omega), show 53 + i - 53 = i by omega]
  · rw [if_neg q]
    by_cases r : 53 ≤ j ∧ j < 53 + i
    · rw [if_pos r, if_pos (by omega)]
    · rw [if_neg r, if_neg (by omega)]
theorem scA_n (σ : Int → Int) (i : Int) {j : Int} (h : j < 53 ∨ 53 + i ≤ j) : scA σ i j = σ j := by
  unfold scA; rw [if_neg (by omega)]
theorem giS_cong {σ τ : Int → Int} (h4 : τ 4 = σ 4) (hg : ∀ j, 309 ≤ j → τ j = σ j) (p : Int) : giS τ p = giS σ p := by
  unfold giS
  rw [h4]
  refine cn_cong (fun k hk => ?_)
  unfold giP
  rw [hg _ (by omega), hg _ (by omega), hg _ (by omega)]
theorem lmS_cong {σ τ : Int → Int} (h4 : τ 4 = σ 4) (hg : ∀ j, 309 ≤ j → τ j = σ j) {t p k : Int} (ht : τ (t + (2 * p + k)) = σ (t + (2 * p + k))) : lmS τ t p k = lmS σ t p k := by
  unfold lmS
  rw [ht, giS_cong h4 hg]
theorem lmS_sc (σ : Int → Int) {i t p k : Int} (hi : 0 ≤ i ∧ i ≤ 16) (ht : t = 5 ∨ t = 21) (hp : 0 ≤ p ∧ p ≤ 7) (hk : k = 0 ∨ k = 1) : lmS (scA σ i) t p k = lmS σ t p k :=
  lmS_cong (scA_n σ i (by omega)) (fun j hj => scA_n σ i (by omega)) (scA_n σ i (by omega))
theorem In.cong {σ τ : Int → Int} (h : In σ) (h1 : ∀ j, (j < 53 ∨ 69 ≤ j) → τ j = σ j) (h2 : ∀ k, 0 ≤ k → k < 16 → -1 ≤ τ (53 + k) ∧ τ (53 + k) ≤ 9999) : In τ := by
  have e : ∀ j, (j < 53 ∨ 69 ≤ j) → τ j = σ j := h1
  refine ⟨?_, ?_, ?_, ?_, ?_, ?_, ?_, ?_, ?_, ?_, ?_, ?_, ?_⟩
  · rw [e 0 (by omega)]; exact h.ti
  · rw [e 1 (by omega)]; exact h.gr
  · rw [e 2 (by omega)]; exact h.F
  · rw [e 3 (by omega)]; exact h.M
  · rw [e 4 (by omega)]; exact h.Gn
  · intro k h0 hk
    have q := h.acc h0 hk
    rw [e (5 + k) (by omega), e (21 + k) (by omega), e (37 + k) (by omega)]
    exact ⟨q.1, q.2.1, q.2.2.1, h2 k h0 hk⟩
  · refine ⟨by rw [e 69 (by omega)]; exact h.root, fun f h0 hf => ?_⟩
    rw [e 2 (by omega)] at hf ⊢
    rw [e (69 + f) (by omega)]
    exact h.par1 h0 hf
  · obtain ⟨d, hd⟩ := h.rk
    refine ⟨d, fun f h0 hf => ?_⟩
    rw [e 2 (by omega)] at hf
    rw [e (69 + f) (by omega)]
    exact hd f h0 hf
  · intro f h0 hf
    rw [e 2 (by omega)] at hf
    rw [e (109 + f) (by omega)]
    exact h.tag h0 hf
  · intro f h0 hf
    rw [e 2 (by omega)] at hf
    rw [e (149 + f) (by omega)]
    exact h.nam h0 hf
  · intro k h0 hk
    rw [e 3 (by omega)] at hk
    rw [e 2 (by omega), e (189 + k) (by omega), e (249 + k) (by omega)]
    exact h.fil h0 hk
  · intro g h0 hg
    rw [e 4 (by omega)] at hg
    rw [e (309 + 4 * g) (by omega), e (309 + 4 * g + 1) (by omega), e (309 + 4 * g + 2) (by omega), e (309 + 4 * g + 3) (by omega)]
    exact h.gft h0 hg
  · intro k
    by_cases q : 53 ≤ k ∧ k < 69
    · have r := h2 (k - 53) (by omega) (by omega)
      rw [show 53 + (k - 53) = k by omega] at r
      omega
    · rw [e k (by omega)]; exact h.bd k
theorem In.ck {σ : Int → Int} (h : In σ) {k : Int} (h0 : 0 ≤ k) (h1 : k < 16) : -1 ≤ ckS σ k ∧ ckS σ k ≤ 9999 := by
  have ha := h.acc h0 h1
  have ht := h.ti
  unfold ckS
  split
  · split <;> omega
  · omega
theorem In.sc {σ : Int → Int} (h : In σ) {i : Int} (hi : 0 ≤ i ∧ i ≤ 16) : In (scA σ i) := by
  refine h.cong (fun j hj => scA_n σ i (by omega)) (fun k h0 h1 => ?_)
  unfold scA
  split
  · rw [show 53 + k - 53 = k by omega]; exact h.ck h0 h1
  · have ha := h.acc h0 h1
    exact ha.2.2.2
def dgA (σ : Int → Int) (g i : Int) : Int → Int := fun j => if j = 4 then σ 4 - 1 else if 309 + 4 * g ≤ j ∧ j < i then σ (j + 4) else σ j
theorem dgA_0 (σ : Int → Int) (g : Int) : zu σ 4 (σ 4 - 1) = dgA σ g (309 + 4 * g) := by
  funext j
  unfold zu dgA
  by_cases q : j = 4
  · rw [if_pos q, if_pos q]
  · rw [if_neg q, if_neg q, if_neg (by omega)]
theorem dgA_s (σ : Int → Int) {g i : Int} (hg : 0 ≤ g) (h : 309 + 4 * g ≤ i) : zu (dgA σ g i) i (dgA σ g i (i + 4)) = dgA σ g (i + 1) := by
  funext j
  unfold zu dgA
  by_cases q : j = i
  · subst q
    rw [if_pos rfl, if_neg (by omega), if_neg (by omega), if_neg (by omega), if_pos (by omega)]
  · rw [if_neg q]
    by_cases r : j = 4
    · rw [if_pos r, if_pos r]
    · rw [if_neg r, if_neg r]
      by_cases t : 309 + 4 * g ≤ j ∧ j < i
      · rw [if_pos t, if_pos (by omega)]
      · rw [if_neg t, if_neg (by omega)]
/-- the gift g goes -/
def dgF (σ : Int → Int) (g : Int) : Int → Int := dgA σ g (309 + 4 * (σ 4 - 1))
theorem coA_bd {σ : Int → Int} (hB : ∀ k, -4611686018427387904 ≤ σ k ∧ σ k < 4611686018427387904) {p b n : Int} (hp : -1 ≤ p ∧ p ≤ 7) (hb : 0 ≤ b ∧ b ≤ 599940) (hn : 0 ≤ n ∧ n ≤ 599940) (hu : ∀ k, 0 ≤ k → k < 16 → σ (37 + k) ≤ 1000000000) : ∀ k, -4611686018427387904 ≤ coA σ p b n k ∧ coA σ p b n k < 4611686018427387904 := by
  intro k
  unfold coA
  split
  · exact hB k
  · have h1 := hu (2 * p + 0) (by omega) (by omega)
    have h2 := hu (2 * p + 1) (by omega) (by omega)
    unfold zu
    split
    · omega
    · split
      · omega
      · exact hB k
def paA (σ : Int → Int) (f a t : Int) : Int → Int := if a = t then σ else coA (coA σ t (opS σ f 1) (opS σ f 0)) a (-opS σ f 1) (-opS σ f 0)
