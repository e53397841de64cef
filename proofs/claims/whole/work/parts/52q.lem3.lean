/-! what the class's calls leave, read -/
theorem adF_n {σ : Int → Int} (h : In σ) {p x j : Int} (h40 : σ 2 < 40) (hj : j < 2 ∨ (3 ≤ j ∧ j < 69) ∨ 189 ≤ j) : adF σ p x j = σ j := by
  have hF := h.F
  show (if j = 2 then _ else if j = 149 + σ 2 then _ else if j = 109 + σ 2 then _ else if j = 69 + σ 2 then _ else σ j) = σ j
  rw [if_neg (by omega), if_neg (by omega), if_neg (by omega), if_neg (by omega)]
theorem afF_n2 {σ : Int → Int} (h : In σ) {p b j : Int} (h60 : σ 3 < 60) (hj : j < 3 ∨ (4 ≤ j ∧ j < 189) ∨ 309 ≤ j) : afF σ p b j = σ j := by
  have hM := h.M
  rw [afF_v, if_neg (by omega), if_neg (by omega), if_neg (by omega)]
theorem gaA_n {σ : Int → Int} (h : In σ) {a t b d j : Int} (h12 : σ 4 < 12) (hj : j < 4 ∨ (5 ≤ j ∧ j < 309)) : gaA σ a t b d j = σ j := by
  have hG := h.Gn
  show (if j = 4 then _ else if j = 309 + 4 * σ 4 + 3 then _ else if j = 309 + 4 * σ 4 + 2 then _ else if j = 309 + 4 * σ 4 + 1 then _ else if j = 309 + 4 * σ 4 then _ else σ j) = σ j
  rw [if_neg (by omega), if_neg (by omega), if_neg (by omega), if_neg (by omega), if_neg (by omega)]
theorem fr_n {σ : Int → Int} (h : In σ) {f j : Int} (hf : 1 ≤ f ∧ f < σ 2) (hj : j < 2 ∨ (3 ≤ j ∧ j < 69) ∨ 189 ≤ j) : dcA (rf1 σ f) 69 f (σ 2 - 1) j = σ j := by
  have hF := h.F
  unfold dcA
  rw [if_neg (by omega), rf1_v hF hf, if_neg (by omega), if_neg (by omega)]
theorem dcA_m {σ : Int → Int} {b f i j : Int} (h : j < b ∨ b + i ≤ j) : dcA σ b f i j = σ j := by
  unfold dcA; rw [if_neg (by omega)]
theorem rfA_2 {σ : Int → Int} (h : In σ) {f : Int} (hf : 1 ≤ f ∧ f < σ 2) : rfA σ f 2 = σ 2 - 1 := by
  have hF := h.F
  have hM := h.M
  rw [rfA_o (by omega) (by omega), rf1_v hF hf, if_neg (by omega), if_pos rfl]
theorem dfA_n {σ : Int → Int} (h : In σ) {k j : Int} (hk : 0 ≤ k ∧ k < σ 3) (hj : j < 3 ∨ (4 ≤ j ∧ j < 189) ∨ 309 ≤ j) : dfA σ k j = σ j := by
  have hM := h.M
  rw [dfA_v hM hk, if_neg (by omega), if_neg (by omega), if_neg (by omega)]
theorem dgF_n {σ : Int → Int} {g j : Int} (hg : 0 ≤ g) (hj : j < 4 ∨ (5 ≤ j ∧ j < 309)) : dgF σ g j = σ j := by
  rw [dgF_v, if_neg (by omega), if_neg (by omega)]
theorem reG_n {t j : Int} : ∀ {σ : Int → Int} (n : Nat), (j < 4 ∨ (5 ≤ j ∧ j < 309)) → reG σ t n j = σ j
  | _, 0, _ => rfl
  | σ, n + 1, hj => by
    show (if σ (309 + 4 * (n : Int) + 3) ≤ t then reG (dgF σ (n : Int)) t n else reG σ t n) j = σ j
    split
    · rw [reG_n n hj, dgF_n (by omega) hj]
    · exact reG_n n hj
theorem coA_zu (σ : Int → Int) {p b n i v : Int} (hp : -1 ≤ p ∧ p ≤ 7) (hi : i < 37 ∨ 53 ≤ i) : coA (zu σ i v) p b n = zu (coA σ p b n) i v := by
  unfold coA
  by_cases q : p = -1
  · rw [if_pos q, if_pos q]
  · rw [if_neg q, if_neg q, zu_n σ _ (by omega), zu_n σ _ (by omega)]
    funext j
    unfold zu
    by_cases a : j = i
    · rw [if_neg (by omega), if_neg (by omega), if_pos a, if_pos a]
    · by_cases b1 : j = 37 + (2 * p + 1)
      · rw [if_pos b1, if_neg a, if_pos b1]
      · rw [if_neg b1, if_neg a, if_neg b1]
        by_cases c : j = 37 + (2 * p + 0)
        · rw [if_pos c, if_neg a]
        · rw [if_neg c, if_neg a]
theorem cm_zu (σ : Int → Int) {a t b i v : Int} (ha : -1 ≤ a ∧ a ≤ 7) (ht : -1 ≤ t ∧ t ≤ 7) (hi : i < 37 ∨ 53 ≤ i) : (if a = t then zu σ i v else coA (coA (zu σ i v) t b 1) a (-b) (-1)) = zu (cmA σ a t b) i v := by
  unfold cmA
  by_cases q : a = t
  · rw [if_pos q, if_pos q]
  · rw [if_neg q, if_neg q, coA_zu σ ht hi, coA_zu _ ha hi]
theorem cmI {σ : Int → Int} (h : In σ) {a t k f : Int} (ha : -1 ≤ a ∧ a ≤ 7) (ht : -1 ≤ t ∧ t ≤ 7) (hu : Ub σ) {b : Int} (hb : 0 ≤ b ∧ b ≤ 9999) (hk : 0 ≤ k ∧ k < σ 3) (hf : 0 ≤ f ∧ f < σ 2) : In (zu (cmA σ a t b) (189 + k) f) := by
  unfold cmA
  by_cases q : a = t
  · rw [if_pos q]; exact h.lie hk hf
  · rw [if_neg q]
    exact ((h.coAI ht (by omega) (by omega) hu).coAl ha (by omega) (by omega)).lie (by rw [coA_n ha (by omega), coA_n ht (by omega)]; exact hk) (by rw [coA_n ha (by omega), coA_n ht (by omega)]; exact hf)
theorem rcS_v {σ : Int → Int} {k f : Int} (h : ¬ pjF σ f = pjF σ (σ (189 + k))) : rcS σ k f = rsS σ (pjF σ f) (σ (249 + k)) 1 := by
  unfold rcS; rw [if_neg h]
theorem rf_q {σ : Int → Int} (h : In σ) (a t b : Int) : rfS σ a t b ↔ (12 ≤ σ 4 ∨ ¬ cgS σ a t b) := by
  have hG := h.Gn
  show (_ ∨ _ ∨ _ ∨ _) ↔ (_ ∨ ¬ (_ ∧ _ ∧ _))
  omega
theorem rf_cg {σ : Int → Int} (h : In σ) {a t b : Int} (q : ¬ rfS σ a t b) : σ 4 < 12 ∧ cgS σ a t b := by
  have hG := h.Gn
  have r : ¬ (12 ≤ σ 4 ∨ ¬ cgS σ a t b) := fun z => q ((rf_q h a t b).mpr z)
  refine ⟨by omega, Classical.byContradiction (fun z => r (Or.inr z))⟩
