/-! bounds of answers; rows behind the acts, read -/
theorem fnr_b (σ : Int → Int) (x : Int) : ∀ (n : Nat) (k : Int), fnr σ x n k = -1 ∨ (k ≤ fnr σ x n k ∧ fnr σ x n k < k + n ∧ σ (149 + fnr σ x n k) = x)
  | 0, k => Or.inl rfl
  | n + 1, k => by
    rw [fnr]
    by_cases q : σ (149 + k) = x
    · rw [if_pos q]; right; exact ⟨by omega, by omega, q⟩
    · rw [if_neg q]
      rcases fnr_b σ x n (k + 1) with h | ⟨h1, h2, h3⟩
      · exact Or.inl h
      · right; exact ⟨by omega, by omega, h3⟩
theorem fnS_f {σ : Int → Int} (h : In σ) (x : Int) : fnS σ x 0 = -1 ∨ (0 ≤ fnS σ x 0 ∧ fnS σ x 0 < σ 2 ∧ σ (149 + fnS σ x 0) = x) := by
  have hF := h.F
  unfold fnS
  rcases fnr_b σ x (σ 2 - 0).toNat 0 with q | ⟨q1, q2, q3⟩
  · exact Or.inl q
  · right; exact ⟨q1, by omega, q3⟩
theorem fnS_r {σ : Int → Int} (h : In σ) (x : Int) : -1 ≤ fnS σ x 0 ∧ fnS σ x 0 < 40 := by
  have hF := h.F
  rcases fnS_f h x with q | ⟨q1, q2, q3⟩ <;> omega
theorem In.biSb {σ : Int → Int} (h : In σ) (f : Int) : 0 ≤ biS σ f ∧ biS σ f ≤ 40 := by
  have hF := h.F
  have q := cn_bd (p := biP σ f) (b := 1) (fun k => by unfold biP; split <;> omega) (σ 2).toNat
  unfold biS
  omega
theorem In.fiSb {σ : Int → Int} (h : In σ) (f : Int) : 0 ≤ fiS σ f ∧ fiS σ f ≤ 60 := by
  have hM := h.M
  have q := cn_bd (p := fiP σ f) (b := 1) (fun k => by unfold fiP; split <;> omega) (σ 3).toNat
  unfold fiS
  omega
theorem rsS_b (σ : Int → Int) (p b n : Int) : 0 ≤ rsS σ p b n ∧ rsS σ p b n ≤ 4 := by
  unfold rsS; (repeat' split) <;> omega
theorem rpS_b (σ : Int → Int) (f a t : Int) : 0 ≤ rpS σ f a t ∧ rpS σ f a t ≤ 4 := by
  unfold rpS; split
  · omega
  · exact rsS_b _ _ _ _
theorem rtS_b (σ : Int → Int) (f t : Int) : 0 ≤ rtS σ f t ∧ rtS σ f t ≤ 4 := rpS_b _ _ _ _
theorem rmS_b (σ : Int → Int) (f q : Int) : 0 ≤ rmS σ f q ∧ rmS σ f q ≤ 5 := by
  unfold rmS; split
  · omega
  · have := rpS_b σ f (pjF σ f) (puS σ f q); omega
theorem rcS_b (σ : Int → Int) (k f : Int) : 0 ≤ rcS σ k f ∧ rcS σ k f ≤ 4 := by
  unfold rcS; split
  · omega
  · exact rsS_b _ _ _ _
/-- projects are read off the folders' rows alone -/
theorem pjF_cong {σ τ : Int → Int} (hI : In σ) (h : ∀ j, j = 2 ∨ (69 ≤ j ∧ j < 149) → τ j = σ j) {f : Int} (hf : fo σ f) : pjF τ f = pjF σ f := by
  have hF := hI.F
  unfold pjF
  refine pj_cong (fun j j0 j1 => h j (by omega)) (h 2 (by omega)) hF.2 41 f ?_
  rcases hf with q | ⟨q1, q2⟩
  · exact Or.inl q
  · exact ch_up σ 40 _ (hI.cs _ q1 q2)
theorem afF_v (σ : Int → Int) (f b j : Int) : afF σ f b j = if j = 3 then σ 3 + 1 else if j = 249 + σ 3 then b else if j = 189 + σ 3 then f else σ j := rfl
theorem afF_n {σ : Int → Int} (hM : 0 ≤ σ 3 ∧ σ 3 ≤ 60) {f b j : Int} (h : j < 3 ∨ (3 < j ∧ j < 189) ∨ 310 ≤ j) : afF σ f b j = σ j := by
  rw [afF_v, if_neg (by omega), if_neg (by omega), if_neg (by omega)]
theorem afF_pj {σ : Int → Int} (h : In σ) (g b : Int) {f : Int} (hf : fo σ f) : pjF (afF σ g b) f = pjF σ f :=
  pjF_cong h (fun j hj => afF_n h.M (by omega)) hf
theorem coA_pj {σ : Int → Int} (h : In σ) {p b n : Int} (hp : -1 ≤ p ∧ p ≤ 7) {f : Int} (hf : fo σ f) : pjF (coA σ p b n) f = pjF σ f :=
  pjF_cong h (fun j hj => coA_n hp (by omega)) hf
/-- where the number j stood before f went -/
def sj (f j : Int) : Int := if f ≤ j then j + 1 else j
theorem sj_b {f j n : Int} (h0 : 0 ≤ j) (h1 : j < n - 1) : 0 ≤ sj f j ∧ sj f j < n := by unfold sj; split <;> omega
theorem cl0_j (P : Int → Int) {f n j : Int} (h : j < n) : cl0 P f n j = P (sj f j) := by
  unfold cl0 sj
  by_cases q : f ≤ j
  · rw [if_pos ⟨q, h⟩, if_pos q]
  · rw [if_neg (fun z => q z.1), if_neg q]
theorem dc0_j (P : Int → Int) {f n j : Int} (h0 : 0 ≤ j) (h : j < n) : dc0 P f n j = if f < P j then P j - 1 else P j := by
  unfold dc0; rw [if_pos ⟨h0, h⟩]
theorem fr_2 {σ : Int → Int} (hF : 1 ≤ σ 2 ∧ σ 2 ≤ 40) {f : Int} (hf : 1 ≤ f ∧ f < σ 2) : dcA (rf1 σ f) 69 f (σ 2 - 1) 2 = σ 2 - 1 := by
  unfold dcA
  rw [if_neg (by omega), rf1_v hF hf, if_neg (by omega), if_pos rfl]
theorem fr_v {σ : Int → Int} (hF : 1 ≤ σ 2 ∧ σ 2 ≤ 40) {f : Int} (hf : 1 ≤ f ∧ f < σ 2) {b j : Int} (hb : b = 69 ∨ b = 109 ∨ b = 149) (h0 : 0 ≤ j) (h1 : j < σ 2 - 1) : rf1 σ f (b + j) = σ (b + sj f j) := by
  rw [rf1_v hF hf]
  unfold sj
  by_cases z : f ≤ j
  · rw [if_pos (by omega), if_pos z, show b + j + 1 = b + (j + 1) by omega]
  · rw [if_neg (by omega), if_neg (by omega), if_neg z]
theorem fr_p {σ : Int → Int} (hF : 1 ≤ σ 2 ∧ σ 2 ≤ 40) {f : Int} (hf : 1 ≤ f ∧ f < σ 2) {j : Int} (h0 : 0 ≤ j) (h1 : j < σ 2 - 1) : dcA (rf1 σ f) 69 f (σ 2 - 1) (69 + j) = if f < σ (69 + sj f j) then σ (69 + sj f j) - 1 else σ (69 + sj f j) := by
  unfold dcA
  rw [if_pos (by omega), fr_v hF hf (Or.inl rfl) h0 h1]
theorem fr_t {σ : Int → Int} (hF : 1 ≤ σ 2 ∧ σ 2 ≤ 40) {f : Int} (hf : 1 ≤ f ∧ f < σ 2) {b j : Int} (hb : b = 109 ∨ b = 149) (h0 : 0 ≤ j) (h1 : j < σ 2 - 1) : dcA (rf1 σ f) 69 f (σ 2 - 1) (b + j) = σ (b + sj f j) := by
  unfold dcA
  rw [if_neg (by omega), fr_v hF hf (by omega) h0 h1]
theorem df_3 {σ : Int → Int} (hM : 0 ≤ σ 3 ∧ σ 3 ≤ 60) {k : Int} (hk : 0 ≤ k ∧ k < σ 3) : dfA σ k 3 = σ 3 - 1 := by
  rw [dfA_v hM hk, if_neg (by omega), if_neg (by omega), if_pos rfl]
theorem df_j {σ : Int → Int} (hM : 0 ≤ σ 3 ∧ σ 3 ≤ 60) {k : Int} (hk : 0 ≤ k ∧ k < σ 3) {b j : Int} (hb : b = 189 ∨ b = 249) (h0 : 0 ≤ j) (h1 : j < σ 3 - 1) : dfA σ k (b + j) = σ (b + sj k j) := by
  rw [dfA_v hM hk]
  unfold sj
  rcases hb with rfl | rfl
  · rw [if_neg (by omega)]
    by_cases z : k ≤ j
    · rw [if_pos (by omega), if_pos z, show (189 : Int) + j + 1 = 189 + (j + 1) by omega]
    · rw [if_neg (by omega), if_neg (by omega), if_neg z]
  · by_cases z : k ≤ j
    · rw [if_pos (by omega), if_pos z, show (249 : Int) + j + 1 = 249 + (j + 1) by omega]
    · rw [if_neg (by omega), if_neg (by omega), if_neg (by omega), if_neg z]
theorem dg_j (σ : Int → Int) {g c j : Int} (hc : 0 ≤ c ∧ c ≤ 3) (h0 : 0 ≤ j) (h1 : j < σ 4 - 1) : dgF σ g (309 + 4 * j + c) = σ (309 + 4 * sj g j + c) := by
  rw [dgF_v, if_neg (by omega)]
  unfold sj
  by_cases z : g ≤ j
  · rw [if_pos (by omega), if_pos z, show (309 : Int) + 4 * j + c + 4 = 309 + 4 * (j + 1) + c by omega]
  · rw [if_neg (by omega), if_neg z]
theorem dg_4 (σ : Int → Int) (g : Int) : dgF σ g 4 = σ 4 - 1 := by rw [dgF_v, if_pos rfl]
theorem rf1_bd {σ : Int → Int} (h : In σ) {f : Int} (hf : 1 ≤ f ∧ f < σ 2) (j : Int) : -4611686018427387904 ≤ rf1 σ f j ∧ rf1 σ f j < 4611686018427387904 := by
  have hF := h.F
  have b := h.bd j
  have b1 := h.bd (j + 1)
  rw [rf1_v hF hf]
  split
  · exact b1
  · split
    · omega
    · exact b
theorem rf1_m {σ : Int → Int} (h : In σ) {f : Int} (hf : 1 ≤ f ∧ f < σ 2) {m : Int} (hm : 0 ≤ m) : dcA (rf1 σ f) 69 f (σ 2 - 1) (189 + m) = σ (189 + m) := by
  have hF := h.F
  unfold dcA
  rw [if_neg (by omega), rf1_v hF hf, if_neg (by omega), if_neg (by omega)]
theorem rfA_m {σ : Int → Int} (h : In σ) {f : Int} (hf : 1 ≤ f ∧ f < σ 2) {m : Int} (hm : 0 ≤ m) : dcA (dcA (rf1 σ f) 69 f (σ 2 - 1)) 189 f m (189 + m) = σ (189 + m) := by
  rw [dcA_n _ _ _ (Int.le_refl _), rf1_m h hf hm]
theorem rfA_3 {σ : Int → Int} (h : In σ) {f : Int} (hf : 1 ≤ f ∧ f < σ 2) {m : Int} (hm : 0 ≤ m) : dcA (dcA (rf1 σ f) 69 f (σ 2 - 1)) 189 f m 3 = σ 3 := by
  have hF := h.F
  have e : dcA (rf1 σ f) 69 f (σ 2 - 1) 3 = σ 3 := by
    unfold dcA
    rw [if_neg (by omega), rf1_v hF hf, if_neg (by omega), if_neg (by omega)]
  show (if 189 ≤ (3 : Int) ∧ (3 : Int) < 189 + m then _ else _) = _
  rw [if_neg (by omega), e]
theorem rmS_0 {σ : Int → Int} {f q : Int} (h : rmS σ f q = 0) : ¬ f = 0 ∧ ¬ blF σ q f = true := by
  unfold rmS at h
  by_cases z : f = 0 ∨ blF σ q f = true
  · rw [if_pos z] at h; omega
  · exact ⟨fun y => z (Or.inl y), fun y => z (Or.inr y)⟩
theorem bl_cong {σ τ : Int → Int} (h : ∀ j, 69 ≤ j → j < 109 → τ j = σ j) (h2 : τ 2 = σ 2) (hF : σ 2 ≤ 40) (a : Int) : ∀ (n : Nat) (f : Int), ch σ n f → bl τ a n f = bl σ a n f
  | 0, f, _ => rfl
  | n + 1, f, hc => by
    rw [bl, bl]
    rcases hc with q | ⟨q1, q2, q3⟩
    · rw [if_pos q, if_pos q]
    · rw [h (69 + f) (by omega) (by omega), bl_cong h h2 hF a n _ q3]
theorem blF_pa {σ : Int → Int} (h : In σ) {g a t f q : Int} (ha : -1 ≤ a ∧ a ≤ 7) (ht : -1 ≤ t ∧ t ≤ 7) (hq : 0 ≤ q ∧ q < σ 2) : blF (paA σ g a t) q f = blF σ q f := by
  have hF := h.F
  unfold blF
  exact bl_cong (σ := σ) (fun j j0 j1 => paA_n ha ht (by omega)) (paA_n ha ht (by omega)) hF.2 f 41 q (ch_up σ 40 _ (h.cs q hq.1 hq.2))
