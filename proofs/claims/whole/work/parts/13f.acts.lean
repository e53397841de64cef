/-! what the other acts leave -/
def dcA (σ : Int → Int) (b f i : Int) : Int → Int := fun j => if b ≤ j ∧ j < b + i then (if f < σ j then σ j - 1 else σ j) else σ j
theorem dcA_0 (σ : Int → Int) (b f : Int) : dcA σ b f 0 = σ := by
  funext j; unfold dcA; rw [if_neg (by omega)]
theorem dcA_s (σ : Int → Int) (b f : Int) {i : Int} (h : 0 ≤ i) : zu (dcA σ b f i) (b + i) (if f < σ (b + i) then σ (b + i) - 1 else σ (b + i)) = dcA σ b f (i + 1) := by
  funext j
  unfold zu dcA
  by_cases q : j = b + i
  · subst q
    rw [if_pos rfl, if_pos (show b ≤ b + i ∧ b + i < b + (i + 1) by omega)]
  · rw [if_neg q]
    by_cases r : b ≤ j ∧ j < b + i
    · rw [if_pos r, if_pos (show b ≤ j ∧ j < b + (i + 1) by omega)]
    · rw [if_neg r, if_neg (show ¬ (b ≤ j ∧ j < b + (i + 1)) by omega)]
theorem dcA_n (σ : Int → Int) (b f : Int) {i j : Int} (h : b + i ≤ j) : dcA σ b f i j = σ j := by
  unfold dcA; rw [if_neg (by omega)]
/-- a folder goes: the rows close up, the numbers behind it are lower by 1 -/
def cl0 (P : Int → Int) (k i : Int) : Int → Int := fun j => if k ≤ j ∧ j < i then P (j + 1) else P j
theorem cl0_0 (P : Int → Int) (k : Int) : cl0 P k k = P := by
  funext j; unfold cl0; rw [if_neg (by omega)]
theorem cl0_s (P : Int → Int) {k i : Int} (h : k ≤ i) : zu (cl0 P k i) i (cl0 P k i (i + 1)) = cl0 P k (i + 1) := by
  funext j
  unfold zu cl0
  by_cases q : j = i
  · subst q
    rw [if_pos rfl, if_neg (show ¬ (k ≤ j + 1 ∧ j + 1 < j) by omega), if_pos (show k ≤ j ∧ j < j + 1 by omega)]
  · rw [if_neg q]
    by_cases r : k ≤ j ∧ j < i
    · rw [if_pos r, if_pos (show k ≤ j ∧ j < i + 1 by omega)]
    · rw [if_neg r, if_neg (show ¬ (k ≤ j ∧ j < i + 1) by omega)]
def dc0 (P : Int → Int) (f i : Int) : Int → Int := fun j => if 0 ≤ j ∧ j < i then (if f < P j then P j - 1 else P j) else P j
theorem dc0_0 (P : Int → Int) (f : Int) : dc0 P f 0 = P := by
  funext j; unfold dc0; rw [if_neg (by omega)]
theorem dc0_n (P : Int → Int) (f i : Int) : dc0 P f i i = P i := by
  unfold dc0; rw [if_neg (by omega)]
theorem dc0_y {P : Int → Int} {f i : Int} (h : 0 ≤ i) (hp : f < P i) : zu (dc0 P f i) i (P i - 1) = dc0 P f (i + 1) := by
  funext j
  unfold zu dc0
  by_cases q : j = i
  · subst q
    rw [if_pos rfl, if_pos (show 0 ≤ j ∧ j < j + 1 by omega), if_pos hp]
  · rw [if_neg q]
    by_cases r : 0 ≤ j ∧ j < i
    · rw [if_pos r, if_pos (show 0 ≤ j ∧ j < i + 1 by omega)]
    · rw [if_neg r, if_neg (show ¬ (0 ≤ j ∧ j < i + 1) by omega)]
theorem dc0_x {P : Int → Int} {f i : Int} (h : 0 ≤ i) (hp : P i ≤ f) : dc0 P f i = dc0 P f (i + 1) := by
  funext j
  unfold dc0
  by_cases q : j = i
  · subst q
    rw [if_neg (show ¬ (0 ≤ j ∧ j < j) by omega), if_pos (show 0 ≤ j ∧ j < j + 1 by omega), if_neg (by omega)]
  · by_cases r : 0 ≤ j ∧ j < i
    · rw [if_pos r, if_pos (show 0 ≤ j ∧ j < i + 1 by omega)]
    · rw [if_neg r, if_neg (show ¬ (0 ≤ j ∧ j < i + 1) by omega)]
def rf1 (σ : Int → Int) (f : Int) : Int → Int := clA (clA (clA (zu σ 2 (σ 2 - 1)) 69 f (σ 2 - 1)) 109 f (σ 2 - 1)) 149 f (σ 2 - 1)
def rfA (σ : Int → Int) (f : Int) : Int → Int := dcA (dcA (rf1 σ f) 69 f (σ 2 - 1)) 189 f (σ 3)
/-- a file goes -/
def dfA (σ : Int → Int) (k : Int) : Int → Int := clA (clA (zu σ 3 (σ 3 - 1)) 189 k (σ 3 - 1)) 249 k (σ 3 - 1)
theorem coA_u {σ : Int → Int} {p b n : Int} (hp : -1 ≤ p ∧ p ≤ 7) (hb : 0 ≤ b ∧ b ≤ 599940) (hn : 0 ≤ n ∧ n ≤ 599940) (hu : ∀ k, 0 ≤ k → k < 16 → 0 ≤ σ (37 + k) ∧ σ (37 + k) ≤ 1000000000) : ∀ k, 0 ≤ k → k < 16 → 0 ≤ coA σ p b n (37 + k) ∧ coA σ p b n (37 + k) ≤ 1000599940 := by
  intro k h0 h1
  have q := hu k h0 h1
  unfold coA
  split
  · omega
  · have q0 := hu (2 * p + 0) (by omega) (by omega)
    have q1 := hu (2 * p + 1) (by omega) (by omega)
    unfold zu
    split
    · omega
    · split <;> omega
/-- a gift more -/
def gaA (σ : Int → Int) (a t b d : Int) : Int → Int := zu (zu (zu (zu (zu σ (309 + 4 * σ 4) a) (309 + 4 * σ 4 + 1) t) (309 + 4 * σ 4 + 2) b) (309 + 4 * σ 4 + 3) d) 4 (σ 4 + 1)
/-- all amounts counted anew -/
def reA (σ : Int → Int) (i : Int) : Int → Int := fun j => if 37 ≤ j ∧ j < 37 + i then coS σ ((j - 37) / 2) ((j - 37) % 2) else σ j
theorem reA_0 (σ : Int → Int) : reA σ 0 = σ := by
  funext j; unfold reA; rw [if_neg (by omega)]
theorem reA_s (σ : Int → Int) {i : Int} (h : 0 ≤ i) : zu (reA σ i) (37 + i) (coS σ (i / 2) (i % 2)) = reA σ (i + 1) := by
  funext j
  unfold zu reA
  by_cases q : j = 37 + i
  · subst q
    rw [if_pos rfl, if_pos (show (37 : Int) ≤ 37 + i ∧ 37 + i < 37 + (i + 1) by omega), show 37 + i - 37 = i by omega]
  · rw [if_neg q]
    by_cases r : 37 ≤ j ∧ j < 37 + i
    · rw [if_pos r, if_pos (show (37 : Int) ≤ j ∧ j < 37 + (i + 1) by omega)]
    · rw [if_neg r, if_neg (show ¬ ((37 : Int) ≤ j ∧ j < 37 + (i + 1)) by omega)]
theorem reA_n (σ : Int → Int) (i : Int) {j : Int} (h : j < 37 ∨ 37 + i ≤ j) : reA σ i j = σ j := by
  unfold reA; rw [if_neg (by omega)]
/-- how many amounts are wrong -/
def wrP (σ : Int → Int) : Int → Int := fun k => if coS σ (k / 2) (k % 2) = σ (37 + k) then 0 else 1
def wrS (σ : Int → Int) : Int := cn (wrP σ) 16
theorem pj_cong {σ τ : Int → Int} (h : ∀ j, 69 ≤ j → j < 149 → τ j = σ j) (h2 : τ 2 = σ 2) (hF : σ 2 ≤ 40) : ∀ (n : Nat) (f : Int), ch σ n f → pj τ n f = pj σ n f
  | 0, f, _ => rfl
  | n + 1, f, hc => by
    rw [pj, pj]
    rcases hc with q | ⟨q1, q2, q3⟩
    · rw [if_pos q, if_pos q]
    · rw [h (109 + f) (by omega) (by omega), h (69 + f) (by omega) (by omega), pj_cong h h2 hF n _ q3]
theorem coS_cong {σ τ : Int → Int} (hI : In σ) (h : ∀ j, (2 ≤ j ∧ j < 4) ∨ 69 ≤ j → τ j = σ j) (p b : Int) : coS τ p b = coS σ p b := by
  have hF := hI.F
  have hM := hI.M
  unfold coS
  rw [h 3 (by omega)]
  refine cn_cong (fun k hk => ?_)
  have hf := hI.fil (k := (k : Int)) (by omega) (by omega)
  unfold coP pjF
  rw [h (189 + (k : Int)) (by omega), h (249 + (k : Int)) (by omega), pj_cong (fun j j0 j1 => h j (by omega)) (h 2 (by omega)) hF.2 41 _ (ch_up σ 40 _ (hI.cs _ hf.1.1 hf.1.2))]
