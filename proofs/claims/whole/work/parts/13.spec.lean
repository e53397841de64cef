/-! the picture of a tree in one row of whole numbers (as the reference lays it), and what is read off it -/
def cn (p : Int → Int) : Nat → Int
  | 0 => 0
  | n + 1 => cn p n + p n
theorem cn_s (p : Int → Int) {i : Int} (h : 0 ≤ i) : cn p (i + 1).toNat = cn p i.toNat + p i := by
  have e : (i + 1).toNat = i.toNat + 1 := by omega
  rw [e, cn, Int.toNat_of_nonneg h]
theorem cn_0 (p : Int → Int) : cn p (0 : Int).toNat = 0 := rfl
theorem cn_cong {p q : Int → Int} : ∀ {n : Nat}, (∀ k : Nat, k < n → p k = q k) → cn p n = cn q n
  | 0, _ => rfl
  | n + 1, h => by rw [cn, cn, cn_cong (fun k hk => h k (by omega)), h n (by omega)]
theorem cn_bd {p : Int → Int} {b : Int} (hb : ∀ k : Int, 0 ≤ p k ∧ p k ≤ b) : ∀ n : Nat, 0 ≤ cn p n ∧ cn p n ≤ b * n
  | 0 => by simp [cn]
  | n + 1 => by
    have h := cn_bd hb n
    have h2 := hb n
    rw [cn]
    have e : b * ((n + 1 : Nat) : Int) = b * n + b := by rw [Int.natCast_add, Int.mul_add]; simp
    omega
theorem cn_bd2 {p : Int → Int} {b : Int} : ∀ n : Nat, (∀ k : Int, 0 ≤ k → k < n → 0 ≤ p k ∧ p k ≤ b) → 0 ≤ cn p n ∧ cn p n ≤ b * n
  | 0, _ => by simp [cn]
  | n + 1, hb => by
    have h := cn_bd2 (p := p) (b := b) n (fun k h0 h1 => hb k h0 (by omega))
    have h2 := hb n (by omega) (by omega)
    rw [cn]
    have e : b * ((n + 1 : Nat) : Int) = b * n + b := by rw [Int.natCast_add, Int.mul_add]; simp
    omega
/-- the first place, from i on, where a row holds x; -1 -/
def fn1 (f : Int → Int) (x : Int) : Nat → Int → Int
  | 0, _ => -1
  | n + 1, i => if f i = x then i else fn1 f x n (i + 1)
def pj (σ : Int → Int) : Nat → Int → Int
  | 0, _ => -1
  | n + 1, f => if f = -1 then -1 else if σ (109 + f) = -1 then pj σ n (σ (69 + f)) else σ (109 + f)
def bl (σ : Int → Int) (a : Int) : Nat → Int → Bool
  | 0, _ => false
  | n + 1, f => if f = -1 then false else if f = a then true else bl σ a n (σ (69 + f))
def ol (σ : Int → Int) (a : Int) : Nat → Int → Bool
  | 0, _ => false
  | n + 1, f => if f = -1 then false else if f = a then true else if σ (109 + f) = -1 then ol σ a n (σ (69 + f)) else false
def dp (σ : Int → Int) : Nat → Int → Int
  | 0, _ => 0
  | n + 1, f => if f = -1 then 0 else dp σ n (σ (69 + f)) + 1
/-- from f up it is at most n steps to none, over folders -/
def ch (σ : Int → Int) : Nat → Int → Prop
  | 0, f => f = -1
  | n + 1, f => f = -1 ∨ (0 ≤ f ∧ f < σ 2 ∧ ch σ n (σ (69 + f)))
theorem ch_up (σ : Int → Int) : ∀ (n : Nat) (f : Int), ch σ n f → ch σ (n + 1) f
  | 0, f, h => Or.inl h
  | n + 1, f, h => by
    rcases h with h | ⟨h1, h2, h3⟩
    · exact Or.inl h
    · exact Or.inr ⟨h1, h2, ch_up σ n _ h3⟩
theorem pj_st (σ : Int → Int) : ∀ (n : Nat) (f : Int), ch σ n f → pj σ (n + 1) f = pj σ n f
  | 0, f, h => by simp [ch] at h; simp [pj, h]
  | n + 1, f, h => by
    rcases h with h | ⟨h1, h2, h3⟩
    · simp [pj, h]
    · rw [pj, pj_st σ n _ h3]; rfl
theorem bl_st (σ : Int → Int) (a : Int) : ∀ (n : Nat) (f : Int), ch σ n f → bl σ a (n + 1) f = bl σ a n f
  | 0, f, h => by simp [ch] at h; simp [bl, h]
  | n + 1, f, h => by
    rcases h with h | ⟨h1, h2, h3⟩
    · simp [bl, h]
    · rw [bl, bl_st σ a n _ h3]; rfl
theorem ol_st (σ : Int → Int) (a : Int) : ∀ (n : Nat) (f : Int), ch σ n f → ol σ a (n + 1) f = ol σ a n f
  | 0, f, h => by simp [ch] at h; simp [ol, h]
  | n + 1, f, h => by
    rcases h with h | ⟨h1, h2, h3⟩
    · simp [ol, h]
    · rw [ol, ol_st σ a n _ h3]; rfl
theorem dp_st (σ : Int → Int) : ∀ (n : Nat) (f : Int), ch σ n f → dp σ (n + 1) f = dp σ n f
  | 0, f, h => by simp [ch] at h; simp [dp, h]
  | n + 1, f, h => by
    rcases h with h | ⟨h1, h2, h3⟩
    · simp [dp, h]
    · rw [dp, dp_st σ n _ h3]; rfl
theorem dp_bd (σ : Int → Int) : ∀ (n : Nat) (f : Int), 0 ≤ dp σ n f ∧ dp σ n f ≤ n
  | 0, f => by simp [dp]
  | n + 1, f => by
    have h := dp_bd σ n (σ (69 + f))
    rw [dp]
    by_cases q : f = -1
    · rw [if_pos q]; omega
    · rw [if_neg q]; omega
/-- the folder's own questions, with 41 steps at hand -/
def pjF (σ : Int → Int) (f : Int) : Int := pj σ 41 f
def blF (σ : Int → Int) (f a : Int) : Bool := bl σ a 41 f
def olF (σ : Int → Int) (f a : Int) : Bool := ol σ a 41 f
def dpF (σ : Int → Int) (f : Int) : Int := dp σ 41 f
theorem pjF_n (σ : Int → Int) : pjF σ (-1) = -1 := rfl
theorem blF_n (σ : Int → Int) (a : Int) : blF σ (-1) a = false := rfl
theorem olF_n (σ : Int → Int) (a : Int) : olF σ (-1) a = false := rfl
theorem dpF_n (σ : Int → Int) : dpF σ (-1) = 0 := rfl
/-- a folder of the tree, or none -/
def fo (σ : Int → Int) (f : Int) : Prop := f = -1 ∨ (0 ≤ f ∧ f < σ 2)
/-- the chains of a tree end within 40 steps -/
def chs (σ : Int → Int) : Prop := ∀ f : Int, 0 ≤ f → f < σ 2 → ch σ 40 f
theorem chs.par {σ : Int → Int} (h : chs σ) {f : Int} (h0 : 0 ≤ f) (h1 : f < σ 2) : ch σ 39 (σ (69 + f)) := by
  rcases h f h0 h1 with q | q
  · omega
  · exact q.2.2
theorem ch_fo {σ : Int → Int} : ∀ {n : Nat} {f : Int}, ch σ n f → fo σ f
  | 0, f, h => Or.inl h
  | n + 1, f, h => by
    rcases h with q | q
    · exact Or.inl q
    · exact Or.inr ⟨q.1, q.2.1⟩
theorem chs.fp {σ : Int → Int} (h : chs σ) {f : Int} (h0 : 0 ≤ f) (h1 : f < σ 2) : fo σ (σ (69 + f)) := ch_fo (h.par h0 h1)
theorem pjF_s {σ : Int → Int} (h : chs σ) {f : Int} (h0 : 0 ≤ f) (h1 : f < σ 2) : pjF σ f = if σ (109 + f) = -1 then pjF σ (σ (69 + f)) else σ (109 + f) := by
  have c := h.par h0 h1
  unfold pjF
  rw [pj_st σ 40 _ (ch_up σ 39 _ c), pj, if_neg (by omega)]
theorem blF_s {σ : Int → Int} (h : chs σ) {f a : Int} (h0 : 0 ≤ f) (h1 : f < σ 2) : blF σ f a = if f = a then true else blF σ (σ (69 + f)) a := by
  have c := h.par h0 h1
  unfold blF
  rw [bl_st σ a 40 _ (ch_up σ 39 _ c), bl, if_neg (by omega)]
theorem olF_s {σ : Int → Int} (h : chs σ) {f a : Int} (h0 : 0 ≤ f) (h1 : f < σ 2) : olF σ f a = if f = a then true else if σ (109 + f) = -1 then olF σ (σ (69 + f)) a else false := by
  have c := h.par h0 h1
  unfold olF
  rw [ol_st σ a 40 _ (ch_up σ 39 _ c), ol, if_neg (by omega)]
theorem dpF_s {σ : Int → Int} (h : chs σ) {f : Int} (h0 : 0 ≤ f) (h1 : f < σ 2) : dpF σ f = dpF σ (σ (69 + f)) + 1 := by
  have c := h.par h0 h1
  unfold dpF
  rw [dp_st σ 40 _ (ch_up σ 39 _ c), dp, if_neg (by omega)]
theorem dpF_bd (σ : Int → Int) (f : Int) : 0 ≤ dpF σ f := (dp_bd σ 41 f).1
theorem dpF_40 {σ : Int → Int} (h : chs σ) {f : Int} (h0 : 0 ≤ f) (h1 : f < σ 2) : dpF σ f ≤ 40 := by
  unfold dpF
  rw [dp_st σ 40 _ (h f h0 h1)]
  exact (dp_bd σ 40 f).2
theorem dpF_pos {σ : Int → Int} (h : chs σ) {f : Int} (h0 : 0 ≤ f) (h1 : f < σ 2) : 1 ≤ dpF σ f := by
  have := dpF_s h h0 h1
  have := dpF_bd σ (σ (69 + f))
  omega
