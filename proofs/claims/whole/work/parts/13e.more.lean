/-! more questions: the heaviest child, the greatest file, room, events, the walk -/
def hv (σ : Int → Int) (f : Int) : Nat → Int
  | 0 => -1
  | n + 1 => if σ (69 + (n : Int)) = f ∧ (hv σ f n = -1 ∨ mbS σ (hv σ f n) 1 < mbS σ (n : Int) 1) then (n : Int) else hv σ f n
def hvS (σ : Int → Int) (f : Int) : Int := hv σ f (σ 2).toNat
def gf (σ : Int → Int) (p : Int) : Nat → Int
  | 0 => -1
  | n + 1 => if pjF σ (σ (189 + (n : Int))) = p ∧ (gf σ p n = -1 ∨ σ (249 + gf σ p n) < σ (249 + (n : Int))) then (n : Int) else gf σ p n
def gfS (σ : Int → Int) (p : Int) : Int := gf σ p (σ 3).toNat
theorem hv_b (σ : Int → Int) (f : Int) : ∀ n : Nat, -1 ≤ hv σ f n ∧ hv σ f n < n ∨ hv σ f n = -1
  | 0 => Or.inr rfl
  | n + 1 => by
    rw [hv]
    split
    · left; omega
    · rcases hv_b σ f n with h | h
      · left; omega
      · right; exact h
theorem gf_b (σ : Int → Int) (p : Int) : ∀ n : Nat, -1 ≤ gf σ p n ∧ gf σ p n < n ∨ gf σ p n = -1
  | 0 => Or.inr rfl
  | n + 1 => by
    rw [gf]
    split
    · left; omega
    · rcases gf_b σ p n with h | h
      · left; omega
      · right; exact h
theorem mbS_b {σ : Int → Int} (h : In σ) (f b : Int) : 0 ≤ mbS σ f b ∧ mbS σ f b ≤ 599940 := by
  have hM := h.M
  have q := cn_bd2 (p := mbP σ f b) (b := 9999) (σ 3).toNat (fun k h0 h1 => by
    have hk := h.fil (k := k) h0 (by omega)
    unfold mbP
    split
    · split <;> omega
    · omega)
  have e : (((σ 3).toNat : Nat) : Int) = σ 3 := Int.toNat_of_nonneg hM.1
  rw [e] at q
  unfold mbS
  omega
theorem coS_b {σ : Int → Int} (h : In σ) (p b : Int) : 0 ≤ coS σ p b ∧ coS σ p b ≤ 599940 := by
  have hM := h.M
  have q := cn_bd2 (p := coP σ p b) (b := 9999) (σ 3).toNat (fun k h0 h1 => by
    have hk := h.fil (k := k) h0 (by omega)
    unfold coP
    split
    · split <;> omega
    · omega)
  have e : (((σ 3).toNat : Nat) : Int) = σ 3 := Int.toNat_of_nonneg hM.1
  rw [e] at q
  unfold coS
  omega
/-- the greatest size that can be written, for a project -/
def roS (σ : Int → Int) (p : Int) : Int := if p = -1 then 9999 else if ovS σ p 0 then 0 else if lmS σ 21 p 0 = -1 then 9999 else max (min (lmS σ 21 p 0 - σ (37 + (2 * p + 0))) 9999) 0
def rooS (σ : Int → Int) (p : Int) : Int := if rsS σ p 0 1 = 0 then roS σ p else -1
abbrev cgS (σ : Int → Int) (a t x : Int) : Prop := ¬ lmS σ 21 a 0 = -1 ∧ ¬ lmS σ 21 t 0 = -1 ∧ x ≤ lmS σ 21 a 0 - σ (37 + (2 * a + 0))
def eeS (σ : Int → Int) (a b : Int) : Int := if a ≤ σ 0 then (if σ 0 < b then b else -1) else if σ 0 < b then min a b else a
def fg (σ : Int → Int) : Nat → Int
  | 0 => -1
  | n + 1 => eeS σ (fg σ n) (geS σ ((n : Int) / 2) ((n : Int) % 2))
theorem eeS_b {σ : Int → Int} {a b : Int} (ha : -1 ≤ a ∧ a ≤ 19999) (hb : -1 ≤ b ∧ b ≤ 19999) : -1 ≤ eeS σ a b ∧ eeS σ a b ≤ 19999 := by
  unfold eeS
  split
  · split <;> omega
  · split <;> omega
def nw (σ : Int → Int) : Nat → Int → Int → Int
  | 0, nx, _ => nx
  | n + 1, nx, g => if nx = -1 ∧ ¬ g = 0 then nw σ n (cbS σ (σ (69 + g)) (g + 1)) (σ (69 + g)) else nx
/-- the folder behind f in the walk; -1 -/
def nxS (σ : Int → Int) (f : Int) : Int := nw σ 40 (cbS σ f 0) f
theorem cb_b (σ : Int → Int) (f : Int) : ∀ (n : Nat) (k : Int), cb σ f n k = -1 ∨ (k ≤ cb σ f n k ∧ cb σ f n k < k + n ∧ σ (69 + cb σ f n k) = f)
  | 0, k => Or.inl rfl
  | n + 1, k => by
    rw [cb]
    by_cases q : σ (69 + k) = f
    · rw [if_pos q]; right; exact ⟨by omega, by omega, q⟩
    · rw [if_neg q]
      rcases cb_b σ f n (k + 1) with h | ⟨h1, h2, h3⟩
      · exact Or.inl h
      · right; exact ⟨by omega, by omega, h3⟩
theorem cbS_b (σ : Int → Int) (f k : Int) : cbS σ f k = -1 ∨ (k ≤ cbS σ f k ∧ cbS σ f k < σ 2 ∧ σ (69 + cbS σ f k) = f) := by
  unfold cbS
  rcases cb_b σ f (σ 2 - k).toNat k with h | ⟨h1, h2, h3⟩
  · exact Or.inl h
  · right; exact ⟨h1, by omega, h3⟩
theorem cbS_none {σ : Int → Int} {f k : Int} (hk : 0 ≤ k) (h : cbS σ f k = -1) : ∀ j, k ≤ j → j < σ 2 → ¬ σ (69 + j) = f := by
  intro j h0 h1
  have key : ∀ (n : Nat) (i : Int), 0 ≤ i → i + n = j → cbS σ f i = -1 → ¬ σ (69 + j) = f := by
    intro n
    induction n with
    | zero =>
      intro i hi0 hi hc
      have e : i = j := by omega
      subst e
      rw [cbS_s h1] at hc
      intro q
      rw [if_pos q] at hc
      omega
    | succ n ih =>
      intro i hi0 hi hc
      rw [cbS_s (by omega)] at hc
      by_cases q : σ (69 + i) = f
      · rw [if_pos q] at hc; omega
      · rw [if_neg q] at hc
        exact ih (i + 1) (by omega) (by omega) hc
  exact key (j - k).toNat k hk (by omega) h
