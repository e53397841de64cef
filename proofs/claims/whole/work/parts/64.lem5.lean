/-! text out -/
def kxWB (m w : Int) : Int := if 0 ≤ w ∧ w < m then 0 else 1
/-- the row behind m signs, with the signs of a list put behind -/
def ouA (ω : Int → Int) (m : Int) : List Int → Int → Int
  | [] => ω
  | c :: l => ouA (zu ω m c) (m + 1) l
theorem ouA_app (ω : Int → Int) (m : Int) : ∀ (l1 l2 : List Int), ouA ω m (l1 ++ l2) = ouA (ouA ω m l1) (m + l1.length) l2 := by
  intro l1
  induction l1 generalizing ω m with
  | nil => intro l2; show ouA ω m l2 = ouA ω (m + ((0 : Nat) : Int)) l2; rw [show m + ((0 : Nat) : Int) = m by omega]
  | cons c l1 ih =>
    intro l2
    show ouA (zu ω m c) (m + 1) (l1 ++ l2) = ouA (ouA (zu ω m c) (m + 1) l1) (m + ((l1.length + 1 : Nat) : Int)) l2
    rw [ih, show m + 1 + ((l1.length : Nat) : Int) = m + ((l1.length + 1 : Nat) : Int) by omega]
/-- the digits of a number, d + 1 at most; the letters of a name; a path -/
def nuL : Nat → Int → List Int
  | 0, v => [48 + v % 10]
  | d + 1, v => if 9 < v then nuL d (v / 10) ++ [48 + v % 10] else [48 + v % 10]
def naL : Nat → Int → List Int
  | 0, v => [96 + v % 32]
  | d + 1, v => if 31 < v then naL d (v / 32) ++ [96 + v % 32] else [96 + v % 32]
def paL (σ : Int → Int) : Nat → Int → List Int
  | 0, f => naL 7 (σ (149 + f))
  | d + 1, f => if 0 < f then paL σ d (σ (69 + f)) ++ [47] ++ naL 7 (σ (149 + f)) else naL 7 (σ (149 + f))
theorem nuL_b : ∀ (d : Nat) (v : Int), 1 ≤ (nuL d v).length ∧ (nuL d v).length ≤ d + 1
  | 0, v => ⟨Nat.le_refl _, Nat.le_refl _⟩
  | d + 1, v => by
    have h := nuL_b d (v / 10)
    rw [nuL]; split
    · rw [List.length_append]; show 1 ≤ _ + 1 ∧ _ + 1 ≤ _; omega
    · show 1 ≤ 1 ∧ 1 ≤ _; omega
theorem naL_b : ∀ (d : Nat) (v : Int), 1 ≤ (naL d v).length ∧ (naL d v).length ≤ d + 1
  | 0, v => ⟨Nat.le_refl _, Nat.le_refl _⟩
  | d + 1, v => by
    have h := naL_b d (v / 32)
    rw [naL]; split
    · rw [List.length_append]; show 1 ≤ _ + 1 ∧ _ + 1 ≤ _; omega
    · show 1 ≤ 1 ∧ 1 ≤ _; omega
/-- four signs more, as the class keeps them -/
def pf4 (τ : Int → Int) (m v : Int) : Int → Int := zu (zu (zu (zu τ m (sg8 (v / 16777216))) (m + 1) (sg8 (v / 65536))) (m + 2) (sg8 (v / 256))) (m + 3) (sg8 v)
