/-! lists behind a row, put together -/
section OU2
theorem ouA_2 (ω : Int → Int) (m : Int) (P : List Int) (c : Int) : zu (ouA ω m P) (m + (P.length : Int)) c = ouA ω m (P ++ [c]) := by
  rw [ouA_app]; rfl
theorem ouA_l2 (m : Int) (P : List Int) (c : Int) : m + (P.length : Int) + 1 = m + ((P ++ [c]).length : Int) := by
  rw [List.length_append]
  show m + (P.length : Int) + 1 = m + ((P.length + 1 : Nat) : Int)
  omega
theorem ouA_3 (ω : Int → Int) (m : Int) (P N : List Int) (c : Int) : ouA (zu (ouA ω m P) (m + (P.length : Int)) c) (m + (P.length : Int) + 1) N = ouA ω m (P ++ [c] ++ N) := by
  rw [ouA_app ω m (P ++ [c]) N, ← ouA_2, ouA_l2]
theorem ouA_l3 (m : Int) (P N : List Int) (c : Int) : m + (P.length : Int) + 1 + (N.length : Int) = m + ((P ++ [c] ++ N).length : Int) := by
  rw [List.length_append, List.length_append]
  show m + (P.length : Int) + 1 + (N.length : Int) = m + ((P.length + 1 + N.length : Nat) : Int)
  omega
theorem paL_b (σ : Int → Int) : ∀ (d : Nat) (f : Int), 1 ≤ (paL σ d f).length ∧ (paL σ d f).length ≤ 9 * d + 8
  | 0, f => by
    have h := naL_b 7 (σ (149 + f))
    show 1 ≤ (naL 7 (σ (149 + f))).length ∧ (naL 7 (σ (149 + f))).length ≤ 8
    omega
  | d + 1, f => by
    have h := naL_b 7 (σ (149 + f))
    have ih := paL_b σ d (σ (69 + f))
    rw [paL]
    split
    · rw [List.length_append, List.length_append]
      show 1 ≤ _ + 1 + _ ∧ _ + 1 + _ ≤ _
      omega
    · omega
theorem dpF_bd40 {σ : Int → Int} (h : In σ) {f : Int} (hf : 0 ≤ f ∧ f < σ 2) : dpF σ f ≤ 40 := by
  have hF := h.F
  have q := dp_bd σ 40 f
  have e : dpF σ f = dp σ 40 f := dp_st σ 40 f (h.cs f hf.1 hf.2)
  rw [e]; omega
theorem W8.oa {G : GG} {o : Nat → Nat} {Vs : List Value} {σ φ κ β ω : Int → Int} {L M : List Int} {H : Heap} (h : W8 G o Vs σ φ κ β (ouA (ouA ω 0 L) (L.length : Int) M) H) : W8 G o Vs σ φ κ β (ouA ω 0 (L ++ M)) H := by
  rw [ouA_app, Int.zero_add]; exact h
end OU2
/-! the accounts of a project, written -/
def limL (σ : Int → Int) (p k : Int) : List Int := if lmS σ 21 p k = -1 then [45] else nuL 9 (lmS σ 21 p k)
def staL (σ : Int → Int) (p k : Int) : List Int := if stS σ p k = 2 then [43] else if 2 < stS σ p k then [33] else []
def waK (σ : Int → Int) (p : Int) : Nat → List Int
  | 0 => nuL 0 p ++ [58]
  | k + 1 => waK σ p k ++ [32] ++ nuL 9 (σ (37 + (2 * p + (k : Int)))) ++ [47] ++ limL σ p k ++ staL σ p k
def waL (σ : Int → Int) (p : Int) : List Int := waK σ p 2
theorem waK_s (σ : Int → Int) (p : Int) {k : Int} (h : 0 ≤ k) : waK σ p (k + 1).toNat = waK σ p k.toNat ++ [32] ++ nuL 9 (σ (37 + (2 * p + k))) ++ [47] ++ limL σ p k ++ staL σ p k := by
  rw [show (k + 1).toNat = k.toNat + 1 by omega, waK, show ((k.toNat : Nat) : Int) = k by omega]
theorem limL_b (σ : Int → Int) (p k : Int) : 1 ≤ (limL σ p k).length ∧ (limL σ p k).length ≤ 10 := by
  unfold limL
  split
  · exact ⟨Nat.le_refl _, by show 1 ≤ 10; omega⟩
  · exact nuL_b 9 _
theorem staL_b (σ : Int → Int) (p k : Int) : (staL σ p k).length ≤ 1 := by
  unfold staL
  split
  · exact Nat.le_refl _
  · split
    · exact Nat.le_refl _
    · exact Nat.zero_le _
theorem stS_b (σ : Int → Int) (p k : Int) : 0 ≤ stS σ p k ∧ stS σ p k ≤ 4 := by
  unfold stS
  (repeat' split) <;> omega
theorem waK_b (σ : Int → Int) (p : Int) : ∀ k : Nat, k ≤ 2 → 1 ≤ (waK σ p k).length ∧ (waK σ p k).length ≤ 2 + 23 * k
  | 0, _ => by
    have h0 := nuL_b 0 p
    rw [waK]
    simp only [List.length_append, List.length_cons, List.length_nil]
    omega
  | k + 1, hk => by
    have ih := waK_b σ p k (by omega)
    have h1 := nuL_b 9 (σ (37 + (2 * p + (k : Int))))
    have h3 := limL_b σ p k
    have h5 := staL_b σ p k
    rw [waK]
    simp only [List.length_append, List.length_cons, List.length_nil]
    omega
theorem waL_b (σ : Int → Int) (p : Int) : 1 ≤ (waL σ p).length ∧ (waL σ p).length ≤ 60 := by
  have h := waK_b σ p 2 (Nat.le_refl _)
  unfold waL
  omega
