/-! the class's text out: lists, codes -/
theorem QT.eq {G : GG} {o : Nat → Nat} {ν ν2 σ : Int → Int} {π : Nat → Int → Int} {δ τ ω ω2 : Int → Int} {H : Heap} (h : QT G o ν σ π δ τ ω H) (e1 : ν2 = ν) (e2 : ω2 = ω) : QT G o ν2 σ π δ τ ω2 H := by
  rw [e1, e2]; exact h
theorem ouA_lN (m : Int) (P N : List Int) : m + (P.length : Int) + (N.length : Int) = m + ((P ++ N).length : Int) := by
  rw [List.length_append]; omega
theorem kxWB_ok {m w : Int} (h : kxWB m w = 0) : 0 ≤ w ∧ w < m := by unfold kxWB at h; split at h <;> first | assumption | omega
def kxWA (p : Int) : Int := if 0 ≤ p ∧ p ≤ 7 then 0 else 1
theorem kxWA_ok {p : Int} (h : kxWA p = 0) : 0 ≤ p ∧ p ≤ 7 := by unfold kxWA at h; split at h <;> first | assumption | omega
theorem kxLoad_ok {m n : Int} (h : kxLoad m n = 0) : 0 ≤ n ∧ n ≤ m := by unfold kxLoad at h; split at h <;> first | assumption | omega
/-- what putAccount writes -/
def acL (σ : Int → Int) (p k : Int) : List Int := [32] ++ nuL 9 (σ (37 + (2 * p + k))) ++ [47] ++ limL σ p k ++ staL σ p k
theorem acL_b (σ : Int → Int) (p k : Int) : (acL σ p k).length ≤ 23 := by
  have h1 := nuL_b 9 (σ (37 + (2 * p + k)))
  have h3 := limL_b σ p k
  have h5 := staL_b σ p k
  unfold acL
  simp only [List.length_append, List.length_cons, List.length_nil]
  omega
theorem waK_a (σ : Int → Int) (p : Int) {k : Int} (h : 0 ≤ k) : waK σ p k.toNat ++ acL σ p k = waK σ p (k + 1).toNat := by
  rw [waK_s σ p h]
  unfold acL
  simp only [List.append_assoc]
section ANC
variable {σ : Int → Int}
theorem anS_d (h : In σ) {f : Int} (hf : 0 ≤ f ∧ f < σ 2) : ∀ n : Nat, (n : Int) < dpF σ f → (0 ≤ anS σ n f ∧ anS σ n f < σ 2) ∧ dpF σ (anS σ n f) = dpF σ f - n
  | 0, _ => ⟨hf, by show dpF σ f = dpF σ f - ((0 : Nat) : Int); omega⟩
  | n + 1, hn => by
    have ih := anS_d h hf n (by omega)
    have d1 := dpF_s h.cs ih.1.1 ih.1.2
    have e : anS σ (n + 1) f = σ (69 + anS σ n f) := by rw [anS, if_pos ih.1]
    rw [e]
    have hp := h.fp ih.1.1 ih.1.2
    rcases hp with q | q
    · rw [q, dpF_n] at d1; omega
    · exact ⟨q, by omega⟩
theorem root_d (h : In σ) {g : Int} (hg : 0 ≤ g ∧ g < σ 2) : dpF σ g = 1 ↔ g = 0 := by
  have d1 := dpF_s h.cs hg.1 hg.2
  constructor
  · intro z
    by_cases q : g = 0
    · exact q
    · have r := root_i h hg q
      have d2 := dpF_s h.cs r.1 r.2
      have d3 := dpF_bd σ (σ (69 + σ (69 + g)))
      omega
  · intro z
    subst z
    have r := h.root
    rw [show (69 : Int) + 0 = 69 by decide, r, dpF_n] at d1
    omega
theorem paL_st (h : In σ) : ∀ (d : Nat) (g : Int), 0 ≤ g → g < σ 2 → dpF σ g ≤ d + 1 → paL σ (d + 1) g = paL σ d g
  | 0, g, h0, h1, hd => by
    have d1 := dpF_s h.cs h0 h1
    have d2 := dpF_bd σ (σ (69 + g))
    have z : g = 0 := (root_d h ⟨h0, h1⟩).mp (by omega)
    subst z
    show (if (0 : Int) < 0 then _ else _) = _
    rw [if_neg (by decide)]; rfl
  | d + 1, g, h0, h1, hd => by
    have d1 := dpF_s h.cs h0 h1
    rw [paL]
    by_cases q : 0 < g
    · have r := root_i h ⟨h0, h1⟩ (by omega)
      rw [if_pos q, paL_st h d (σ (69 + g)) r.1 r.2 (by omega)]
      show _ = (if 0 < g then paL σ d (σ (69 + g)) ++ [47] ++ naL 7 (σ (149 + g)) else naL 7 (σ (149 + g)))
      rw [if_pos q]
    · rw [if_neg q]
      show _ = (if 0 < g then paL σ d (σ (69 + g)) ++ [47] ++ naL 7 (σ (149 + g)) else naL 7 (σ (149 + g)))
      rw [if_neg q]
/-- the path written before the s-th folder above f -/
def LPa (σ : Int → Int) (f s : Int) : List Int := if s = dpF σ (σ (69 + f)) then [] else if s = -1 then paL σ 39 f else paL σ 39 (anS σ (s + 1).toNat f) ++ [47]
theorem LPa_0 (σ : Int → Int) (f : Int) : LPa σ f (dpF σ (σ (69 + f))) = [] := if_pos rfl
theorem LPa_s (h : In σ) {f s : Int} (hf : 0 ≤ f ∧ f < σ 2) (hs : 0 ≤ s ∧ s ≤ dpF σ (σ (69 + f))) : LPa σ f s ++ naL 7 (σ (149 + anS σ s.toNat f)) = paL σ 39 (anS σ s.toNat f) := by
  have d0 := dpF_s h.cs hf.1 hf.2
  have b := dpF_bd40 h hf
  have a := anS_d h hf s.toNat (by omega)
  unfold LPa
  by_cases q : s = dpF σ (σ (69 + f))
  · rw [if_pos q]
    have z : anS σ s.toNat f = 0 := (root_d h a.1).mp (by omega)
    rw [z]
    show _ = (if (0 : Int) < 0 then _ else naL 7 (σ (149 + 0)))
    rw [if_neg (by decide)]; rfl
  · rw [if_neg q, if_neg (by omega)]
    have e : anS σ (s + 1).toNat f = σ (69 + anS σ s.toNat f) := by
      rw [show (s + 1).toNat = s.toNat + 1 by omega, anS, if_pos a.1]
    have nz : ¬ anS σ s.toNat f = 0 := fun z => by have := (root_d h a.1).mpr z; omega
    have r := root_i h a.1 nz
    have d1 := dpF_s h.cs a.1.1 a.1.2
    rw [e, paL_st h 38 _ r.1 r.2 (by omega)]
    show _ = (if 0 < anS σ s.toNat f then paL σ 38 (σ (69 + anS σ s.toNat f)) ++ [47] ++ naL 7 (σ (149 + anS σ s.toNat f)) else _)
    rw [if_pos (by omega)]
theorem LPa_p (σ : Int → Int) (f : Int) {s : Int} (hs : 0 < s ∧ s ≤ dpF σ (σ (69 + f))) : LPa σ f (s + -1) = paL σ 39 (anS σ s.toNat f) ++ [47] := by
  unfold LPa
  rw [if_neg (by omega), if_neg (by omega), show (s + -1 + 1).toNat = s.toNat by omega]
theorem LPa_z (σ : Int → Int) (f : Int) : LPa σ f (0 + -1) = paL σ 39 f := by
  have d := dpF_bd σ (σ (69 + f))
  unfold LPa
  rw [if_neg (by omega), if_pos (by decide)]
theorem LPa_b (σ : Int → Int) (f s : Int) : ((LPa σ f s).length : Int) ≤ 370 := by
  unfold LPa
  split
  · simp
  · split
    · have := paL_b σ 39 f; omega
    · have := paL_b σ 39 (anS σ (s + 1).toNat f)
      rw [List.length_append]
      show ((_ + 1 : Nat) : Int) ≤ 370
      omega
end ANC
/-- the signs that are written -/
theorem nuL_v : ∀ (d : Nat) (v : Int), 0 ≤ v → ∀ x ∈ nuL d v, 0 ≤ x ∧ x < 128
  | 0, v, h, x, hx => by
    have e := List.mem_singleton.mp hx
    omega
  | d + 1, v, h, x, hx => by
    rw [nuL] at hx
    split at hx
    · rcases List.mem_append.mp hx with q | q
      · exact nuL_v d (v / 10) (by omega) x q
      · have e := List.mem_singleton.mp q; omega
    · have e := List.mem_singleton.mp hx; omega
theorem naL_v : ∀ (d : Nat) (v : Int), 0 ≤ v → ∀ x ∈ naL d v, 0 ≤ x ∧ x < 128
  | 0, v, h, x, hx => by
    have e := List.mem_singleton.mp hx
    omega
  | d + 1, v, h, x, hx => by
    rw [naL] at hx
    split at hx
    · rcases List.mem_append.mp hx with q | q
      · exact naL_v d (v / 32) (by omega) x q
      · have e := List.mem_singleton.mp q; omega
    · have e := List.mem_singleton.mp hx; omega
theorem paL_v {σ : Int → Int} (h : In σ) : ∀ (d : Nat) (f : Int), 0 ≤ f → f < σ 2 → ∀ x ∈ paL σ d f, 0 ≤ x ∧ x < 128
  | 0, f, h0, h1, x, hx => naL_v 7 _ (by have := nmk_b (h.nam h0 h1); omega) x hx
  | d + 1, f, h0, h1, x, hx => by
    have nb := nmk_b (h.nam h0 h1)
    rw [paL] at hx
    split at hx
    · rename_i q
      have r := root_i h ⟨h0, h1⟩ (by omega)
      rcases List.mem_append.mp hx with y | y
      · rcases List.mem_append.mp y with z | z
        · exact paL_v h d _ r.1 r.2 x z
        · have e := List.mem_singleton.mp z; omega
      · exact naL_v 7 _ (by omega) x y
    · exact naL_v 7 _ (by omega) x hx
theorem waL_v {σ : Int → Int} (h : In σ) {p : Int} (hp : 0 ≤ p ∧ p ≤ 7) : ∀ x ∈ waL σ p, 0 ≤ x ∧ x < 128 := by
  have one : ∀ k : Int, k = 0 ∨ k = 1 → ∀ x ∈ acL σ p k, 0 ≤ x ∧ x < 128 := by
    intro k hk x hx
    have ha := h.acc (k := 2 * p + k) (by omega) (by omega)
    have hl := h.lmb (t := 21) (Or.inr rfl) hp hk
    unfold acL limL staL at hx
    rcases List.mem_append.mp hx with y | y
    · rcases List.mem_append.mp y with y | y
      · rcases List.mem_append.mp y with y | y
        · rcases List.mem_append.mp y with y | y
          · have e := List.mem_singleton.mp y; omega
          · exact nuL_v 9 _ (by omega) x y
        · have e := List.mem_singleton.mp y; omega
      · split at y
        · have e := List.mem_singleton.mp y; omega
        · exact nuL_v 9 _ (by omega) x y
    · split at y
      · have e := List.mem_singleton.mp y; omega
      · split at y
        · have e := List.mem_singleton.mp y; omega
        · exact absurd y List.not_mem_nil
  intro x hx
  have e : waL σ p = nuL 0 p ++ [58] ++ acL σ p 0 ++ acL σ p 1 := by
    show waK σ p (1 + 1 : Int).toNat = _
    rw [← waK_a σ p (by decide), show (1 : Int) = 0 + 1 by decide, ← waK_a σ p (Int.le_refl _)]; rfl
  rw [e] at hx
  rcases List.mem_append.mp hx with y | y
  · rcases List.mem_append.mp y with y | y
    · rcases List.mem_append.mp y with y | y
      · exact nuL_v 0 p hp.1 x y
      · have e := List.mem_singleton.mp y; omega
    · exact one 0 (Or.inl rfl) x y
  · exact one 1 (Or.inr rfl) x y
/-- what stands in a row behind which a list was put -/
theorem ouA_in : ∀ (L : List Int) (ω : Int → Int) (m j : Int), m ≤ j → j < m + (L.length : Int) → ouA ω m L j ∈ L
  | [], ω, m, j, h0, h1 => by
    have h1 : j < m + ((0 : Nat) : Int) := h1
    omega
  | c :: L, ω, m, j, h0, h1 => by
    have h1 : j < m + ((L.length + 1 : Nat) : Int) := h1
    show ouA (zu ω m c) (m + 1) L j ∈ c :: L
    by_cases q : j = m
    · have low : ∀ (L : List Int) (ω : Int → Int) (m j : Int), j < m → ouA ω m L j = ω j := by
        intro L
        induction L with
        | nil => intro ω m j _; rfl
        | cons c L ih => intro ω m j hj; show ouA (zu ω m c) (m + 1) L j = ω j; rw [ih _ _ _ (by omega), zu_n _ _ (by omega)]
      rw [low _ _ _ _ (by omega), q, zu_s]
      exact List.mem_cons_self
    · exact List.mem_cons_of_mem _ (ouA_in L _ (m + 1) j (by omega) (by omega))
theorem zu_zu (f : Int → Int) (i a b : Int) : zu (zu f i a) i b = zu f i b := by
  funext j; unfold zu; split <;> rfl
