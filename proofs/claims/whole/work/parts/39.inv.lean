/-! what holds of a tree holds behind every change -/
theorem In.rgA {σ τ : Int → Int} (h : In σ) (e : ∀ j, j < 0 ∨ (2 ≤ j ∧ j < 5) ∨ 69 ≤ j → τ j = σ j) (h0 : 0 ≤ τ 0 ∧ τ 0 ≤ 9999) (h1 : 1 ≤ τ 1 ∧ τ 1 ≤ 99)
    (hA : ∀ k : Int, 0 ≤ k → k < 16 → (0 ≤ τ (5 + k) ∧ τ (5 + k) ≤ 99999) ∧ (0 ≤ τ (21 + k) ∧ τ (21 + k) ≤ 99999) ∧ (0 ≤ τ (37 + k) ∧ τ (37 + k) ≤ 1000000000) ∧ (-1 ≤ τ (53 + k) ∧ τ (53 + k) ≤ 9999)) : In τ := by
  refine ⟨h0, h1, ?_, ?_, ?_, hA, ?_, ?_, ?_, ?_, ?_, ?_, ?_⟩
  · rw [e 2 (by omega)]; exact h.F
  · rw [e 3 (by omega)]; exact h.M
  · rw [e 4 (by omega)]; exact h.Gn
  · refine ⟨by rw [e 69 (by omega)]; exact h.root, fun f f0 hf => ?_⟩
    rw [e 2 (by omega)] at hf ⊢
    rw [e (69 + f) (by omega)]
    exact h.par1 f0 hf
  · obtain ⟨d, hd⟩ := h.rk
    refine ⟨d, fun f f0 hf => ?_⟩
    rw [e 2 (by omega)] at hf
    rw [e (69 + f) (by omega)]
    exact hd f f0 hf
  · intro f f0 hf
    rw [e 2 (by omega)] at hf
    rw [e (109 + f) (by omega)]
    exact h.tag f0 hf
  · intro f f0 hf
    rw [e 2 (by omega)] at hf
    rw [e (149 + f) (by omega)]
    exact h.nam f0 hf
  · intro k k0 hk
    rw [e 3 (by omega)] at hk
    rw [e 2 (by omega), e (189 + k) (by omega), e (249 + k) (by omega)]
    exact h.fil k0 hk
  · intro g g0 hg
    rw [e 4 (by omega)] at hg
    rw [e (309 + 4 * g) (by omega), e (309 + 4 * g + 1) (by omega), e (309 + 4 * g + 2) (by omega), e (309 + 4 * g + 3) (by omega)]
    exact h.gft g0 hg
  · intro k
    by_cases q : k < 0 ∨ (2 ≤ k ∧ k < 5) ∨ 69 ≤ k
    · rw [e k q]; exact h.bd k
    · by_cases q0 : k = 0
      · rw [q0]; omega
      · by_cases q1 : k = 1
        · rw [q1]; omega
        · by_cases q2 : k < 21
          · have r := (hA (k - 5) (by omega) (by omega)).1
            rw [show 5 + (k - 5) = k by omega] at r; omega
          · by_cases q3 : k < 37
            · have r := (hA (k - 21) (by omega) (by omega)).2.1
              rw [show 21 + (k - 21) = k by omega] at r; omega
            · by_cases q4 : k < 53
              · have r := (hA (k - 37) (by omega) (by omega)).2.2.1
                rw [show 37 + (k - 37) = k by omega] at r; omega
              · have r := (hA (k - 53) (by omega) (by omega)).2.2.2
                rw [show 53 + (k - 53) = k by omega] at r; omega
theorem In.rgF {σ τ : Int → Int} (h : In σ) (e : ∀ j, j < 2 ∨ (3 ≤ j ∧ j < 69) ∨ 189 ≤ j → τ j = σ j) (h2 : 1 ≤ τ 2 ∧ τ 2 ≤ 40)
    (hp : τ 69 = -1 ∧ ∀ f : Int, 1 ≤ f → f < τ 2 → 0 ≤ τ (69 + f) ∧ τ (69 + f) < τ 2) (hr : ∃ d : Int → Nat, ∀ f : Int, 1 ≤ f → f < τ 2 → d (τ (69 + f)) < d f)
    (ht : ∀ f : Int, 0 ≤ f → f < τ 2 → -1 ≤ τ (109 + f) ∧ τ (109 + f) ≤ 7) (hn : ∀ f : Int, 0 ≤ f → f < τ 2 → nmk (τ (149 + f)))
    (hl : ∀ k : Int, 0 ≤ k → k < σ 3 → σ (189 + k) < τ 2) (hb : ∀ j, (j = 2 ∨ (69 ≤ j ∧ j < 189)) → -4611686018427387904 ≤ τ j ∧ τ j < 4611686018427387904) : In τ := by
  refine ⟨?_, ?_, h2, ?_, ?_, ?_, hp, hr, ht, hn, ?_, ?_, ?_⟩
  · rw [e 0 (by omega)]; exact h.ti
  · rw [e 1 (by omega)]; exact h.gr
  · rw [e 3 (by omega)]; exact h.M
  · rw [e 4 (by omega)]; exact h.Gn
  · intro k k0 hk
    rw [e (5 + k) (by omega), e (21 + k) (by omega), e (37 + k) (by omega), e (53 + k) (by omega)]
    exact h.acc k0 hk
  · intro k k0 hk
    rw [e 3 (by omega)] at hk
    rw [e (189 + k) (by omega), e (249 + k) (by omega)]
    have q := h.fil k0 hk
    exact ⟨⟨q.1.1, hl k k0 hk⟩, q.2⟩
  · intro g g0 hg
    rw [e 4 (by omega)] at hg
    rw [e (309 + 4 * g) (by omega), e (309 + 4 * g + 1) (by omega), e (309 + 4 * g + 2) (by omega), e (309 + 4 * g + 3) (by omega)]
    exact h.gft g0 hg
  · intro k
    by_cases q : k < 2 ∨ (3 ≤ k ∧ k < 69) ∨ 189 ≤ k
    · rw [e k q]; exact h.bd k
    · exact hb k (by omega)
theorem In.rgM {σ τ : Int → Int} (h : In σ) (e : ∀ j, j < 3 ∨ (4 ≤ j ∧ j < 189) ∨ 309 ≤ j → τ j = σ j) (h3 : 0 ≤ τ 3 ∧ τ 3 ≤ 60)
    (hf : ∀ k : Int, 0 ≤ k → k < τ 3 → (0 ≤ τ (189 + k) ∧ τ (189 + k) < σ 2) ∧ (0 ≤ τ (249 + k) ∧ τ (249 + k) ≤ 9999))
    (hb : ∀ j, 189 ≤ j → j < 309 → -4611686018427387904 ≤ τ j ∧ τ j < 4611686018427387904) : In τ := by
  refine ⟨?_, ?_, ?_, h3, ?_, ?_, ?_, ?_, ?_, ?_, ?_, ?_, ?_⟩
  · rw [e 0 (by omega)]; exact h.ti
  · rw [e 1 (by omega)]; exact h.gr
  · rw [e 2 (by omega)]; exact h.F
  · rw [e 4 (by omega)]; exact h.Gn
  · intro k k0 hk
    rw [e (5 + k) (by omega), e (21 + k) (by omega), e (37 + k) (by omega), e (53 + k) (by omega)]
    exact h.acc k0 hk
  · have hF := h.F
    refine ⟨by rw [e 69 (by omega)]; exact h.root, fun f f0 hf => ?_⟩
    rw [e 2 (by omega)] at hf ⊢
    rw [e (69 + f) (by omega)]
    exact h.par1 f0 hf
  · have hF := h.F
    obtain ⟨d, hd⟩ := h.rk
    refine ⟨d, fun f f0 hf => ?_⟩
    rw [e 2 (by omega)] at hf
    rw [e (69 + f) (by omega)]
    exact hd f f0 hf
  · have hF := h.F
    intro f f0 hf
    rw [e 2 (by omega)] at hf
    rw [e (109 + f) (by omega)]
    exact h.tag f0 hf
  · have hF := h.F
    intro f f0 hf
    rw [e 2 (by omega)] at hf
    rw [e (149 + f) (by omega)]
    exact h.nam f0 hf
  · intro k k0 hk
    rw [e 2 (by omega)]
    exact hf k k0 hk
  · intro g g0 hg
    rw [e 4 (by omega)] at hg
    rw [e (309 + 4 * g) (by omega), e (309 + 4 * g + 1) (by omega), e (309 + 4 * g + 2) (by omega), e (309 + 4 * g + 3) (by omega)]
    exact h.gft g0 hg
  · intro k
    by_cases q : k < 3 ∨ (4 ≤ k ∧ k < 189) ∨ 309 ≤ k
    · rw [e k q]; exact h.bd k
    · by_cases q3 : k = 3
      · rw [q3]; omega
      · exact hb k (by omega) (by omega)
theorem In.rgG {σ τ : Int → Int} (h : In σ) (e : ∀ j, j < 4 ∨ (5 ≤ j ∧ j < 309) → τ j = σ j) (h4 : 0 ≤ τ 4 ∧ τ 4 ≤ 12)
    (hg : ∀ g : Int, 0 ≤ g → g < τ 4 → (0 ≤ τ (309 + 4 * g) ∧ τ (309 + 4 * g) ≤ 7) ∧ (0 ≤ τ (309 + 4 * g + 1) ∧ τ (309 + 4 * g + 1) ≤ 7) ∧ (1 ≤ τ (309 + 4 * g + 2) ∧ τ (309 + 4 * g + 2) ≤ 9999) ∧ (0 ≤ τ (309 + 4 * g + 3) ∧ τ (309 + 4 * g + 3) ≤ 19999))
    (hb : ∀ j, 309 ≤ j → -4611686018427387904 ≤ τ j ∧ τ j < 4611686018427387904) : In τ := by
  have hF := h.F
  have hM := h.M
  refine ⟨?_, ?_, ?_, ?_, h4, ?_, ?_, ?_, ?_, ?_, ?_, hg, ?_⟩
  · rw [e 0 (by omega)]; exact h.ti
  · rw [e 1 (by omega)]; exact h.gr
  · rw [e 2 (by omega)]; exact h.F
  · rw [e 3 (by omega)]; exact h.M
  · intro k k0 hk
    rw [e (5 + k) (by omega), e (21 + k) (by omega), e (37 + k) (by omega), e (53 + k) (by omega)]
    exact h.acc k0 hk
  · refine ⟨by rw [e 69 (by omega)]; exact h.root, fun f f0 hf => ?_⟩
    rw [e 2 (by omega)] at hf ⊢
    rw [e (69 + f) (by omega)]
    exact h.par1 f0 hf
  · obtain ⟨d, hd⟩ := h.rk
    refine ⟨d, fun f f0 hf => ?_⟩
    rw [e 2 (by omega)] at hf
    rw [e (69 + f) (by omega)]
    exact hd f f0 hf
  · intro f f0 hf
    rw [e 2 (by omega)] at hf
    rw [e (109 + f) (by omega)]
    exact h.tag f0 hf
  · intro f f0 hf
    rw [e 2 (by omega)] at hf
    rw [e (149 + f) (by omega)]
    exact h.nam f0 hf
  · intro k k0 hk
    rw [e 3 (by omega)] at hk
    rw [e 2 (by omega), e (189 + k) (by omega), e (249 + k) (by omega)]
    exact h.fil k0 hk
  · intro k
    by_cases q : k < 4 ∨ (5 ≤ k ∧ k < 309)
    · rw [e k q]; exact h.bd k
    · by_cases q4 : k = 4
      · rw [q4]; omega
      · exact hb k (by omega)
/-- amounts that can still grow by one change -/
def Ub (σ : Int → Int) : Prop := ∀ k : Int, 0 ≤ k → k < 16 → σ (37 + k) ≤ 999000000
theorem In.coAI {σ : Int → Int} (h : In σ) {p b n : Int} (hp : -1 ≤ p ∧ p ≤ 7) (hb : -1000000 ≤ b ∧ b ≤ 1000000) (hn : -1000000 ≤ n ∧ n ≤ 1000000) (hu : Ub σ) : In (coA σ p b n) := by
  refine h.rgA (fun j hj => coA_n hp (by omega)) (by rw [coA_n hp (by omega)]; exact h.ti) (by rw [coA_n hp (by omega)]; exact h.gr) (fun k k0 hk => ?_)
  have q := h.acc k0 hk
  rw [coA_n (j := 5 + k) hp (by omega), coA_n (j := 21 + k) hp (by omega), coA_n (j := 53 + k) hp (by omega)]
  refine ⟨q.1, q.2.1, ?_, q.2.2.2⟩
  have u := hu k k0 hk
  unfold coA
  by_cases z : p = -1
  · rw [if_pos z]; exact q.2.2.1
  · rw [if_neg z]
    have u0 := hu (2 * p + 0) (by omega) (by omega)
    have u1 := hu (2 * p + 1) (by omega) (by omega)
    unfold zu
    split
    · omega
    · split
      · omega
      · exact q.2.2.1
/-- a loss keeps all -/
theorem In.coAl {σ : Int → Int} (h : In σ) {p b n : Int} (hp : -1 ≤ p ∧ p ≤ 7) (hb : b ≤ 0) (hn : n ≤ 0) : In (coA σ p b n) := by
  refine h.rgA (fun j hj => coA_n hp (by omega)) (by rw [coA_n hp (by omega)]; exact h.ti) (by rw [coA_n hp (by omega)]; exact h.gr) (fun k k0 hk => ?_)
  have q := h.acc k0 hk
  rw [coA_n (j := 5 + k) hp (by omega), coA_n (j := 21 + k) hp (by omega), coA_n (j := 53 + k) hp (by omega)]
  refine ⟨q.1, q.2.1, ?_, q.2.2.2⟩
  unfold coA
  by_cases z : p = -1
  · rw [if_pos z]; exact q.2.2.1
  · rw [if_neg z]
    have u0 := h.acc (k := 2 * p + 0) (by omega) (by omega)
    have u1 := h.acc (k := 2 * p + 1) (by omega) (by omega)
    unfold zu
    split
    · omega
    · split
      · omega
      · exact q.2.2.1
theorem In.paAI {σ : Int → Int} (h : In σ) (f : Int) {a t : Int} (ha : -1 ≤ a ∧ a ≤ 7) (ht : -1 ≤ t ∧ t ≤ 7) (hu : Ub σ) : In (paA σ f a t) := by
  have o1 := h.opb f 1
  have o0 := h.opb f 0
  unfold paA
  split
  · exact h
  · exact (h.coAI ht (by omega) (by omega) hu).coAl ha (by omega) (by omega)
theorem paA_n {σ : Int → Int} {f a t j : Int} (ha : -1 ≤ a ∧ a ≤ 7) (ht : -1 ≤ t ∧ t ≤ 7) (h : j < 37 ∨ 53 ≤ j) : paA σ f a t j = σ j := by
  unfold paA
  split
  · rfl
  · rw [coA_n ha h, coA_n ht h]
theorem In.time {σ : Int → Int} (h : In σ) {t : Int} (ht : 0 ≤ t ∧ t ≤ 9999) : In (zu σ 0 t) :=
  h.rgA (fun j hj => zu_n _ _ (by omega)) (by rw [zu_s]; exact ht) (by rw [zu_n _ _ (by omega)]; exact h.gr) (fun k k0 hk => by rw [zu_n _ _ (by omega), zu_n _ _ (by omega), zu_n _ _ (by omega), zu_n _ _ (by omega)]; exact h.acc k0 hk)
theorem In.grace {σ : Int → Int} (h : In σ) {t : Int} (ht : 1 ≤ t ∧ t ≤ 99) : In (zu σ 1 t) :=
  h.rgA (fun j hj => zu_n _ _ (by omega)) (by rw [zu_n _ _ (by omega)]; exact h.ti) (by rw [zu_s]; exact ht) (fun k k0 hk => by rw [zu_n _ _ (by omega), zu_n _ _ (by omega), zu_n _ _ (by omega), zu_n _ _ (by omega)]; exact h.acc k0 hk)
theorem In.amt {σ : Int → Int} (h : In σ) {a v : Int} (ha : 0 ≤ a ∧ a < 16) (hv : 0 ≤ v ∧ v ≤ 1000000000) : In (zu σ (37 + a) v) :=
  h.rgA (fun j hj => zu_n _ _ (by omega)) (by rw [zu_n _ _ (by omega)]; exact h.ti) (by rw [zu_n _ _ (by omega)]; exact h.gr) (fun k k0 hk => by
    have q := h.acc k0 hk
    rw [zu_n _ _ (by omega), zu_n _ _ (by omega), zu_n (j := 53 + k) _ _ (by omega)]
    refine ⟨q.1, q.2.1, ?_, q.2.2.2⟩
    unfold zu; split
    · exact hv
    · exact q.2.2.1)
theorem In.lims {σ : Int → Int} (h : In σ) {a x y : Int} (ha : 0 ≤ a ∧ a < 16) (hx : 0 ≤ x ∧ x ≤ 99999) (hy : 0 ≤ y ∧ y ≤ 99999) : In (zu (zu σ (5 + a) x) (21 + a) y) :=
  h.rgA (fun j hj => by rw [zu_n _ _ (by omega), zu_n _ _ (by omega)]) (by rw [zu_n _ _ (by omega), zu_n _ _ (by omega)]; exact h.ti) (by rw [zu_n _ _ (by omega), zu_n _ _ (by omega)]; exact h.gr) (fun k k0 hk => by
    have q := h.acc k0 hk
    rw [zu_n (j := 5 + k) _ _ (by omega), zu_n (j := 37 + k) _ _ (by omega), zu_n (j := 37 + k) _ _ (by omega), zu_n (j := 53 + k) _ _ (by omega), zu_n (j := 53 + k) _ _ (by omega)]
    refine ⟨?_, ?_, q.2.2.1, q.2.2.2⟩
    · unfold zu; split
      · exact hx
      · exact q.1
    · unfold zu; split
      · exact hy
      · split
        · omega
        · exact q.2.1)
theorem In.tagS {σ : Int → Int} (h : In σ) {f t : Int} (hf : 0 ≤ f ∧ f < σ 2) (ht : -1 ≤ t ∧ t ≤ 7) : In (zu σ (109 + f) t) := by
  have hF := h.F
  have e2 : zu σ (109 + f) t 2 = σ 2 := zu_n _ _ (by omega)
  refine h.rgF (fun j hj => zu_n _ _ (by omega)) (by rw [e2]; exact hF) ⟨by rw [zu_n _ _ (by omega)]; exact h.root, fun g g0 hg => ?_⟩ ?_ (fun g g0 hg => ?_) (fun g g0 hg => ?_) (fun k k0 hk => by rw [e2]; exact (h.fil k0 hk).1.2) (fun j hj => ?_)
  · rw [e2] at hg ⊢
    rw [zu_n _ _ (by omega)]; exact h.par1 g0 hg
  · obtain ⟨d, hd⟩ := h.rk
    refine ⟨d, fun g g0 hg => ?_⟩
    rw [e2] at hg
    rw [zu_n _ _ (by omega)]; exact hd g g0 hg
  · rw [e2] at hg
    unfold zu; split
    · exact ht
    · exact h.tag g0 hg
  · rw [e2] at hg
    rw [zu_n _ _ (by omega)]; exact h.nam g0 hg
  · unfold zu; split
    · omega
    · exact h.bd j
theorem blF_o {σ : Int → Int} (h : In σ) {q f : Int} (hq : 0 ≤ q ∧ q < σ 2) (hn : ¬ blF σ q f = true) : ¬ q = f ∧ ¬ blF σ (σ (69 + q)) f = true := by
  rw [blF_s h.cs hq.1 hq.2] at hn
  by_cases z : q = f
  · rw [if_pos z] at hn; exact absurd rfl hn
  · rw [if_neg z] at hn; exact ⟨z, hn⟩
theorem In.parS {σ : Int → Int} (h : In σ) {f q : Int} (hf : 1 ≤ f ∧ f < σ 2) (hq : 0 ≤ q ∧ q < σ 2) (hn : ¬ blF σ q f = true) : In (zu σ (69 + f) q) := by
  have hF := h.F
  have e2 : zu σ (69 + f) q 2 = σ 2 := zu_n _ _ (by omega)
  refine h.rgF (fun j hj => zu_n _ _ (by omega)) (by rw [e2]; exact hF) ⟨by rw [zu_n _ _ (by omega)]; exact h.root, fun g g0 hg => ?_⟩ ?_ (fun g g0 hg => ?_) (fun g g0 hg => ?_) (fun k k0 hk => by rw [e2]; exact (h.fil k0 hk).1.2) (fun j hj => ?_)
  · rw [e2] at hg ⊢
    unfold zu; split
    · exact hq
    · exact h.par1 g0 hg
  · obtain ⟨d, hd⟩ := h.rk
    refine ⟨fun x => if blF σ x f = true then d x + (d q + 1) else d x, fun g g0 hg => ?_⟩
    rw [e2] at hg
    by_cases z : g = f
    · subst z
      rw [zu_s]
      have y : blF σ g g = true := by rw [blF_s h.cs (by omega) hg, if_pos rfl]
      show (if blF σ q g = true then _ else _) < (if blF σ g g = true then _ else _)
      rw [if_neg hn, if_pos y]; omega
    · rw [zu_n _ _ (by omega)]
      have r := hd g g0 hg
      have s := blF_s (a := f) h.cs (f := g) (by omega) hg
      rw [if_neg z] at s
      show (if blF σ (σ (69 + g)) f = true then _ else _) < (if blF σ g f = true then _ else _)
      rw [s]
      by_cases w : blF σ (σ (69 + g)) f = true
      · rw [if_pos w, if_pos w]; omega
      · rw [if_neg w, if_neg w]; exact r
  · rw [e2] at hg
    rw [zu_n _ _ (by omega)]; exact h.tag g0 hg
  · rw [e2] at hg
    rw [zu_n _ _ (by omega)]; exact h.nam g0 hg
  · unfold zu; split
    · omega
    · exact h.bd j
theorem nmo_b : ∀ (n : Nat) (x : Int), nmo n x → 0 ≤ x ∧ x < 32 ^ n
  | 0, x, h => by
    have h : x = 0 := h
    subst h; decide
  | n + 1, x, h => by
    rcases h with h | ⟨h1, h2, h3, h4⟩
    · subst h
      exact ⟨by omega, Int.pow_pos (by decide)⟩
    · have q := nmo_b n _ h4
      have e : (32 : Int) ^ (n + 1) = 32 ^ n * 32 := Int.pow_succ 32 n
      refine ⟨by omega, ?_⟩
      rw [e]; omega
theorem nmk_b {x : Int} (h : nmk x) : 0 < x ∧ x < 1099511627776 := by
  have q := nmo_b 8 x h.2
  exact ⟨h.1, by have := q.2; omega⟩
theorem In.adFI {σ : Int → Int} (h : In σ) {p x : Int} (h40 : σ 2 < 40) (hp : 0 ≤ p ∧ p < σ 2) (hx : nmk x) : In (adF σ p x) := by
  have hF := h.F
  have hxb := nmk_b hx
  have v : ∀ j, adF σ p x j = if j = 2 then σ 2 + 1 else if j = 149 + σ 2 then x else if j = 109 + σ 2 then -1 else if j = 69 + σ 2 then p else σ j := fun j => rfl
  have e2 : adF σ p x 2 = σ 2 + 1 := by rw [v]; rfl
  have eo : ∀ j, ¬ j = 2 → ¬ j = 149 + σ 2 → ¬ j = 109 + σ 2 → ¬ j = 69 + σ 2 → adF σ p x j = σ j := fun j a b c d => by rw [v, if_neg a, if_neg b, if_neg c, if_neg d]
  have ep : adF σ p x (69 + σ 2) = p := by rw [v, if_neg (by omega), if_neg (by omega), if_neg (by omega), if_pos rfl]
  have et : adF σ p x (109 + σ 2) = -1 := by rw [v, if_neg (by omega), if_neg (by omega), if_pos rfl]
  have en : adF σ p x (149 + σ 2) = x := by rw [v, if_neg (by omega), if_pos rfl]
  refine h.rgF (fun j hj => eo j (by omega) (by omega) (by omega) (by omega)) (by rw [e2]; omega) ⟨by rw [eo 69 (by omega) (by omega) (by omega) (by omega)]; exact h.root, fun g g0 hg => ?_⟩ ?_ (fun g g0 hg => ?_) (fun g g0 hg => ?_) (fun k k0 hk => by rw [e2]; have := (h.fil k0 hk).1.2; omega) (fun j hj => ?_)
  · rw [e2] at hg ⊢
    by_cases z : g = σ 2
    · rw [z, ep]; omega
    · rw [eo _ (by omega) (by omega) (by omega) (by omega)]
      have q := h.par1 g0 (show g < σ 2 by omega)
      omega
  · obtain ⟨d, hd⟩ := h.rk
    refine ⟨fun y => if y = σ 2 then d p + 1 else d y, fun g g0 hg => ?_⟩
    rw [e2] at hg
    by_cases z : g = σ 2
    · rw [z, ep]
      show (if p = σ 2 then _ else _) < (if σ 2 = σ 2 then _ else _)
      rw [if_neg (by omega), if_pos rfl]; omega
    · rw [eo _ (by omega) (by omega) (by omega) (by omega)]
      have q := h.par1 g0 (show g < σ 2 by omega)
      show (if σ (69 + g) = σ 2 then _ else _) < (if g = σ 2 then _ else _)
      rw [if_neg (by omega), if_neg z]
      exact hd g g0 (by omega)
  · rw [e2] at hg
    by_cases z : g = σ 2
    · rw [z, et]; omega
    · rw [eo _ (by omega) (by omega) (by omega) (by omega)]
      exact h.tag g0 (by omega)
  · rw [e2] at hg
    by_cases z : g = σ 2
    · rw [z, en]; exact hx
    · rw [eo _ (by omega) (by omega) (by omega) (by omega)]
      exact h.nam g0 (by omega)
  · have b := h.bd j
    rw [v]
    split
    · omega
    · split
      · omega
      · split
        · omega
        · split <;> omega
theorem In.afFI {σ : Int → Int} (h : In σ) {f b : Int} (h60 : σ 3 < 60) (hf : 0 ≤ f ∧ f < σ 2) (hb : 0 ≤ b ∧ b ≤ 9999) : In (afF σ f b) := by
  have hM := h.M
  have hF := h.F
  have v : ∀ j, afF σ f b j = if j = 3 then σ 3 + 1 else if j = 249 + σ 3 then b else if j = 189 + σ 3 then f else σ j := fun j => rfl
  have e3 : afF σ f b 3 = σ 3 + 1 := by rw [v]; rfl
  have eo : ∀ j, ¬ j = 3 → ¬ j = 249 + σ 3 → ¬ j = 189 + σ 3 → afF σ f b j = σ j := fun j a b c => by rw [v, if_neg a, if_neg b, if_neg c]
  have el : afF σ f b (189 + σ 3) = f := by rw [v, if_neg (by omega), if_neg (by omega), if_pos rfl]
  have es : afF σ f b (249 + σ 3) = b := by rw [v, if_neg (by omega), if_pos rfl]
  refine h.rgM (fun j hj => eo j (by omega) (by omega) (by omega)) (by rw [e3]; omega) (fun k k0 hk => ?_) (fun j j0 j1 => ?_)
  · rw [e3] at hk
    by_cases z : k = σ 3
    · rw [z, el, es]; exact ⟨hf, hb⟩
    · rw [eo _ (by omega) (by omega) (by omega), eo _ (by omega) (by omega) (by omega)]
      exact h.fil k0 (by omega)
  · have q := h.bd j
    rw [v]
    split
    · omega
    · split
      · omega
      · split <;> omega
theorem In.siz {σ : Int → Int} (h : In σ) {k b : Int} (hk : 0 ≤ k ∧ k < σ 3) (hb : 0 ≤ b ∧ b ≤ 9999) : In (zu σ (249 + k) b) := by
  have hM := h.M
  have e3 : zu σ (249 + k) b 3 = σ 3 := zu_n _ _ (by omega)
  refine h.rgM (fun j hj => zu_n _ _ (by omega)) (by rw [e3]; exact hM) (fun i i0 hi => ?_) (fun j j0 j1 => ?_)
  · rw [e3] at hi
    have q := h.fil i0 hi
    rw [zu_n _ _ (by omega)]
    refine ⟨q.1, ?_⟩
    unfold zu; split
    · exact hb
    · exact q.2
  · unfold zu; split
    · omega
    · exact h.bd j
theorem In.lie {σ : Int → Int} (h : In σ) {k f : Int} (hk : 0 ≤ k ∧ k < σ 3) (hf : 0 ≤ f ∧ f < σ 2) : In (zu σ (189 + k) f) := by
  have hM := h.M
  have hF := h.F
  have e3 : zu σ (189 + k) f 3 = σ 3 := zu_n _ _ (by omega)
  refine h.rgM (fun j hj => zu_n _ _ (by omega)) (by rw [e3]; exact hM) (fun i i0 hi => ?_) (fun j j0 j1 => ?_)
  · rw [e3] at hi
    have q := h.fil i0 hi
    rw [zu_n (j := 249 + i) _ _ (by omega)]
    refine ⟨?_, q.2⟩
    unfold zu; split
    · exact hf
    · exact q.1
  · unfold zu; split
    · omega
    · exact h.bd j
theorem dfA_v {σ : Int → Int} (hM : 0 ≤ σ 3 ∧ σ 3 ≤ 60) {k : Int} (hk : 0 ≤ k ∧ k < σ 3) (j : Int) : dfA σ k j = if 249 + k ≤ j ∧ j < 249 + (σ 3 - 1) then σ (j + 1) else if 189 + k ≤ j ∧ j < 189 + (σ 3 - 1) then σ (j + 1) else if j = 3 then σ 3 - 1 else σ j := by
  have v1 : ∀ i, clA (zu σ 3 (σ 3 - 1)) 189 k (σ 3 - 1) i = if 189 + k ≤ i ∧ i < 189 + (σ 3 - 1) then σ (i + 1) else if i = 3 then σ 3 - 1 else σ i := by
    intro i
    unfold clA zu
    split
    · rw [if_neg (by omega)]
    · rfl
  unfold dfA
  show (if 249 + k ≤ j ∧ j < 249 + (σ 3 - 1) then clA (zu σ 3 (σ 3 - 1)) 189 k (σ 3 - 1) (j + 1) else clA (zu σ 3 (σ 3 - 1)) 189 k (σ 3 - 1) j) = _
  rw [v1, v1]
  by_cases a : 249 + k ≤ j ∧ j < 249 + (σ 3 - 1)
  · rw [if_pos a, if_pos a, if_neg (by omega), if_neg (by omega)]
  · rw [if_neg a, if_neg a]
theorem In.dfAI {σ : Int → Int} (h : In σ) {k : Int} (hk : 0 ≤ k ∧ k < σ 3) : In (dfA σ k) := by
  have hM := h.M
  have hF := h.F
  have v := dfA_v hM hk
  have e3 : dfA σ k 3 = σ 3 - 1 := by rw [v, if_neg (by omega), if_neg (by omega), if_pos rfl]
  refine h.rgM (fun j hj => by rw [v, if_neg (by omega), if_neg (by omega), if_neg (by omega)]) (by rw [e3]; omega) (fun i i0 hi => ?_) (fun j j0 j1 => ?_)
  · rw [e3] at hi
    rw [v (189 + i), if_neg (by omega), v (249 + i)]
    have q := h.fil (k := i) i0 (by omega)
    have r := h.fil (k := i + 1) (by omega) (by omega)
    rw [show (189 : Int) + i + 1 = 189 + (i + 1) by omega, show (249 : Int) + i + 1 = 249 + (i + 1) by omega]
    by_cases z : k ≤ i
    · rw [if_pos (by omega), if_pos (by omega)]; exact r
    · rw [if_neg (by omega), if_neg (by omega), if_neg (by omega), if_neg (by omega), if_neg (by omega)]; exact q
  · have b := h.bd j
    have b1 := h.bd (j + 1)
    rw [v]
    split
    · exact b1
    · split
      · exact b1
      · split
        · omega
        · exact b
theorem cn_z {p : Int → Int} (hp : ∀ k, 0 ≤ p k) : ∀ n : Nat, cn p n = 0 → ∀ k : Int, 0 ≤ k → k < n → p k = 0
  | 0, _, k, h0, h1 => by omega
  | n + 1, h, k, h0, h1 => by
    have a := hp n
    have b : 0 ≤ cn p n := by
      have c := cn_le hp 0 n
      rw [Nat.zero_add] at c
      exact c
    have c : cn p n + p n = 0 := h
    by_cases z : k = n
    · rw [z]; omega
    · exact cn_z hp n (by omega) k h0 (by omega)
theorem biS_0 {σ : Int → Int} (hF : 0 ≤ σ 2) {f : Int} (h : biS σ f = 0) : ∀ k : Int, 0 ≤ k → k < σ 2 → ¬ σ (69 + k) = f := by
  intro k k0 k1 z
  have q := cn_z (p := biP σ f) (fun j => by unfold biP; split <;> omega) (σ 2).toNat h k k0 (by omega)
  unfold biP at q
  rw [if_pos z] at q
  omega
theorem fiS_0 {σ : Int → Int} (hM : 0 ≤ σ 3) {f : Int} (h : fiS σ f = 0) : ∀ k : Int, 0 ≤ k → k < σ 3 → ¬ σ (189 + k) = f := by
  intro k k0 k1 z
  have q := cn_z (p := fiP σ f) (fun j => by unfold fiP; split <;> omega) (σ 3).toNat h k k0 (by omega)
  unfold fiP at q
  rw [if_pos z] at q
  omega
theorem rf1_v {σ : Int → Int} (hF : 1 ≤ σ 2 ∧ σ 2 ≤ 40) {f : Int} (hf : 1 ≤ f ∧ f < σ 2) (j : Int) : rf1 σ f j = if (69 + f ≤ j ∧ j < 69 + (σ 2 - 1)) ∨ (109 + f ≤ j ∧ j < 109 + (σ 2 - 1)) ∨ (149 + f ≤ j ∧ j < 149 + (σ 2 - 1)) then σ (j + 1) else if j = 2 then σ 2 - 1 else σ j := by
  have v1 : ∀ i, clA (zu σ 2 (σ 2 - 1)) 69 f (σ 2 - 1) i = if 69 + f ≤ i ∧ i < 69 + (σ 2 - 1) then σ (i + 1) else if i = 2 then σ 2 - 1 else σ i := by
    intro i
    unfold clA zu
    split
    · rw [if_neg (by omega)]
    · rfl
  have v2 : ∀ i, clA (clA (zu σ 2 (σ 2 - 1)) 69 f (σ 2 - 1)) 109 f (σ 2 - 1) i = if (69 + f ≤ i ∧ i < 69 + (σ 2 - 1)) ∨ (109 + f ≤ i ∧ i < 109 + (σ 2 - 1)) then σ (i + 1) else if i = 2 then σ 2 - 1 else σ i := by
    intro i
    show (if 109 + f ≤ i ∧ i < 109 + (σ 2 - 1) then clA (zu σ 2 (σ 2 - 1)) 69 f (σ 2 - 1) (i + 1) else clA (zu σ 2 (σ 2 - 1)) 69 f (σ 2 - 1) i) = _
    rw [v1, v1]
    by_cases a : 109 + f ≤ i ∧ i < 109 + (σ 2 - 1)
    · rw [if_pos a, if_neg (by omega), if_neg (by omega), if_pos (Or.inr a)]
    · rw [if_neg a]
      by_cases b : 69 + f ≤ i ∧ i < 69 + (σ 2 - 1)
      · rw [if_pos b, if_pos (Or.inl b)]
      · rw [if_neg b, if_neg (show ¬ ((69 + f ≤ i ∧ i < 69 + (σ 2 - 1)) ∨ (109 + f ≤ i ∧ i < 109 + (σ 2 - 1))) from fun z => z.elim b a)]
  show (if 149 + f ≤ j ∧ j < 149 + (σ 2 - 1) then clA (clA (zu σ 2 (σ 2 - 1)) 69 f (σ 2 - 1)) 109 f (σ 2 - 1) (j + 1) else clA (clA (zu σ 2 (σ 2 - 1)) 69 f (σ 2 - 1)) 109 f (σ 2 - 1) j) = _
  rw [v2, v2]
  by_cases a : 149 + f ≤ j ∧ j < 149 + (σ 2 - 1)
  · rw [if_pos a, if_neg (by omega), if_neg (by omega), if_pos (Or.inr (Or.inr a))]
  · rw [if_neg a]
    by_cases b : (69 + f ≤ j ∧ j < 69 + (σ 2 - 1)) ∨ (109 + f ≤ j ∧ j < 109 + (σ 2 - 1))
    · rw [if_pos b, if_pos (by omega)]
    · rw [if_neg b, if_neg (show ¬ ((69 + f ≤ j ∧ j < 69 + (σ 2 - 1)) ∨ (109 + f ≤ j ∧ j < 109 + (σ 2 - 1)) ∨ (149 + f ≤ j ∧ j < 149 + (σ 2 - 1))) by omega)]
theorem rfA_o {σ : Int → Int} {f j : Int} (hF : σ 2 ≤ 40 ∧ 0 ≤ σ 3) (h : j < 69 ∨ (69 + (σ 2 - 1) ≤ j ∧ j < 189) ∨ 189 + σ 3 ≤ j) : rfA σ f j = rf1 σ f j := by
  unfold rfA dcA
  rw [if_neg (by omega), if_neg (by omega)]
theorem rfA_p {σ : Int → Int} {f j : Int} (hF : σ 2 ≤ 40) (h : 69 ≤ j ∧ j < 69 + (σ 2 - 1)) : rfA σ f j = if f < rf1 σ f j then rf1 σ f j - 1 else rf1 σ f j := by
  unfold rfA dcA
  rw [if_neg (by omega), if_pos h]
theorem rfA_l {σ : Int → Int} {f j : Int} (hF : 1 ≤ σ 2 ∧ σ 2 ≤ 40) (hf : 1 ≤ f ∧ f < σ 2) (h : 189 ≤ j ∧ j < 189 + σ 3) : rfA σ f j = if f < σ j then σ j - 1 else σ j := by
  have e : dcA (rf1 σ f) 69 f (σ 2 - 1) j = σ j := by
    unfold dcA
    rw [if_neg (by omega), rf1_v hF hf, if_neg (by omega), if_neg (by omega)]
  show (if 189 ≤ j ∧ j < 189 + σ 3 then (if f < dcA (rf1 σ f) 69 f (σ 2 - 1) j then dcA (rf1 σ f) 69 f (σ 2 - 1) j - 1 else dcA (rf1 σ f) 69 f (σ 2 - 1) j) else dcA (rf1 σ f) 69 f (σ 2 - 1) j) = _
  rw [if_pos h, e]
theorem In.rfAI {σ : Int → Int} (h : In σ) {f : Int} (hf : 1 ≤ f ∧ f < σ 2) (hb : biS σ f = 0) (hl : fiS σ f = 0) : In (rfA σ f) := by
  have hF := h.F
  have hM := h.M
  have nb := biS_0 (by omega) hb
  have nl := fiS_0 (by omega) hl
  have v := rf1_v hF hf
  have e2 : rfA σ f 2 = σ 2 - 1 := by rw [rfA_o (by omega) (by omega), v, if_neg (by omega), if_pos rfl]
  have eo : ∀ j, j < 2 ∨ (3 ≤ j ∧ j < 69) ∨ 189 + σ 3 ≤ j → rfA σ f j = σ j := fun j hj => by rw [rfA_o (by omega) (by omega), v, if_neg (by omega), if_neg (by omega)]
  have epa : ∀ g, 0 ≤ g → g < σ 2 - 1 → ∀ i, i = (if f ≤ g then g + 1 else g) → rfA σ f (69 + g) = if f < σ (69 + i) then σ (69 + i) - 1 else σ (69 + i) := fun g g0 g1 i hi => by
    have ev : rf1 σ f (69 + g) = σ (69 + i) := by
      rw [v]
      by_cases z : f ≤ g
      · rw [if_pos z] at hi
        rw [if_pos (by omega), hi, show (69 : Int) + g + 1 = 69 + (g + 1) by omega]
      · rw [if_neg z] at hi
        rw [if_neg (by omega), if_neg (by omega), hi]
    rw [rfA_p hF.2 (by omega), ev]
  have etn : ∀ b g, b = 109 ∨ b = 149 → 0 ≤ g → g < σ 2 - 1 → rfA σ f (b + g) = σ (b + (if f ≤ g then g + 1 else g)) := fun b g hb2 g0 g1 => by
    rw [rfA_o (by omega) (by omega), v]
    by_cases z : f ≤ g
    · rw [if_pos (by omega), if_pos z, show b + g + 1 = b + (g + 1) by omega]
    · rw [if_neg (by omega), if_neg (by omega), if_neg z]
  refine ⟨?_, ?_, ?_, ?_, ?_, ?_, ⟨?_, ?_⟩, ?_, ?_, ?_, ?_, ?_, ?_⟩
  · rw [eo 0 (by omega)]; exact h.ti
  · rw [eo 1 (by omega)]; exact h.gr
  · rw [e2]; omega
  · rw [eo 3 (by omega)]; exact h.M
  · rw [eo 4 (by omega)]; exact h.Gn
  · intro k k0 hk
    rw [eo (5 + k) (by omega), eo (21 + k) (by omega), eo (37 + k) (by omega), eo (53 + k) (by omega)]
    exact h.acc k0 hk
  · have q := epa 0 (by omega) (by omega) 0 (by rw [if_neg (by omega)])
    rw [show (69 : Int) + 0 = 69 by omega, h.root, if_neg (by omega)] at q
    exact q
  · intro g g0 hg
    rw [e2] at hg ⊢
    by_cases z : f ≤ g
    · rw [epa g (by omega) hg (g + 1) (by rw [if_pos z])]
      have q := h.par1 (f := g + 1) (by omega) (by omega)
      have r := nb (g + 1) (by omega) (by omega)
      split <;> omega
    · rw [epa g (by omega) hg g (by rw [if_neg z])]
      have q := h.par1 (f := g) (by omega) (by omega)
      have r := nb g (by omega) (by omega)
      split <;> omega
  · obtain ⟨d, hd⟩ := h.rk
    refine ⟨fun i => d (if f ≤ i then i + 1 else i), fun g g0 hg => ?_⟩
    rw [e2] at hg
    have key : ∀ i, i = (if f ≤ g then g + 1 else g) → 1 ≤ i → i < σ 2 → d (if f ≤ rfA σ f (69 + g) then rfA σ f (69 + g) + 1 else rfA σ f (69 + g)) < d (if f ≤ g then g + 1 else g) := by
      intro i hi i0 i1
      have r := nb i (by omega) i1
      have q := hd i i0 i1
      rw [epa g (by omega) hg i hi, ← hi]
      by_cases y : f < σ (69 + i)
      · rw [if_pos y, if_pos (by omega), show σ (69 + i) - 1 + 1 = σ (69 + i) by omega]; exact q
      · rw [if_neg y, if_neg (by omega)]; exact q
    by_cases z : f ≤ g
    · exact key (g + 1) (by rw [if_pos z]) (by omega) (by omega)
    · exact key g (by rw [if_neg z]) (by omega) (by omega)
  · intro g g0 hg
    rw [e2] at hg
    rw [etn 109 g (Or.inl rfl) g0 hg]
    split
    · exact h.tag (by omega) (by omega)
    · exact h.tag (by omega) (by omega)
  · intro g g0 hg
    rw [e2] at hg
    rw [etn 149 g (Or.inr rfl) g0 hg]
    split
    · exact h.nam (by omega) (by omega)
    · exact h.nam (by omega) (by omega)
  · intro k k0 hk
    rw [eo 3 (by omega)] at hk
    have q := h.fil k0 hk
    have r := nl k k0 hk
    have s : rfA σ f (249 + k) = σ (249 + k) := eo _ (by omega)
    rw [e2, s, rfA_l hF hf (by omega)]
    refine ⟨?_, q.2⟩
    split <;> omega
  · intro g g0 hg
    rw [eo 4 (by omega)] at hg
    rw [eo (309 + 4 * g) (by omega), eo (309 + 4 * g + 1) (by omega), eo (309 + 4 * g + 2) (by omega), eo (309 + 4 * g + 3) (by omega)]
    exact h.gft g0 hg
  · intro k
    have b := h.bd k
    have b1 := h.bd (k + 1)
    have w : -4611686018427387904 ≤ rf1 σ f k ∧ rf1 σ f k < 4611686018427387904 := by
      rw [v]
      split
      · exact b1
      · split
        · omega
        · exact b
    by_cases a : 69 ≤ k ∧ k < 69 + (σ 2 - 1)
    · rw [rfA_p hF.2 a]
      split <;> omega
    · by_cases c : 189 ≤ k ∧ k < 189 + σ 3
      · rw [rfA_l hF hf c]
        split <;> omega
      · rw [rfA_o (by omega) (by omega)]; exact w
theorem dgF_v (σ : Int → Int) (g j : Int) : dgF σ g j = if j = 4 then σ 4 - 1 else if 309 + 4 * g ≤ j ∧ j < 309 + 4 * (σ 4 - 1) then σ (j + 4) else σ j := rfl
theorem In.dgFI {σ : Int → Int} (h : In σ) {g : Int} (hg : 0 ≤ g ∧ g < σ 4) : In (dgF σ g) := by
  have hG := h.Gn
  have v := dgF_v σ g
  have e4 : dgF σ g 4 = σ 4 - 1 := by rw [v, if_pos rfl]
  refine h.rgG (fun j hj => by rw [v, if_neg (by omega), if_neg (by omega)]) (by rw [e4]; omega) (fun i i0 hi => ?_) (fun j j0 => ?_)
  · rw [e4] at hi
    have q := h.gft (g := i) i0 (by omega)
    have r := h.gft (g := i + 1) (by omega) (by omega)
    have w : ∀ c, 0 ≤ c → c ≤ 3 → dgF σ g (309 + 4 * i + c) = if g ≤ i then σ (309 + 4 * (i + 1) + c) else σ (309 + 4 * i + c) := fun c c0 c1 => by
      rw [v, if_neg (by omega)]
      by_cases z : g ≤ i
      · rw [if_pos z, if_pos (by omega), show (309 : Int) + 4 * i + c + 4 = 309 + 4 * (i + 1) + c by omega]
      · rw [if_neg z, if_neg (by omega)]
    have w0 := w 0 (by omega) (by omega)
    rw [Int.add_zero, Int.add_zero] at w0
    rw [w0, w 1 (by omega) (by omega), w 2 (by omega) (by omega), w 3 (by omega) (by omega)]
    by_cases z : g ≤ i
    · rw [if_pos z, if_pos z, if_pos z, if_pos z]; exact r
    · rw [if_neg z, if_neg z, if_neg z, if_neg z]; exact q
  · have b := h.bd j
    have b1 := h.bd (j + 4)
    rw [v, if_neg (by omega)]
    split
    · exact b1
    · exact b
theorem In.reGI {t : Int} : ∀ (n : Nat) {σ : Int → Int}, In σ → (n : Int) ≤ σ 4 → In (reG σ t n)
  | 0, σ, h, _ => h
  | n + 1, σ, h, hn => by
    show In (if σ (309 + 4 * (n : Int) + 3) ≤ t then reG (dgF σ (n : Int)) t n else reG σ t n)
    split
    · exact In.reGI n (h.dgFI (g := n) (by omega)) (by rw [dgF_v, if_pos rfl]; omega)
    · exact In.reGI n h (by omega)
theorem In.gaAI {σ : Int → Int} (h : In σ) {a t b d : Int} (h12 : σ 4 < 12) (ha : 0 ≤ a ∧ a ≤ 7) (ht : 0 ≤ t ∧ t ≤ 7) (hb : 1 ≤ b ∧ b ≤ 9999) (hd : 0 ≤ d ∧ d ≤ 19999) : In (gaA σ a t b d) := by
  have hG := h.Gn
  have v : ∀ j, gaA σ a t b d j = if j = 4 then σ 4 + 1 else if j = 309 + 4 * σ 4 + 3 then d else if j = 309 + 4 * σ 4 + 2 then b else if j = 309 + 4 * σ 4 + 1 then t else if j = 309 + 4 * σ 4 then a else σ j := fun j => rfl
  have e4 : gaA σ a t b d 4 = σ 4 + 1 := by rw [v, if_pos rfl]
  refine h.rgG (fun j hj => by rw [v, if_neg (by omega), if_neg (by omega), if_neg (by omega), if_neg (by omega), if_neg (by omega)]) (by rw [e4]; omega) (fun i i0 hi => ?_) (fun j j0 => ?_)
  · rw [e4] at hi
    by_cases z : i = σ 4
    · subst z
      refine ⟨?_, ?_, ?_, ?_⟩
      · rw [v, if_neg (by omega), if_neg (by omega), if_neg (by omega), if_neg (by omega), if_pos rfl]; exact ha
      · rw [v, if_neg (by omega), if_neg (by omega), if_neg (by omega), if_pos rfl]; exact ht
      · rw [v, if_neg (by omega), if_neg (by omega), if_pos rfl]; exact hb
      · rw [v, if_neg (by omega), if_pos rfl]; exact hd
    · have q := h.gft (g := i) i0 (by omega)
      have eo : ∀ c, 0 ≤ c → c ≤ 3 → gaA σ a t b d (309 + 4 * i + c) = σ (309 + 4 * i + c) := fun c c0 c1 => by rw [v, if_neg (by omega), if_neg (by omega), if_neg (by omega), if_neg (by omega), if_neg (by omega)]
      have e0 := eo 0 (by omega) (by omega)
      rw [Int.add_zero] at e0
      rw [e0, eo 1 (by omega) (by omega), eo 2 (by omega) (by omega), eo 3 (by omega) (by omega)]
      exact q
  · have q := h.bd j
    rw [v]
    split
    · omega
    · split
      · omega
      · split
        · omega
        · split
          · omega
          · split <;> omega
/-- what holds depends on the first 357 numbers -/
theorem In.ext {σ τ : Int → Int} (h : In σ) (e : ∀ j, 0 ≤ j → j < 357 → τ j = σ j) (hb : ∀ j, -4611686018427387904 ≤ τ j ∧ τ j < 4611686018427387904) : In τ := by
  have hF := h.F
  have hM := h.M
  have hG := h.Gn
  refine ⟨?_, ?_, ?_, ?_, ?_, ?_, ?_, ?_, ?_, ?_, ?_, ?_, hb⟩
  · rw [e 0 (by omega) (by omega)]; exact h.ti
  · rw [e 1 (by omega) (by omega)]; exact h.gr
  · rw [e 2 (by omega) (by omega)]; exact h.F
  · rw [e 3 (by omega) (by omega)]; exact h.M
  · rw [e 4 (by omega) (by omega)]; exact h.Gn
  · intro k k0 hk
    rw [e (5 + k) (by omega) (by omega), e (21 + k) (by omega) (by omega), e (37 + k) (by omega) (by omega), e (53 + k) (by omega) (by omega)]
    exact h.acc k0 hk
  · refine ⟨by rw [e 69 (by omega) (by omega)]; exact h.root, fun f f0 hf => ?_⟩
    rw [e 2 (by omega) (by omega)] at hf ⊢
    rw [e (69 + f) (by omega) (by omega)]
    exact h.par1 f0 hf
  · obtain ⟨d, hd⟩ := h.rk
    refine ⟨d, fun f f0 hf => ?_⟩
    rw [e 2 (by omega) (by omega)] at hf
    rw [e (69 + f) (by omega) (by omega)]
    exact hd f f0 hf
  · intro f f0 hf
    rw [e 2 (by omega) (by omega)] at hf
    rw [e (109 + f) (by omega) (by omega)]
    exact h.tag f0 hf
  · intro f f0 hf
    rw [e 2 (by omega) (by omega)] at hf
    rw [e (149 + f) (by omega) (by omega)]
    exact h.nam f0 hf
  · intro k k0 hk
    rw [e 3 (by omega) (by omega)] at hk
    rw [e 2 (by omega) (by omega), e (189 + k) (by omega) (by omega), e (249 + k) (by omega) (by omega)]
    exact h.fil k0 hk
  · intro g g0 hg
    rw [e 4 (by omega) (by omega)] at hg
    rw [e (309 + 4 * g) (by omega) (by omega), e (309 + 4 * g + 1) (by omega) (by omega), e (309 + 4 * g + 2) (by omega) (by omega), e (309 + 4 * g + 3) (by omega) (by omega)]
    exact h.gft g0 hg
theorem beA_y (σ ρ : Int → Int) (fr : Int) {j : Int} (h0 : 0 ≤ j) (h1 : j < 357) : beA σ ρ fr 357 j = ρ (fr + j) := by
  unfold beA; rw [if_pos ⟨h0, h1⟩]
theorem In.beAI {σ τ ρ : Int → Int} {fr : Int} (hτ : In τ) (e : ∀ j, 0 ≤ j → j < 357 → ρ (fr + j) = τ j) (hσ : ∀ j, -4611686018427387904 ≤ σ j ∧ σ j < 4611686018427387904) : In (beA σ ρ fr 357) := by
  refine hτ.ext (fun j h0 h1 => by rw [beA_y _ _ _ h0 h1, e j h0 h1]) (fun j => ?_)
  by_cases z : 0 ≤ j ∧ j < 357
  · rw [beA_y _ _ _ z.1 z.2, e j z.1 z.2]; exact hτ.bd j
  · unfold beA; rw [if_neg z]; exact hσ j
theorem nmk_root : nmk 605684 := by
  refine ⟨by decide, Or.inr ⟨by decide, by decide, by decide, ?_⟩⟩
  refine Or.inr ⟨by decide, by decide, by decide, ?_⟩
  refine Or.inr ⟨by decide, by decide, by decide, ?_⟩
  refine Or.inr ⟨by decide, by decide, by decide, ?_⟩
  exact Or.inl (by decide)
theorem bgF_v (φ : Int → Int) (j : Int) : bgF φ j = if j = 149 then 605684 else if j = 2 then 1 else if j = 1 then 10 else if 0 ≤ j ∧ j < 357 then (if 53 ≤ j ∧ j < 149 then -1 else 0) else φ j := rfl
theorem In.bgFI {φ : Int → Int} (hφ : ∀ j, -4611686018427387904 ≤ φ j ∧ φ j < 4611686018427387904) : In (bgF φ) := by
  have v := bgF_v φ
  have e2 : bgF φ 2 = 1 := by rw [v]; rfl
  have e3 : bgF φ 3 = 0 := by rw [v]; rfl
  have e4 : bgF φ 4 = 0 := by rw [v]; rfl
  have e0 : bgF φ 0 = 0 := by rw [v]; rfl
  have e1 : bgF φ 1 = 10 := by rw [v]; rfl
  have e69 : bgF φ 69 = -1 := by rw [v]; rfl
  have e109 : bgF φ 109 = -1 := by rw [v]; rfl
  have e149 : bgF φ 149 = 605684 := by rw [v]; rfl
  refine ⟨by rw [e0]; decide, by rw [e1]; decide, by rw [e2]; decide, by rw [e3]; decide, by rw [e4]; decide, fun k k0 hk => ?_, ⟨e69, fun f f0 hf => ?_⟩, ⟨fun _ => 0, fun f f0 hf => ?_⟩, fun f f0 hf => ?_, fun f f0 hf => ?_, fun k k0 hk => ?_, fun g g0 hg => ?_, fun k => ?_⟩
  · rw [v, v, v, v, if_neg (by omega), if_neg (by omega), if_neg (by omega), if_pos (by omega), if_neg (by omega), if_neg (by omega), if_neg (by omega), if_neg (by omega), if_pos (by omega), if_neg (by omega), if_neg (by omega), if_neg (by omega), if_neg (by omega), if_pos (by omega), if_neg (by omega), if_neg (by omega), if_neg (by omega), if_neg (by omega), if_pos (by omega), if_pos (by omega)]
    decide
  · rw [e2] at hf; omega
  · rw [e2] at hf; omega
  · rw [e2] at hf
    have : f = 0 := by omega
    subst this
    have q : bgF φ (109 + 0) = -1 := e109
    rw [q]; decide
  · rw [e2] at hf
    have : f = 0 := by omega
    subst this
    have q : bgF φ (149 + 0) = 605684 := e149
    rw [q]; exact nmk_root
  · rw [e3] at hk; omega
  · rw [e4] at hg; omega
  · have q := hφ k
    rw [v]
    split
    · decide
    · split
      · decide
      · split
        · decide
        · split
          · split <;> decide
          · exact q
theorem iniT_I : In iniT := In.bgFI (fun _ => by decide)
