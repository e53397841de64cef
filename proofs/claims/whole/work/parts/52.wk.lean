/-! the walk comes to every folder: the place of a folder in the walk -/
theorem cn_ad (p q : Int → Int) : ∀ n : Nat, cn (fun k => p k + q k) n = cn p n + cn q n
  | 0 => rfl
  | n + 1 => by
    rw [cn, cn, cn, cn_ad p q n]
    omega
theorem cn_sw (g : Int → Int → Int) (m : Nat) : ∀ n : Nat, cn (fun k => cn (fun c => g k c) m) n = cn (fun c => cn (fun k => g k c) n) m
  | 0 => by
    show (0 : Int) = cn (fun c => 0) m
    exact (cn_zz m (fun k _ _ => rfl)).symm
  | n + 1 => by
    rw [cn, cn_sw g m n, ← cn_ad]
    rfl
theorem cn_1 (k v : Int) : ∀ n : Nat, cn (fun c => if c = k then v else 0) n = if 0 ≤ k ∧ k < n then v else 0
  | 0 => by rw [if_neg (by omega)]; rfl
  | n + 1 => by
    rw [cn, cn_1 k v n]
    by_cases q : (n : Int) = k
    · rw [if_pos q, if_neg (by omega), if_pos (by omega)]; omega
    · rw [if_neg q]
      by_cases r : 0 ≤ k ∧ k < n
      · rw [if_pos r, if_pos (by omega)]; omega
      · rw [if_neg r, if_neg (by omega)]; omega
theorem cn_st (p : Int → Int) {a : Nat} : ∀ d : Nat, (∀ k : Int, a ≤ k → k < a + d → p k = 0) → cn p (a + d) = cn p a
  | 0, _ => rfl
  | d + 1, h => by
    rw [show a + (d + 1) = (a + d) + 1 by omega, cn, cn_st p d (fun k h0 h1 => h k h0 (by omega)), h ((a + d : Nat) : Int) (by omega) (by omega)]
    omega
theorem cn_st2 (p : Int → Int) {a b : Nat} (hab : a ≤ b) (h : ∀ k : Int, a ≤ k → k < b → p k = 0) : cn p b = cn p a := by
  obtain ⟨d, rfl⟩ : ∃ d, b = a + d := ⟨b - a, by omega⟩
  exact cn_st p d (fun k h0 h1 => h k h0 (by omega))
/-- ahead of the first child from k on there is none -/
theorem cbS_f {σ : Int → Int} {f k j : Int} (hk : 0 ≤ k) (h0 : k ≤ j) (h1 : j < cbS σ f k) : ¬ σ (69 + j) = f := by
  have key : ∀ (n : Nat) (i : Int), 0 ≤ i → i ≤ j → j < cb σ f n i → ¬ σ (69 + j) = f := by
    intro n
    induction n with
    | zero => intro i hi0 hi hj; exact absurd hj (by show ¬ j < -1; omega)
    | succ n ih =>
      intro i hi0 hi hj
      rw [cb] at hj
      by_cases q : σ (69 + i) = f
      · rw [if_pos q] at hj; omega
      · rw [if_neg q] at hj
        by_cases e : i = j
        · rw [← e]; exact q
        · exact ih (i + 1) (by omega) (by omega) hj
  exact key _ k hk h0 h1
section WALK
variable {σ : Int → Int}
theorem bl_d (h : In σ) {d : Int → Nat} (hd : ∀ f : Int, 1 ≤ f → f < σ 2 → d (σ (69 + f)) < d f) (a : Int) : ∀ (n : Nat) (f : Int), ch σ n f → bl σ a n f = true → f = a ∨ d a < d f
  | 0, f, _, q => by simp [bl] at q
  | n + 1, f, hc, q => by
    rw [bl] at q
    rcases hc with z | ⟨z1, z2, z3⟩
    · rw [if_pos z] at q; exact absurd q (by decide)
    · rw [if_neg (by omega)] at q
      by_cases e : f = a
      · exact Or.inl e
      · rw [if_neg e] at q
        right
        by_cases f0 : f = 0
        · subst f0
          have hr : σ (69 + 0) = -1 := h.root
          rw [hr] at q
          cases n with
          | zero => simp [bl] at q
          | succ n => rw [bl, if_pos rfl] at q; exact absurd q (by decide)
        · have r := hd f (by omega) z2
          rcases bl_d h hd a n _ z3 q with y | y
          · rw [← y]; exact r
          · omega
/-- no folder lies below itself -/
theorem blF_a (h : In σ) {k : Int} (h0 : 0 ≤ k) (h1 : k < σ 2) : ¬ blF σ (σ (69 + k)) k = true := by
  intro q
  obtain ⟨d, hd⟩ := h.rk
  by_cases k0 : k = 0
  · subst k0
    have hr : σ (69 + 0) = -1 := h.root
    rw [hr, blF_n] at q
    exact absurd q (by decide)
  · have r := hd k (by omega) h1
    rcases bl_d h hd k 41 _ (ch_up σ 40 _ (ch_up σ 39 _ (h.cs.par h0 h1))) q with y | y
    · rw [y] at r; exact Nat.lt_irrefl _ r
    · omega
theorem par_ne (h : In σ) {k : Int} (h0 : 0 ≤ k) (h1 : k < σ 2) : ¬ σ (69 + k) = k := by
  intro q
  refine blF_a h h0 h1 ?_
  rw [q, blF_s h.cs h0 h1, if_pos rfl]
/-- one, if k lies below c -/
def bI (σ : Int → Int) (k c : Int) : Int := if blF σ k c = true then 1 else 0
def xI9 (σ : Int → Int) (p k : Int) : Int := cn (fun c => if σ (69 + c) = p then bI σ k c else 0) (σ 2).toNat
theorem bI_s (h : In σ) {k c : Int} (h0 : 0 ≤ k) (h1 : k < σ 2) : bI σ k c = (if c = k then 1 else 0) + bI σ (σ (69 + k)) c := by
  unfold bI
  rw [blF_s h.cs h0 h1]
  by_cases q : k = c
  · subst q
    rw [if_pos rfl, if_pos rfl, if_pos rfl, if_neg (blF_a h h0 h1)]; rfl
  · rw [if_neg q, if_neg (show ¬ c = k from fun z => q z.symm)]; omega
theorem xI9_s (h : In σ) {p k : Int} (h0 : 0 ≤ k) (h1 : k < σ 2) : xI9 σ p k = (if σ (69 + k) = p then 1 else 0) + xI9 σ p (σ (69 + k)) := by
  have hF := h.F
  unfold xI9
  have e : ∀ c : Int, (if σ (69 + c) = p then bI σ k c else 0) = (if c = k then (if σ (69 + k) = p then 1 else 0) else 0) + (if σ (69 + c) = p then bI σ (σ (69 + k)) c else 0) := by
    intro c
    rw [bI_s h h0 h1]
    by_cases q : c = k
    · subst q
      by_cases r : σ (69 + c) = p
      · simp [r]
      · simp [r]
    · by_cases r : σ (69 + c) = p
      · simp [q, r]
      · simp [q, r]
  rw [show (fun c : Int => if σ (69 + c) = p then bI σ k c else 0) = (fun c => (if c = k then (if σ (69 + k) = p then 1 else 0) else 0) + (if σ (69 + c) = p then bI σ (σ (69 + k)) c else 0)) from funext e, cn_ad, cn_1, if_pos (by omega)]
theorem xI9_n (σ : Int → Int) (p : Int) : xI9 σ p (-1) = 0 := by
  unfold xI9
  refine cn_zz _ (fun c _ _ => ?_)
  unfold bI
  rw [blF_n]
  split <;> rfl
theorem xI9_v (h : In σ) {p : Int} (hp : 0 ≤ p ∧ p < σ 2) : ∀ (n : Nat) (k : Int), fo σ k → dpF σ k ≤ n → xI9 σ p k = if ¬ k = p ∧ blF σ k p = true then 1 else 0
  | 0, k, hk, hd => by
    rcases hk with q | ⟨q1, q2⟩
    · rw [q, xI9_n, blF_n, if_neg (fun z => absurd z.2 (by decide))]
    · have := dpF_pos h.cs q1 q2
      omega
  | n + 1, k, hk, hd => by
    rcases hk with q | ⟨q1, q2⟩
    · rw [q, xI9_n, blF_n, if_neg (fun z => absurd z.2 (by decide))]
    · have ih := xI9_v h hp n (σ (69 + k)) (h.fp q1 q2) (by have := dpF_s h.cs q1 q2; omega)
      rw [xI9_s h q1 q2, ih, blF_s h.cs q1 q2]
      by_cases a : σ (69 + k) = p
      · have kp : ¬ k = p := fun z => par_ne h q1 q2 (by omega)
        rw [if_pos a, if_neg (fun z => z.1 a), if_neg kp, a, blF_s h.cs hp.1 hp.2, if_pos rfl, if_pos ⟨kp, rfl⟩]; rfl
      · rw [if_neg a]
        by_cases kp : k = p
        · have y : ¬ blF σ (σ (69 + k)) p = true := by
            have y := blF_a h q1 q2
            rw [kp] at y ⊢
            exact y
          rw [if_neg (show ¬ (¬ σ (69 + k) = p ∧ blF σ (σ (69 + k)) p = true) from fun z => y z.2), if_neg (show ¬ (¬ k = p ∧ (if k = p then true else blF σ (σ (69 + k)) p) = true) from fun z => z.1 kp)]; rfl
        · rw [if_neg kp]
          by_cases b : blF σ (σ (69 + k)) p = true
          · rw [if_pos ⟨a, b⟩, if_pos ⟨kp, b⟩]; rfl
          · rw [if_neg (fun z => b z.2), if_neg (fun z => b z.2)]; rfl
/-- the subtree of p: p, and the subtrees of its children -/
theorem fbS_s (h : In σ) {p : Int} (hp : 0 ≤ p ∧ p < σ 2) : fbS σ p = 1 + cn (fun c => if σ (69 + c) = p then fbS σ c else 0) (σ 2).toNat := by
  have hF := h.F
  have e1 : fbS σ p = cn (fun k => (if k = p then 1 else 0) + xI9 σ p k) (σ 2).toNat := by
    unfold fbS
    refine cn_cong (fun k hk => ?_)
    have v := xI9_v h hp 40 (k : Int) (Or.inr ⟨by omega, by omega⟩) (dpF_40 h.cs (by omega) (by omega))
    show fbP σ p k = (if (k : Int) = p then 1 else 0) + xI9 σ p k
    rw [v]
    unfold fbP
    by_cases q : (k : Int) = p
    · have y : blF σ (k : Int) p = true := by rw [q, blF_s h.cs hp.1 hp.2, if_pos rfl]
      rw [if_pos y, if_pos q, if_neg (show ¬ (¬ (k : Int) = p ∧ blF σ (k : Int) p = true) from fun z => z.1 q)]; rfl
    · rw [if_neg q]
      by_cases b : blF σ (k : Int) p = true
      · rw [if_pos b, if_pos ⟨q, b⟩]; rfl
      · rw [if_neg b, if_neg (fun z => b z.2)]; rfl
  rw [e1, cn_ad, cn_1, if_pos (by omega)]
  congr 1
  unfold xI9
  rw [cn_sw (fun k c => if σ (69 + c) = p then bI σ k c else 0)]
  refine cn_cong (fun c hc => ?_)
  show cn (fun k => if σ (69 + (c : Int)) = p then bI σ k c else 0) (σ 2).toNat = if σ (69 + (c : Int)) = p then fbS σ c else 0
  by_cases q : σ (69 + (c : Int)) = p
  · rw [if_pos q]
    unfold fbS
    refine cn_cong (fun k hk => ?_)
    show (if σ (69 + (c : Int)) = p then bI σ k c else 0) = fbP σ c k
    rw [if_pos q]; rfl
  · rw [if_neg q]
    exact cn_zz _ (fun k _ _ => if_neg q)
def sbP (σ : Int → Int) (p : Int) : Int → Int := fun c => if σ (69 + c) = p then fbS σ c else 0
/-- how many folders come ahead of f in the walk -/
def ps (σ : Int → Int) : Nat → Int → Int
  | 0, _ => 0
  | n + 1, f => if f = -1 then 0 else if σ (69 + f) = -1 then 0 else ps σ n (σ (69 + f)) + 1 + cn (sbP σ (σ (69 + f))) f.toNat
theorem ps_st (σ : Int → Int) : ∀ (n : Nat) (f : Int), ch σ n f → ps σ (n + 1) f = ps σ n f
  | 0, f, h => by
    have h : f = -1 := h
    show (if f = -1 then (0 : Int) else _) = 0
    rw [if_pos h]
  | n + 1, f, h => by
    rcases h with h | ⟨h1, h2, h3⟩
    · rw [ps, if_pos h, ps, if_pos h]
    · rw [ps, ps_st σ n _ h3]
      show _ = ps σ (n + 1) f
      rw [ps]
def psF (σ : Int → Int) (f : Int) : Int := ps σ 41 f
theorem psF_s (h : In σ) {f : Int} (h0 : 0 ≤ f) (h1 : f < σ 2) : psF σ f = if σ (69 + f) = -1 then 0 else psF σ (σ (69 + f)) + 1 + cn (sbP σ (σ (69 + f))) f.toNat := by
  unfold psF
  have c := h.cs.par h0 h1
  rw [ps_st σ 40 _ (ch_up σ 39 _ c), ps, if_neg (by omega)]
theorem psF_c (h : In σ) {f c : Int} (hf : 0 ≤ f ∧ f < σ 2) (hc : 0 ≤ c ∧ c < σ 2) (e : σ (69 + c) = f) : psF σ c = psF σ f + 1 + cn (sbP σ f) c.toNat := by
  rw [psF_s h hc.1 hc.2, e, if_neg (by omega)]
theorem root_i (h : In σ) {f : Int} (hf : 0 ≤ f ∧ f < σ 2) (hn : ¬ f = 0) : 0 ≤ σ (69 + f) ∧ σ (69 + f) < σ 2 := h.par1 (by omega) hf.2
theorem blF_0 (h : In σ) : ∀ (n : Nat) (k : Int), 0 ≤ k → k < σ 2 → dpF σ k ≤ n → blF σ k 0 = true
  | 0, k, h0, h1, hd => by have := dpF_pos h.cs h0 h1; omega
  | n + 1, k, h0, h1, hd => by
    rw [blF_s h.cs h0 h1]
    by_cases q : k = 0
    · rw [if_pos q]
    · rw [if_neg q]
      have r := root_i h ⟨h0, h1⟩ q
      exact blF_0 h n _ r.1 r.2 (by have := dpF_s h.cs h0 h1; omega)
theorem fbS_0 (h : In σ) : fbS σ 0 = σ 2 := by
  have hF := h.F
  have e : ∀ n : Nat, n ≤ (σ 2).toNat → cn (fbP σ 0) n = n := by
    intro n
    induction n with
    | zero => intro _; rfl
    | succ n ih =>
      intro hn
      rw [cn, ih (by omega)]
      unfold fbP
      rw [if_pos (blF_0 h 40 (n : Int) (by omega) (by omega) (dpF_40 h.cs (by omega) (by omega)))]
      omega
  unfold fbS
  rw [e _ (Nat.le_refl _)]
  omega
/-- up from the last of a subtree -/
theorem nw_p (h : In σ) (q0 : Int) : ∀ (n : Nat) (g : Int), 0 ≤ g → g < σ 2 → dpF σ g ≤ n + 1 → psF σ g + fbS σ g = q0 →
    (nw σ n (-1) g = -1 ∧ q0 = σ 2) ∨ ((0 ≤ nw σ n (-1) g ∧ nw σ n (-1) g < σ 2) ∧ psF σ (nw σ n (-1) g) = q0)
  | 0, g, h0, h1, hd, e => by
    have g0 : g = 0 := by
      refine Classical.byContradiction (fun z => ?_)
      have r := root_i h ⟨h0, h1⟩ z
      have := dpF_s h.cs h0 h1
      have := dpF_pos h.cs r.1 r.2
      omega
    subst g0
    left
    have hr : σ (69 + 0) = -1 := h.root
    rw [psF_s h h0 h1, if_pos hr, fbS_0 h] at e
    exact ⟨rfl, by omega⟩
  | n + 1, g, h0, h1, hd, e => by
    rw [nw]
    by_cases g0 : g = 0
    · rw [if_neg (fun z => z.2 g0)]
      subst g0
      have hr : σ (69 + 0) = -1 := h.root
      rw [psF_s h h0 h1, if_pos hr, fbS_0 h] at e
      exact Or.inl ⟨rfl, by omega⟩
    · rw [if_pos ⟨rfl, g0⟩]
      have r := root_i h ⟨h0, h1⟩ g0
      have dd := dpF_s h.cs h0 h1
      have eg := psF_c h r ⟨h0, h1⟩ rfl
      have sg : cn (sbP σ (σ (69 + g))) (g.toNat + 1) = cn (sbP σ (σ (69 + g))) g.toNat + fbS σ g := by
        rw [cn, Int.toNat_of_nonneg h0]
        show _ + (if σ (69 + g) = σ (69 + g) then fbS σ g else 0) = _
        rw [if_pos rfl]
      by_cases s : cbS σ (σ (69 + g)) (g + 1) = -1
      · rw [s]
        refine nw_p h q0 n _ r.1 r.2 (by omega) ?_
        have none := cbS_none (σ := σ) (f := σ (69 + g)) (k := g + 1) (by omega) s
        have st := cn_st2 (sbP σ (σ (69 + g))) (a := g.toNat + 1) (b := (σ 2).toNat) (by omega) (fun k k0 k1 => by
          show (if σ (69 + k) = σ (69 + g) then fbS σ k else 0) = 0
          rw [if_neg (none k (by omega) (by omega))])
        have fs := fbS_s h r
        have fe : cn (fun c => if σ (69 + c) = σ (69 + g) then fbS σ c else 0) (σ 2).toNat = cn (sbP σ (σ (69 + g))) (σ 2).toNat := rfl
        rw [fe, st, sg] at fs
        omega
      · right
        have ns : nw σ n (cbS σ (σ (69 + g)) (g + 1)) (σ (69 + g)) = cbS σ (σ (69 + g)) (g + 1) := by
          cases n with
          | zero => rfl
          | succ n => rw [nw, if_neg (fun z => s z.1)]
        rw [ns]
        rcases cbS_b σ (σ (69 + g)) (g + 1) with z | ⟨z1, z2, z3⟩
        · exact absurd z s
        · refine ⟨⟨by omega, z2⟩, ?_⟩
          rw [psF_c h r ⟨by omega, z2⟩ z3]
          have st := cn_st2 (sbP σ (σ (69 + g))) (a := g.toNat + 1) (b := (cbS σ (σ (69 + g)) (g + 1)).toNat) (by omega) (fun k k0 k1 => by
            have k1z : k < cbS σ (σ (69 + g)) (g + 1) := by omega
            show (if σ (69 + k) = σ (69 + g) then fbS σ k else 0) = 0
            rw [if_neg (cbS_f (k := g + 1) (by omega) (by omega) k1z)])
          rw [st, sg]
          omega
theorem nxS_p (h : In σ) {f : Int} (hf : 0 ≤ f ∧ f < σ 2) : (nxS σ f = -1 ∧ psF σ f + 1 = σ 2) ∨ ((0 ≤ nxS σ f ∧ nxS σ f < σ 2) ∧ psF σ (nxS σ f) = psF σ f + 1) := by
  have hF := h.F
  unfold nxS
  by_cases s : cbS σ f 0 = -1
  · rw [s]
    have none := cbS_none (σ := σ) (f := f) (k := 0) (by omega) s
    have fs := fbS_s h hf
    rw [cn_zz _ (fun k k0 k1 => if_neg (none k k0 (by omega)))] at fs
    have d := dpF_40 h.cs hf.1 hf.2
    rcases nw_p h (psF σ f + 1) 40 f hf.1 hf.2 (by omega) (by omega) with q | q
    · exact Or.inl q
    · exact Or.inr q
  · right
    have ns : nw σ 40 (cbS σ f 0) f = cbS σ f 0 := by rw [nw, if_neg (fun z => s z.1)]
    rw [ns]
    rcases cbS_b σ f 0 with z | ⟨z1, z2, z3⟩
    · exact absurd z s
    · refine ⟨⟨z1, z2⟩, ?_⟩
      rw [psF_c h hf ⟨z1, z2⟩ z3]
      have e := cn_zz (p := sbP σ f) (cbS σ f 0).toNat (fun k k0 k1 => by
        have k1z : k < cbS σ f 0 := by omega
        show (if σ (69 + k) = f then fbS σ k else 0) = 0
        rw [if_neg (cbS_f (k := 0) (by omega) k0 k1z)])
      rw [e]; omega
theorem wk_p (h : In σ) : ∀ n : Nat, (n : Int) < σ 2 → (0 ≤ wk σ n ∧ wk σ n < σ 2) ∧ psF σ (wk σ n) = n
  | 0, hn => by
    have hF := h.F
    have hr : σ (69 + 0) = -1 := h.root
    refine ⟨⟨Int.le_refl _, hn⟩, ?_⟩
    show psF σ 0 = 0
    rw [psF_s h (by omega) (by omega), if_pos hr]
  | n + 1, hn => by
    have ih := wk_p h n (by omega)
    rw [wk]
    rcases nxS_p h ih.1 with q | q
    · omega
    · exact ⟨q.1, by rw [q.2, ih.2]; omega⟩
theorem wk_v (h : In σ) {n : Nat} (hn : (n : Int) < σ 2) : 0 ≤ wk σ n ∧ wk σ n < σ 2 := (wk_p h n hn).1
theorem wk_n (h : In σ) {n : Nat} (hn : ((n + 1 : Nat) : Int) < σ 2) : ¬ nxS σ (wk σ n) = -1 := by
  have q := wk_v h hn
  rw [wk] at q
  omega
end WALK
