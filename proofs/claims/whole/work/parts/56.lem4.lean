/-! the reference's walk, heaviest child, room and next event -/
section MORE
variable {σ : Int → Int}
theorem cb01 (h : In σ) {f : Int} (hf : 0 ≤ f) : cbS σ f (0 + 1) = cbS σ f 0 := by
  have hF := h.F
  have hr : σ (69 + 0) = -1 := h.root
  rw [cbS_s (k := 0) (by omega), if_neg (by omega)]
theorem nw_y (σ : Int → Int) {c : Int} (hc : ¬ c = -1) (g : Int) : ∀ n : Nat, nw σ n c g = c
  | 0 => rfl
  | n + 1 => by rw [nw, if_neg (fun z => hc z.1)]
theorem nw_e (σ : Int → Int) (n : Nat) (c g : Int) : nw σ (n + 1) c g = if c = -1 ∧ ¬ g = 0 then nw σ n (cbS σ (σ (69 + g)) (g + 1)) (σ (69 + g)) else c := rfl
theorem nw_st (h : In σ) : ∀ (n : Nat) (c g : Int), 0 ≤ g → g < σ 2 → dpF σ g ≤ n + 1 → nw σ (n + 1) c g = nw σ n c g
  | 0, c, g, h0, h1, hd => by
    have g0 : g = 0 := by
      refine Classical.byContradiction (fun z => ?_)
      have r := root_i h ⟨h0, h1⟩ z
      have := dpF_s h.cs h0 h1
      have := dpF_pos h.cs r.1 r.2
      omega
    rw [nw_e σ 0, if_neg (fun z => z.2 g0)]; rfl
  | n + 1, c, g, h0, h1, hd => by
    rw [nw_e σ (n + 1) c g, nw_e σ n c g]
    by_cases q : c = -1 ∧ ¬ g = 0
    · rw [if_pos q, if_pos q]
      have r := root_i h ⟨h0, h1⟩ q.2
      have := dpF_s h.cs h0 h1
      exact nw_st h n _ _ r.1 r.2 (by omega)
    · rw [if_neg q, if_neg q]
theorem nw_up (h : In σ) {g : Int} (h0 : 0 ≤ g) (h1 : g < σ 2) (hg : ¬ g = 0) : nw σ 40 (-1) g = nw σ 40 (cbS σ (σ (69 + g)) (g + 1)) (σ (69 + g)) := by
  have r := root_i h ⟨h0, h1⟩ hg
  have d := dpF_40 h.cs r.1 r.2
  rw [← nw_st h 40 (-1) g h0 h1 (by have := dpF_40 h.cs h0 h1; omega)]
  show (if (-1 : Int) = -1 ∧ ¬ g = 0 then _ else _) = _
  rw [if_pos ⟨rfl, hg⟩]
theorem nw_0 (σ : Int → Int) (n : Nat) : nw σ n (-1) 0 = -1 := by
  cases n with
  | zero => rfl
  | succ n => rw [nw, if_neg (fun z => z.2 rfl)]
theorem hv_st {f : Int} : ∀ (d a : Nat), (∀ j : Int, a ≤ j → j < a + d → ¬ σ (69 + j) = f) → hv σ f (a + d) = hv σ f a
  | 0, a, _ => rfl
  | d + 1, a, h => by
    show hv σ f (a + d + 1) = _
    rw [hv, if_neg (fun z => h ((a + d : Nat) : Int) (by omega) (by omega) z.1)]
    exact hv_st d a (fun j j0 j1 => h j j0 (by omega))
theorem hv_s2 {f a b : Int} (ha : 0 ≤ a) (hab : a ≤ b) (h : ∀ j : Int, a ≤ j → j < b → ¬ σ (69 + j) = f) : hv σ f b.toNat = hv σ f a.toNat := by
  have e := hv_st (σ := σ) (f := f) (b - a).toNat a.toNat (fun j j0 j1 => h j (by omega) (by omega))
  rw [show a.toNat + (b - a).toNat = b.toNat by omega] at e
  exact e
/-- up to the next child -/
def kE (σ : Int → Int) (c : Int) : Int := if c = -1 then σ 2 else c
theorem hv_nx {f a : Int} (ha : 0 ≤ a) (ha2 : a ≤ σ 2) : hv σ f (kE σ (cbS σ f a)).toNat = hv σ f a.toNat := by
  unfold kE
  by_cases q : cbS σ f a = -1
  · rw [if_pos q]
    exact hv_s2 ha ha2 (cbS_none ha q)
  · rw [if_neg q]
    rcases cbS_b σ f a with z | ⟨z1, z2, z3⟩
    · exact absurd z q
    · exact hv_s2 ha z1 (fun j j0 j1 => cbS_f (k := a) ha j0 j1)
def hvJ (σ : Int → Int) (f k b : Int) : Prop := (0 ≤ b ∧ b < σ 2) ∧ (b = hv σ f (kE σ k).toNat ∨ (b = k ∧ ¬ k = -1 ∧ hv σ f k.toNat = -1))
theorem hvJ_0 (h : In σ) {f : Int} (hf : 0 ≤ f ∧ f < σ 2) (hn : ¬ biS σ f = 0) : hvJ σ f (cbS σ f (0 + 1)) (cbS σ f (0 + 1)) := by
  have hF := h.F
  rw [cb01 h hf.1]
  have e := hv_nx (σ := σ) (f := f) (a := 0) (Int.le_refl _) (by omega)
  rcases cbS_b σ f 0 with z | ⟨z1, z2, z3⟩
  · exact absurd ((biS_i h f).mpr (cbS_none (Int.le_refl _) z)) hn
  · have nz : ¬ cbS σ f 0 = -1 := by omega
    refine ⟨⟨z1, z2⟩, Or.inr ⟨rfl, nz, ?_⟩⟩
    unfold kE at e
    rw [if_neg nz] at e
    exact e
theorem hvJ_s {f k b : Int} (hk : 0 ≤ k ∧ k < σ 2) (hc : σ (69 + k) = f) (hj : hvJ σ f k b) : hvJ σ f (cbS σ f (k + 1)) (if mbS σ b 1 < mbS σ k 1 then k else b) := by
  obtain ⟨hb, hj⟩ := hj
  have kn : ¬ k = -1 := by omega
  have ek : kE σ k = k := by unfold kE; rw [if_neg kn]
  rw [ek] at hj
  refine ⟨by split <;> omega, Or.inl ?_⟩
  rw [hv_nx (by omega) (by omega), show (k + 1).toNat = k.toNat + 1 by omega, hv, Int.toNat_of_nonneg hk.1]
  rcases hj with q | ⟨q1, _, q3⟩
  · rw [← q]
    by_cases z : mbS σ b 1 < mbS σ k 1
    · rw [if_pos z, if_pos ⟨hc, Or.inr z⟩]
    · rw [if_neg z, if_neg (fun y => y.2.elim (fun y => by omega) z)]
  · have e : (if σ (69 + k) = f ∧ (hv σ f k.toNat = -1 ∨ mbS σ (hv σ f k.toNat) 1 < mbS σ k 1) then k else hv σ f k.toNat) = k := if_pos (And.intro hc (Or.inl q3))
    rw [e, q1]; split <;> rfl
theorem hvJ_e {f b : Int} (hj : hvJ σ f (-1) b) : b = hvS σ f := by
  rcases hj.2 with q | q
  · exact q
  · exact absurd rfl q.2.1
theorem roo_v {p b : Int} (hb : 0 ≤ b ∧ b ≤ 9999) (hz : rsS σ p b 1 = 0) (hx : ∀ x : Int, b < x → x ≤ 9999 → ¬ rsS σ p x 1 = 0) : rooS σ p = b := by
  unfold rooS roS
  by_cases p1 : p = -1
  · have e : ∀ x, rsS σ p x 1 = 0 := fun x => by unfold rsS; rw [if_pos p1]
    rw [if_pos (e 0), if_pos p1]
    refine Classical.byContradiction (fun z => hx 9999 (by omega) (Int.le_refl _) (e _))
  · have e : ∀ x, rsS σ p x 1 = 0 ↔ (¬ (0 < x ∧ tmS σ p 0 x) ∧ ¬ tmS σ p 1 1 ∧ ¬ (0 < x ∧ ovS σ p 0) ∧ ¬ ovS σ p 1) := fun x => by
      unfold rsS
      rw [if_neg p1]
      simp only [tmS, ovS]
      constructor
      · intro z; (repeat' split at z) <;> omega
      · intro z; (repeat' split) <;> omega
    have hb0 := (e b).mp hz
    have h0 : rsS σ p 0 1 = 0 := (e 0).mpr ⟨by omega, hb0.2.1, by omega, hb0.2.2.2⟩
    rw [if_pos h0, if_neg p1]
    by_cases o : ovS σ p 0
    · rw [if_pos o]
      refine Classical.byContradiction (fun z => hb0.2.2.1 ⟨by omega, o⟩)
    · rw [if_neg o]
      by_cases l : lmS σ 21 p 0 = -1
      · rw [if_pos l]
        refine Classical.byContradiction (fun z => hx 9999 (by omega) (Int.le_refl _) ((e _).mpr ⟨fun y => y.2.1 l, hb0.2.1, fun y => o y.2, hb0.2.2.2⟩))
      · rw [if_neg l]
        have hM : max (min (lmS σ 21 p 0 - σ (37 + (2 * p + 0))) 9999) 0 ≤ b := by
          refine Classical.byContradiction (fun z => hx (max (min (lmS σ 21 p 0 - σ (37 + (2 * p + 0))) 9999) 0) (by omega) (by omega) ((e _).mpr ⟨fun y => ?_, hb0.2.1, fun y => o y.2, hb0.2.2.2⟩))
          have y1 := y.1
          have y2 := y.2.2
          omega
        have hN : b ≤ max (min (lmS σ 21 p 0 - σ (37 + (2 * p + 0))) 9999) 0 := by
          refine Classical.byContradiction (fun z => hb0.1 ⟨by omega, l, by omega⟩)
        omega
theorem roo_n {p : Int} (hx : ¬ rsS σ p 0 1 = 0) : rooS σ p = -1 := by unfold rooS; rw [if_neg hx]
/-- every gift ends later than now -/
def Ge (σ : Int → Int) : Prop := ∀ g : Int, 0 ≤ g → g < σ 4 → σ 0 < σ (309 + 4 * g + 3)
theorem fe_ge (h : In σ) (hg : Ge σ) : ∀ n : Nat, (n : Int) ≤ σ 4 → fe σ n = -1 ∨ σ 0 < fe σ n
  | 0, _ => Or.inl rfl
  | n + 1, hn => by
    have := fe_ge h hg n (by omega)
    have g := hg n (by omega) (by omega)
    rw [fe]
    split
    · exact Or.inr g
    · exact this
theorem fe_sn (h : In σ) (hg : Ge σ) {g : Int} (h0 : 0 ≤ g) (h1 : g < σ 4) : snS σ (fe σ g.toNat) (σ (309 + 4 * g + 3)) = fe σ (g + 1).toNat := by
  have e := hg g h0 h1
  rw [show (g + 1).toNat = g.toNat + 1 by omega, fe, Int.toNat_of_nonneg h0]
  unfold snS
  by_cases q : fe σ g.toNat = -1 ∨ σ (309 + 4 * g + 3) < fe σ g.toNat
  · rw [if_pos q, if_pos ⟨e, q⟩]
  · rw [if_neg q, if_neg (fun z => q z.2)]
theorem fg_gt (h : In σ) : ∀ n : Nat, fg σ n = -1 ∨ σ 0 < fg σ n
  | 0 => Or.inl rfl
  | n + 1 => by
    have q := fg_gt h n
    have t := h.ti
    rw [fg]
    unfold eeS
    split
    · split
      · right; assumption
      · left; rfl
    · split
      · right; omega
      · exact q
/-- what the reference has when it has gone over n clocks -/
theorem ee_0 (h : In σ) (hg : Ge σ) : feS σ = eeS σ (feS σ) (fg σ (0 : Int).toNat) := by
  have t := h.ti
  have hG := h.Gn
  have q := fe_ge h hg (σ 4).toNat (by omega)
  show feS σ = eeS σ (feS σ) (-1)
  unfold eeS
  unfold feS
  rcases q with q | q
  · rw [q, if_pos (by omega), if_neg (by omega)]
  · rw [if_neg (by omega), if_neg (by omega)]
theorem ee_s (h : In σ) (hg : Ge σ) {k : Int} (h0 : 0 ≤ k) : eeS σ (feS σ) (fg σ (k + 1).toNat) = (if σ (53 + k) = -1 then eeS σ (feS σ) (fg σ k.toNat) else snS σ (eeS σ (feS σ) (fg σ k.toNat)) (σ (53 + k) + σ 1)) := by
  have t := h.ti
  have hG := h.Gn
  have q : feS σ = -1 ∨ σ 0 < feS σ := fe_ge h hg (σ 4).toNat (by omega)
  have r := fg_gt h k.toNat
  rw [show (k + 1).toNat = k.toNat + 1 by omega, fg, Int.toNat_of_nonneg h0]
  unfold geS
  rw [show 2 * (k / 2) + k % 2 = k by omega]
  unfold eeS snS
  generalize feS σ = a at *
  generalize fg σ k.toNat = b at *
  (repeat' split) <;> omega
end MORE
