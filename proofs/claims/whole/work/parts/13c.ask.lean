/-! the questions, as numbers of a row -/
def opP (σ : Int → Int) (f b : Int) : Int → Int := fun k => if olF σ (σ (189 + k)) f = true then (if b = 0 then 1 else σ (249 + k)) else 0
def opS (σ : Int → Int) (f b : Int) : Int := cn (opP σ f b) (σ 3).toNat
def biP (σ : Int → Int) (f : Int) : Int → Int := fun k => if σ (69 + k) = f then 1 else 0
def biS (σ : Int → Int) (f : Int) : Int := cn (biP σ f) (σ 2).toNat
def fiP (σ : Int → Int) (f : Int) : Int → Int := fun k => if σ (189 + k) = f then 1 else 0
def fiS (σ : Int → Int) (f : Int) : Int := cn (fiP σ f) (σ 3).toNat
def fbP (σ : Int → Int) (f : Int) : Int → Int := fun k => if blF σ k f = true then 1 else 0
def fbS (σ : Int → Int) (f : Int) : Int := cn (fbP σ f) (σ 2).toNat
def mbP (σ : Int → Int) (f b : Int) : Int → Int := fun k => if blF σ (σ (189 + k)) f = true then (if b = 0 then 1 else σ (249 + k)) else 0
def mbS (σ : Int → Int) (f b : Int) : Int := cn (mbP σ f b) (σ 3).toNat
def tgP (σ : Int → Int) : Int → Int := fun k => if σ (109 + k) = -1 then 0 else 1
def tgS (σ : Int → Int) : Int := cn (tgP σ) (σ 2).toNat
def coP (σ : Int → Int) (p b : Int) : Int → Int := fun k => if pjF σ (σ (189 + k)) = p then (if b = 0 then σ (249 + k) else 1) else 0
def coS (σ : Int → Int) (p b : Int) : Int := cn (coP σ p b) (σ 3).toNat
def giP (σ : Int → Int) (p : Int) : Int → Int := fun g => (if σ (309 + 4 * g + 1) = p then σ (309 + 4 * g + 2) else 0) - (if σ (309 + 4 * g) = p then σ (309 + 4 * g + 2) else 0)
def giS (σ : Int → Int) (p : Int) : Int := cn (giP σ p) (σ 4).toNat
/-- an effective limit: t = 5 the soft ones, 21 the hard ones -/
def lmS (σ : Int → Int) (t p k : Int) : Int := if σ (t + (2 * p + k)) = 0 then -1 else if k = 1 then σ (t + (2 * p + k)) else max 0 (σ (t + (2 * p + k)) + giS σ p)
abbrev drS (σ : Int → Int) (p k : Int) : Prop := ¬ σ (53 + (2 * p + k)) = -1
abbrev ovS (σ : Int → Int) (p k : Int) : Prop := ¬ σ (53 + (2 * p + k)) = -1 ∧ σ 1 ≤ σ 0 - σ (53 + (2 * p + k))
abbrev tmS (σ : Int → Int) (p k x : Int) : Prop := ¬ lmS σ 21 p k = -1 ∧ lmS σ 21 p k < σ (37 + (2 * p + k)) + x
abbrev exS (σ : Int → Int) (t p k x : Int) : Prop := ¬ lmS σ t p k = -1 ∧ lmS σ t p k < σ (37 + (2 * p + k)) + x
def geS (σ : Int → Int) (p k : Int) : Int := if σ (53 + (2 * p + k)) = -1 then -1 else σ (53 + (2 * p + k)) + σ 1
/-- the reason of section 3 -/
def rsS (σ : Int → Int) (p b n : Int) : Int := if p = -1 then 0 else if 0 < b ∧ tmS σ p 0 b then 1 else if 0 < n ∧ tmS σ p 1 n then 2 else if 0 < b ∧ ovS σ p 0 then 3 else if 0 < n ∧ ovS σ p 1 then 4 else 0
def stS (σ : Int → Int) (p k : Int) : Int := if tmS σ p k 0 then 4 else if drS σ p k then (if ovS σ p k then 3 else 2) else if ¬ lmS σ 5 p k = -1 ∨ ¬ lmS σ 21 p k = -1 then 1 else 0
def rpS (σ : Int → Int) (f a to : Int) : Int := if a = to then 0 else rsS σ to (opS σ f 1) (opS σ f 0)
def pwS (σ : Int → Int) (f p : Int) : Int := if p = -1 ∧ ¬ f = 0 then pjF σ (σ (69 + f)) else p
def puS (σ : Int → Int) (f q : Int) : Int := if σ (109 + f) = -1 then pjF σ q else σ (109 + f)
def rtS (σ : Int → Int) (f p : Int) : Int := rpS σ f (pjF σ f) (pwS σ f p)
def rmS (σ : Int → Int) (f q : Int) : Int := if f = 0 ∨ blF σ q f = true then 5 else rpS σ f (pjF σ f) (puS σ f q)
def rcS (σ : Int → Int) (k f : Int) : Int := if pjF σ f = pjF σ (σ (189 + k)) then 0 else rsS σ (pjF σ f) (σ (249 + k)) 1
def hgP (σ : Int → Int) (p : Int) : Int → Int := fun g => if σ (309 + 4 * g) = p ∨ σ (309 + 4 * g + 1) = p then 1 else 0
abbrev hgS (σ : Int → Int) (p : Int) : Prop := 0 < cn (hgP σ p) (σ 4).toNat
def snS (σ : Int → Int) (a t : Int) : Int := if σ 0 < t ∧ (a = -1 ∨ t < a) then t else a
abbrev rfS (σ : Int → Int) (a b x : Int) : Prop := lmS σ 21 a 0 = -1 ∨ lmS σ 21 b 0 = -1 ∨ σ 4 = 12 ∨ lmS σ 21 a 0 - σ (37 + (2 * a + 0)) < x
/-- the first child of f from k on -/
def cb (σ : Int → Int) (f : Int) : Nat → Int → Int
  | 0, _ => -1
  | n + 1, k => if σ (69 + k) = f then k else cb σ f n (k + 1)
def cbS (σ : Int → Int) (f k : Int) : Int := cb σ f (σ 2 - k).toNat k
theorem cbS_s {σ : Int → Int} {f k : Int} (h : k < σ 2) : cbS σ f k = if σ (69 + k) = f then k else cbS σ f (k + 1) := by
  unfold cbS
  have e : (σ 2 - k).toNat = (σ 2 - (k + 1)).toNat + 1 := by omega
  rw [e, cb]
theorem cbS_n {σ : Int → Int} {f k : Int} (h : σ 2 ≤ k) : cbS σ f k = -1 := by
  unfold cbS
  have e : (σ 2 - k).toNat = 0 := by omega
  rw [e, cb]
def fnr (σ : Int → Int) (x : Int) : Nat → Int → Int
  | 0, _ => -1
  | n + 1, k => if σ (149 + k) = x then k else fnr σ x n (k + 1)
/-- the first folder from k on with the name x -/
def fnS (σ : Int → Int) (x k : Int) : Int := fnr σ x (σ 2 - k).toNat k
theorem fnS_s {σ : Int → Int} {x k : Int} (h : k < σ 2) : fnS σ x k = if σ (149 + k) = x then k else fnS σ x (k + 1) := by
  unfold fnS
  have e : (σ 2 - k).toNat = (σ 2 - (k + 1)).toNat + 1 := by omega
  rw [e, fnr]
theorem fnS_n {σ : Int → Int} {x k : Int} (h : σ 2 ≤ k) : fnS σ x k = -1 := by
  unfold fnS
  have e : (σ 2 - k).toNat = 0 := by omega
  rw [e, fnr]
/-- the folder n steps up -/
def anS (σ : Int → Int) : Nat → Int → Int
  | 0, f => f
  | n + 1, f => if 0 ≤ anS σ n f ∧ anS σ n f < σ 2 then σ (69 + anS σ n f) else -1
theorem anS_fo {σ : Int → Int} (h : In σ) {g : Int} (hg : fo σ g) : fo σ (if 0 ≤ g ∧ g < σ 2 then σ (69 + g) else -1) := by
  split
  · rename_i q; exact h.fp q.1 q.2
  · exact Or.inl rfl
theorem pwS_n {σ : Int → Int} {f t : Int} (h : ¬ t = -1) : pwS σ f t = t := by
  unfold pwS; rw [if_neg (fun q => h q.1)]
theorem pwS_y {σ : Int → Int} (h : In σ) {f : Int} (hf : 0 ≤ f ∧ f < σ 2) : pwS σ f (-1) = pjF σ (σ (69 + f)) := by
  unfold pwS
  by_cases q : f = 0
  · rw [if_neg (fun z => z.2 q), q]
    have e : σ (69 + 0) = -1 := h.root
    rw [e, pjF_n]
  · rw [if_pos ⟨rfl, q⟩]
theorem hgP_b (σ : Int → Int) (p k : Int) : 0 ≤ hgP σ p k ∧ hgP σ p k ≤ 1 := by
  unfold hgP; split <;> omega
theorem cn_le {p : Int → Int} (hp : ∀ k, 0 ≤ p k) : ∀ (a b : Nat), cn p a ≤ cn p (a + b)
  | a, 0 => Int.le_refl _
  | a, b + 1 => by
    have h := cn_le hp a b
    have h2 := hp ((a + b : Nat) : Int)
    show cn p a ≤ cn p (a + b) + p ((a + b : Nat) : Int)
    omega
theorem hgS_y {σ : Int → Int} {p k : Int} (h0 : 0 ≤ k) (h1 : k < σ 4) (h : σ (309 + 4 * k) = p ∨ σ (309 + 4 * k + 1) = p) : hgS σ p := by
  have e := cn_le (p := hgP σ p) (fun j => (hgP_b σ p j).1) (k.toNat + 1) ((σ 4).toNat - (k.toNat + 1))
  rw [show k.toNat + 1 + ((σ 4).toNat - (k.toNat + 1)) = (σ 4).toNat by omega] at e
  have e2 : cn (hgP σ p) (k.toNat + 1) = cn (hgP σ p) k.toNat + hgP σ p ((k.toNat : Nat) : Int) := rfl
  rw [Int.toNat_of_nonneg h0] at e2
  have e3 : hgP σ p k = 1 := by unfold hgP; rw [if_pos h]
  have e4 := (cn_bd (p := hgP σ p) (b := 1) (fun j => hgP_b σ p j) k.toNat).1
  show 0 < cn (hgP σ p) (σ 4).toNat
  omega
/-- the first end of a gift -/
def fe (σ : Int → Int) : Nat → Int
  | 0 => -1
  | n + 1 => if fe σ n = -1 ∨ σ (309 + 4 * (n : Int) + 3) < fe σ n then σ (309 + 4 * (n : Int) + 3) else fe σ n
def feS (σ : Int → Int) : Int := fe σ (σ 4).toNat
theorem cn_ab {p : Int → Int} {b : Int} : ∀ n : Nat, (∀ k : Int, 0 ≤ k → k < n → -b ≤ p k ∧ p k ≤ b) → -(b * n) ≤ cn p n ∧ cn p n ≤ b * n
  | 0, _ => by simp [cn]
  | n + 1, hb => by
    have h := cn_ab (p := p) (b := b) n (fun k h0 h1 => hb k h0 (by omega))
    have h2 := hb n (by omega) (by omega)
    rw [cn]
    have e : b * ((n + 1 : Nat) : Int) = b * n + b := by rw [Int.natCast_add, Int.mul_add]; simp
    omega
theorem In.gib {σ : Int → Int} (h : In σ) (p : Int) : -119988 ≤ giS σ p ∧ giS σ p ≤ 119988 := by
  have hG := h.Gn
  have q := cn_ab (p := giP σ p) (b := 9999) (σ 4).toNat (fun g h0 h1 => by
    have hg := h.gft (g := g) h0 (by omega)
    unfold giP
    split <;> split <;> omega)
  unfold giS
  have e : (((σ 4).toNat : Nat) : Int) = σ 4 := Int.toNat_of_nonneg hG.1
  rw [e] at q
  omega
theorem geS_b {σ : Int → Int} (h : In σ) {p k : Int} (hp : 0 ≤ p ∧ p ≤ 7) (hk : k = 0 ∨ k = 1) : -1 ≤ geS σ p k ∧ geS σ p k ≤ 10098 := by
  have ha := h.acc (k := 2 * p + k) (by omega) (by omega)
  have hg := h.gr
  unfold geS
  split <;> omega
theorem ovS_g {σ : Int → Int} (h : In σ) {p k : Int} (hp : 0 ≤ p ∧ p ≤ 7) (hk : k = 0 ∨ k = 1) (h1 : ¬ geS σ p k = -1) (h2 : geS σ p k ≤ σ 0) : ovS σ p k := by
  have ha := h.acc (k := 2 * p + k) (by omega) (by omega)
  have hg := h.gr
  unfold geS at h1 h2
  by_cases q : σ (53 + (2 * p + k)) = -1
  · rw [if_pos q] at h1; exact absurd rfl h1
  · rw [if_neg q] at h2
    exact ⟨q, by omega⟩
theorem ovS_h {σ : Int → Int} (h : In σ) {p k : Int} (hp : 0 ≤ p ∧ p ≤ 7) (hk : k = 0 ∨ k = 1) (q : ovS σ p k) : ¬ geS σ p k = -1 ∧ geS σ p k ≤ σ 0 := by
  have ha := h.acc (k := 2 * p + k) (by omega) (by omega)
  have hg := h.gr
  unfold geS
  rw [if_neg q.1]
  have := q.2
  omega
theorem stS_4 {σ : Int → Int} {p k : Int} (h : exS σ 21 p k 0) : 4 = stS σ p k := by
  unfold stS; rw [if_pos h]
theorem stS_3 {σ : Int → Int} {p k : Int} (h : ¬ exS σ 21 p k 0) (h2 : ovS σ p k) : 3 = stS σ p k := by
  unfold stS; rw [if_neg h, if_pos h2.1, if_pos h2]
theorem stS_2 {σ : Int → Int} {p k : Int} (h : ¬ exS σ 21 p k 0) (h2 : ¬ ovS σ p k) (h3 : ¬ σ (53 + (2 * p + k)) = -1) : 2 = stS σ p k := by
  unfold stS; rw [if_neg h, if_pos h3, if_neg h2]
theorem lm_no {σ : Int → Int} (h : In σ) {t p k : Int} (ht : t = 5 ∨ t = 21) (hp : 0 ≤ p ∧ p ≤ 7) (hk : k = 0 ∨ k = 1) : lmS σ t p k = -1 ↔ σ (t + (2 * p + k)) = 0 := by
  have ha := h.acc (k := 2 * p + k) (by omega) (by omega)
  unfold lmS
  constructor
  · intro q
    by_cases z : σ (t + (2 * p + k)) = 0
    · exact z
    · rw [if_neg z] at q
      rcases ht with rfl | rfl
      · split at q <;> omega
      · split at q <;> omega
  · intro q; rw [if_pos q]
theorem stS_1 {σ : Int → Int} (h : In σ) {p k : Int} (hp : 0 ≤ p ∧ p ≤ 7) (hk : k = 0 ∨ k = 1) (h1 : ¬ exS σ 21 p k 0) (h3 : σ (53 + (2 * p + k)) = -1) (h4 : 0 < σ (5 + (2 * p + k)) ∨ 0 < σ (21 + (2 * p + k))) : 1 = stS σ p k := by
  unfold stS
  rw [if_neg h1, if_neg (fun q => q h3), if_pos]
  rw [lm_no h (Or.inl rfl) hp hk, lm_no h (Or.inr rfl) hp hk]
  omega
theorem stS_0 {σ : Int → Int} (h : In σ) {p k : Int} (hp : 0 ≤ p ∧ p ≤ 7) (hk : k = 0 ∨ k = 1) (h1 : ¬ exS σ 21 p k 0) (h3 : σ (53 + (2 * p + k)) = -1) (h4 : ¬ (0 < σ (5 + (2 * p + k)) ∨ 0 < σ (21 + (2 * p + k)))) : 0 = stS σ p k := by
  have ha := h.acc (k := 2 * p + k) (by omega) (by omega)
  unfold stS
  rw [if_neg h1, if_neg (fun q => q h3), if_neg]
  rw [lm_no h (Or.inl rfl) hp hk, lm_no h (Or.inr rfl) hp hk]
  omega
theorem In.opb {σ : Int → Int} (h : In σ) (f b : Int) : 0 ≤ opS σ f b ∧ opS σ f b ≤ 599940 := by
  have hM := h.M
  have q := cn_bd2 (p := opP σ f b) (b := 9999) (σ 3).toNat (fun k h0 h1 => by
    have hk := h.fil (k := k) h0 (by omega)
    unfold opP
    split
    · split <;> omega
    · omega)
  have e : (((σ 3).toNat : Nat) : Int) = σ 3 := Int.toNat_of_nonneg hM.1
  rw [e] at q
  unfold opS
  omega
theorem In.pwb {σ : Int → Int} (h : In σ) {f t : Int} (hf : 0 ≤ f ∧ f < σ 2) (ht : -1 ≤ t ∧ t ≤ 7) : -1 ≤ pwS σ f t ∧ pwS σ f t ≤ 7 := by
  unfold pwS
  split
  · exact h.pjr (h.fp hf.1 hf.2)
  · exact ht
theorem In.pub {σ : Int → Int} (h : In σ) {f q : Int} (hf : 0 ≤ f ∧ f < σ 2) (hq : 0 ≤ q ∧ q < σ 2) : -1 ≤ puS σ f q ∧ puS σ f q ≤ 7 := by
  unfold puS
  split
  · exact h.pjr (Or.inr hq)
  · exact h.tag hf.1 hf.2
theorem In.lmb {σ : Int → Int} (h : In σ) {t p k : Int} (ht : t = 5 ∨ t = 21) (hp : 0 ≤ p ∧ p ≤ 7) (hk : k = 0 ∨ k = 1) : -1 ≤ lmS σ t p k ∧ lmS σ t p k ≤ 300000 := by
  have ha := h.acc (k := 2 * p + k) (by omega) (by omega)
  have hg := h.gib p
  show -1 ≤ (if σ (t + (2 * p + k)) = 0 then -1 else if k = 1 then σ (t + (2 * p + k)) else max 0 (σ (t + (2 * p + k)) + giS σ p)) ∧ (if σ (t + (2 * p + k)) = 0 then -1 else if k = 1 then σ (t + (2 * p + k)) else max 0 (σ (t + (2 * p + k)) + giS σ p)) ≤ 300000
  rcases ht with rfl | rfl
  · split
    · omega
    · split <;> omega
  · split
    · omega
    · split <;> omega
