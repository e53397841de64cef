/-! the public calls, as functions of a row: the code of the exception (0: none), the answer, the row behind it -/
def nmB : Nat → Int → Bool
  | 0, x => decide (x = 0)
  | n + 1, x => decide (x = 0) || (decide (0 < x ∧ 1 ≤ x % 32 ∧ x % 32 ≤ 26) && nmB n (x / 32))
theorem nmB_i : ∀ (n : Nat) (x : Int), nmB n x = true ↔ nmo n x
  | 0, x => by simp [nmB, nmo]
  | n + 1, x => by
    have h := nmB_i n (x / 32)
    simp only [nmB, nmo, Bool.or_eq_true, Bool.and_eq_true, decide_eq_true_eq, h]
    constructor
    · rintro (h | ⟨⟨a, b, c⟩, d⟩)
      · exact Or.inl h
      · exact Or.inr ⟨a, b, c, d⟩
    · rintro (h | ⟨a, b, c, d⟩)
      · exact Or.inl h
      · exact Or.inr ⟨⟨a, b, c⟩, d⟩
def nkB (x : Int) : Bool := decide (0 < x) && nmB 8 x
theorem nkB_i (x : Int) : nkB x = true ↔ nmk x := by
  unfold nkB nmk
  rw [Bool.and_eq_true, decide_eq_true_eq, nmB_i]
def kxCount (w : Int) : Int := if 0 ≤ w ∧ w ≤ 7 then 0 else 1
def axCount (σ : Int → Int) (w : Int) : Int := if w = 0 then σ 2 else if w = 1 then σ 3 else if w = 2 then mbS σ 0 1 else if w = 3 then σ 0 else if w = 4 then σ 1 else if w = 5 then σ 4 else if w = 6 then tgS σ else coS σ (-1) 1
def kxFolder (σ : Int → Int) (f w : Int) : Int := if 0 ≤ f ∧ f < σ 2 then (if 0 ≤ w ∧ w ≤ 9 then 0 else 2) else 1
def axFolder (σ : Int → Int) (f w : Int) : Int := if w = 0 then σ (69 + f) else if w = 1 then σ (109 + f) else if w = 2 then pjF σ f else if w = 3 then biS σ f else if w = 4 then fiS σ f else if w = 5 then dpF σ (σ (69 + f)) else if w = 6 then fbS σ f else if w = 7 then mbS σ f 0 else if w = 8 then mbS σ f 1 else opS σ f 0
def kxFo (σ : Int → Int) (f : Int) : Int := if 0 ≤ f ∧ f < σ 2 then 0 else 1
def wk (σ : Int → Int) : Nat → Int
  | 0 => 0
  | n + 1 => nxS σ (wk σ n)
def kxHeav (σ : Int → Int) (f : Int) : Int := if 0 ≤ f ∧ f < σ 2 then (if biS σ f = 0 then 2 else 0) else 1
def kxAddF (σ : Int → Int) (p x : Int) : Int := if 0 ≤ p ∧ p < σ 2 then (if nkB x = true ∧ fnS σ x 0 = -1 then (if σ 2 = 40 then 3 else 0) else 2) else 1
def nxAddF (σ : Int → Int) (p x : Int) : Int → Int := scA (adF σ p x) 16
def kxRemF (σ : Int → Int) (f : Int) : Int := if 0 ≤ f ∧ f < σ 2 then (if f = 0 ∨ 0 < biS σ f ∨ 0 < fiS σ f then 2 else 0) else 1
def nxRemF (σ : Int → Int) (f : Int) : Int → Int := scA (rfA σ f) 16
def kxTagR (σ : Int → Int) (f t : Int) : Int := if 0 ≤ f ∧ f < σ 2 then (if -1 ≤ t ∧ t ≤ 7 then 0 else 2) else 1
def kxTag (σ : Int → Int) (f t : Int) : Int := if 0 ≤ f ∧ f < σ 2 then (if -1 ≤ t ∧ t ≤ 7 then (if 0 < rtS σ f t then 3 else 0) else 2) else 1
def nxTag (σ : Int → Int) (f t : Int) : Int → Int := scA (zu (paA σ f (pjF σ f) (pwS σ f t)) (109 + f) t) 16
def axTag (σ : Int → Int) (f t : Int) : Int := if pjF σ f = pwS σ f t then 0 else opS σ f 0
def kxMoveR (σ : Int → Int) (f q : Int) : Int := if (0 ≤ f ∧ f < σ 2) ∧ (0 ≤ q ∧ q < σ 2) then 0 else 1
def kxMove (σ : Int → Int) (f q : Int) : Int := if (0 ≤ f ∧ f < σ 2) ∧ (0 ≤ q ∧ q < σ 2) then (if 0 < rmS σ f q then 2 else 0) else 1
def nxMove (σ : Int → Int) (f q : Int) : Int → Int := scA (zu (paA σ f (pjF σ f) (puS σ f q)) (69 + f) q) 16
def axMove (σ : Int → Int) (f q : Int) : Int := if pjF σ f = puS σ f q then 0 else opS σ f 0
def kxFile (σ : Int → Int) (k w : Int) : Int := if 0 ≤ k ∧ k < σ 3 then (if 0 ≤ w ∧ w ≤ 2 then 0 else 2) else 1
def axFile (σ : Int → Int) (k w : Int) : Int := if w = 0 then σ (189 + k) else if w = 1 then σ (249 + k) else pjF σ (σ (189 + k))
def kxWriteR (σ : Int → Int) (f b : Int) : Int := if 0 ≤ f ∧ f < σ 2 then (if 0 ≤ b ∧ b ≤ 9999 then 0 else 2) else 1
def axWriteR (σ : Int → Int) (f b : Int) : Int := rsS σ (pjF σ f) b 1
def kxWrite (σ : Int → Int) (f b : Int) : Int := if 0 ≤ f ∧ f < σ 2 then (if 0 ≤ b ∧ b ≤ 9999 then (if σ 3 = 60 ∨ 0 < rsS σ (pjF σ f) b 1 then 3 else 0) else 2) else 1
def nxWrite (σ : Int → Int) (f b : Int) : Int → Int := scA (coA (afF σ f b) (pjF σ f) b 1) 16
def kxResize (σ : Int → Int) (k b : Int) : Int := if 0 ≤ k ∧ k < σ 3 then (if 0 ≤ b ∧ b ≤ 9999 then (if 0 < rsS σ (pjF σ (σ (189 + k))) (b - σ (249 + k)) 0 then 3 else 0) else 2) else 1
def nxResize (σ : Int → Int) (k b : Int) : Int → Int := scA (zu (coA σ (pjF σ (σ (189 + k))) (b - σ (249 + k)) 0) (249 + k) b) 16
def kxFi (σ : Int → Int) (k : Int) : Int := if 0 ≤ k ∧ k < σ 3 then 0 else 1
def nxDelete (σ : Int → Int) (k : Int) : Int → Int := scA (dfA (coA σ (pjF σ (σ (189 + k))) (-σ (249 + k)) (-1)) k) 16
def kxMoveFi (σ : Int → Int) (k f : Int) : Int := if (0 ≤ k ∧ k < σ 3) ∧ (0 ≤ f ∧ f < σ 2) then (if 0 < rcS σ k f then 2 else 0) else 1
def cmA (σ : Int → Int) (a t b : Int) : Int → Int := if a = t then σ else coA (coA σ t b 1) a (-b) (-1)
def nxMoveFi (σ : Int → Int) (k f : Int) : Int → Int := scA (zu (cmA σ (pjF σ (σ (189 + k))) (pjF σ f) (σ (249 + k))) (189 + k) f) 16
def axMoveFi (σ : Int → Int) (k f : Int) : Int := if pjF σ (σ (189 + k)) = pjF σ f then 0 else 1
def kxGreat (σ : Int → Int) (p : Int) : Int := if 0 ≤ p ∧ p ≤ 7 then (if coS σ p 1 = 0 then 2 else 0) else 1
def kxPK (p k : Int) : Int := if (0 ≤ p ∧ p ≤ 7) ∧ (0 ≤ k ∧ k ≤ 1) then 0 else 1
def kxSetL (σ : Int → Int) (p k s h : Int) : Int := if (0 ≤ p ∧ p ≤ 7) ∧ (0 ≤ k ∧ k ≤ 1) ∧ (0 ≤ s ∧ s ≤ 99999) ∧ (0 ≤ h ∧ h ≤ 99999) ∧ (h = 0 ∨ s ≤ h) then (if h = 0 ∧ k = 0 ∧ hgS σ p then 2 else 0) else 1
def nxSetL (σ : Int → Int) (p k s h : Int) : Int → Int := scA (zu (zu σ (5 + (2 * p + k)) s) (21 + (2 * p + k)) h) 16
def axGrace (σ : Int → Int) (p k : Int) : Int := if σ (53 + (2 * p + k)) = -1 then -1 else max 0 (σ (53 + (2 * p + k)) + σ 1 - σ 0)
def kxSetG (g : Int) : Int := if 1 ≤ g ∧ g ≤ 99 then 0 else 1
def nxSetG (σ : Int → Int) (g : Int) : Int → Int := scA (zu σ 1 g) 16
def kxTick (σ : Int → Int) (t : Int) : Int := if 1 ≤ t ∧ t ≤ 999 then (if 9999 < σ 0 + t then 2 else 0) else 1
def tkA (σ : Int → Int) (t : Int) : Int → Int := reG (zu σ 0 (σ 0 + t)) (σ 0 + t) (σ 4).toNat
def nxTick (σ : Int → Int) (t : Int) : Int → Int := scA (tkA σ t) 16
def axNext (σ : Int → Int) : Int := eeS σ (feS σ) (fg σ 16)
def kxShare (σ : Int → Int) (p k : Int) : Int := if (0 ≤ p ∧ p ≤ 7) ∧ (0 ≤ k ∧ k ≤ 1) then (if lmS σ 21 p k ≤ 0 then 2 else 0) else 1
def kxGift (σ : Int → Int) (a t b d : Int) : Int := if (0 ≤ a ∧ a ≤ 7) ∧ (0 ≤ t ∧ t ≤ 7) ∧ ¬ a = t ∧ (1 ≤ b ∧ b ≤ 9999) ∧ (1 ≤ d ∧ d ≤ 999) then (if rfS σ a t b then 2 else 0) else 1
def nxGift (σ : Int → Int) (a t b d : Int) : Int → Int := scA (gaA σ a t b (σ 0 + d)) 16
def kxGiftO (σ : Int → Int) (g w : Int) : Int := if 0 ≤ g ∧ g < σ 4 then (if 0 ≤ w ∧ w ≤ 3 then 0 else 2) else 1
def kxGi (σ : Int → Int) (g : Int) : Int := if 0 ≤ g ∧ g < σ 4 then 0 else 1
def nxEndG (σ : Int → Int) (g : Int) : Int → Int := scA (dgF σ g) 16
def kxAdj (σ : Int → Int) (p k b : Int) : Int := if (0 ≤ p ∧ p ≤ 7) ∧ (0 ≤ k ∧ k ≤ 1) ∧ (-9999 ≤ b ∧ b ≤ 9999) then (if 0 ≤ σ (37 + (2 * p + k)) + b ∧ σ (37 + (2 * p + k)) + b ≤ 999999 then 0 else 2) else 1
def nxAdj (σ : Int → Int) (p k b : Int) : Int → Int := scA (zu σ (37 + (2 * p + k)) (σ (37 + (2 * p + k)) + b)) 16
def nxRep (σ : Int → Int) : Int → Int := scA (reA σ 16) 16
theorem kxPK_0 {p k : Int} (h : ¬ kxPK p k = 1) : kxPK p k = 0 ∧ (0 ≤ p ∧ p ≤ 7) ∧ (k = 0 ∨ k = 1) := by
  unfold kxPK at h ⊢
  by_cases q : (0 ≤ p ∧ p ≤ 7) ∧ (0 ≤ k ∧ k ≤ 1)
  · rw [if_pos q]; exact ⟨rfl, q.1, by omega⟩
  · rw [if_neg q] at h; exact absurd rfl h
theorem kxPK_1 {p k : Int} (h : kxPK p k = 1) : ¬ ((0 ≤ p ∧ p ≤ 7) ∧ (0 ≤ k ∧ k ≤ 1)) := by
  intro q
  unfold kxPK at h
  rw [if_pos q] at h
  omega
def kxUndo (m : Int) : Int := if m = 0 then 1 else 0
