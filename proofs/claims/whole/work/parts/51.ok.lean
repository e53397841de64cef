/-! what holds where a call doesn't throw; more of the answers -/
def exq (a b c : String) (k : Int) : String := if k = 1 then a else if k = 2 then b else c
def pU (π : Nat → Int → Int) (i : Int) (x : Int → Int) : Nat → Int → Int := fun j => if j = i.toNat then x else π j
theorem kxCount_ok {w : Int} (h : kxCount w = 0) : 0 ≤ w ∧ w ≤ 7 := by unfold kxCount at h; split at h <;> first | assumption | omega
theorem kxFolder_ok {σ : Int → Int} {f w : Int} (h : kxFolder σ f w = 0) : (0 ≤ f ∧ f < σ 2) ∧ (0 ≤ w ∧ w ≤ 9) := by unfold kxFolder at h; (repeat' split at h) <;> omega
theorem kxFo_ok {σ : Int → Int} {f : Int} (h : kxFo σ f = 0) : 0 ≤ f ∧ f < σ 2 := by unfold kxFo at h; split at h <;> omega
theorem kxHeav_ok {σ : Int → Int} {f : Int} (h : kxHeav σ f = 0) : (0 ≤ f ∧ f < σ 2) ∧ ¬ biS σ f = 0 := by unfold kxHeav at h; (repeat' split at h) <;> omega
theorem kxAddF_ok {σ : Int → Int} {p x : Int} (h : kxAddF σ p x = 0) : (0 ≤ p ∧ p < σ 2) ∧ nkB x = true ∧ fnS σ x 0 = -1 ∧ ¬ σ 2 = 40 := by
  unfold kxAddF at h
  split at h
  · rename_i a
    split at h
    · rename_i b
      split at h
      · omega
      · rename_i c; exact ⟨a, b.1, b.2, c⟩
    · omega
  · omega
theorem kxRemF_ok {σ : Int → Int} {f : Int} (h : kxRemF σ f = 0) : (0 ≤ f ∧ f < σ 2) ∧ ¬ f = 0 ∧ biS σ f ≤ 0 ∧ fiS σ f ≤ 0 := by unfold kxRemF at h; (repeat' split at h) <;> omega
theorem kxTagR_ok {σ : Int → Int} {f t : Int} (h : kxTagR σ f t = 0) : (0 ≤ f ∧ f < σ 2) ∧ (-1 ≤ t ∧ t ≤ 7) := by unfold kxTagR at h; (repeat' split at h) <;> omega
theorem kxTag_ok {σ : Int → Int} {f t : Int} (h : kxTag σ f t = 0) : (0 ≤ f ∧ f < σ 2) ∧ (-1 ≤ t ∧ t ≤ 7) ∧ rtS σ f t ≤ 0 := by unfold kxTag at h; (repeat' split at h) <;> omega
theorem kxMoveR_ok {σ : Int → Int} {f q : Int} (h : kxMoveR σ f q = 0) : (0 ≤ f ∧ f < σ 2) ∧ (0 ≤ q ∧ q < σ 2) := by unfold kxMoveR at h; (repeat' split at h) <;> omega
theorem kxMove_ok {σ : Int → Int} {f q : Int} (h : kxMove σ f q = 0) : (0 ≤ f ∧ f < σ 2) ∧ (0 ≤ q ∧ q < σ 2) ∧ rmS σ f q ≤ 0 := by unfold kxMove at h; (repeat' split at h) <;> omega
theorem kxFile_ok {σ : Int → Int} {k w : Int} (h : kxFile σ k w = 0) : (0 ≤ k ∧ k < σ 3) ∧ (0 ≤ w ∧ w ≤ 2) := by unfold kxFile at h; (repeat' split at h) <;> omega
theorem kxWriteR_ok {σ : Int → Int} {f b : Int} (h : kxWriteR σ f b = 0) : (0 ≤ f ∧ f < σ 2) ∧ (0 ≤ b ∧ b ≤ 9999) := by unfold kxWriteR at h; (repeat' split at h) <;> omega
theorem kxWrite_ok {σ : Int → Int} {f b : Int} (h : kxWrite σ f b = 0) : (0 ≤ f ∧ f < σ 2) ∧ (0 ≤ b ∧ b ≤ 9999) ∧ ¬ σ 3 = 60 ∧ rsS σ (pjF σ f) b 1 ≤ 0 := by unfold kxWrite at h; (repeat' split at h) <;> omega
theorem kxResize_ok {σ : Int → Int} {k b : Int} (h : kxResize σ k b = 0) : (0 ≤ k ∧ k < σ 3) ∧ (0 ≤ b ∧ b ≤ 9999) ∧ rsS σ (pjF σ (σ (189 + k))) (b - σ (249 + k)) 0 ≤ 0 := by unfold kxResize at h; (repeat' split at h) <;> omega
theorem kxFi_ok {σ : Int → Int} {k : Int} (h : kxFi σ k = 0) : 0 ≤ k ∧ k < σ 3 := by unfold kxFi at h; split at h <;> omega
theorem kxMoveFi_ok {σ : Int → Int} {k f : Int} (h : kxMoveFi σ k f = 0) : (0 ≤ k ∧ k < σ 3) ∧ (0 ≤ f ∧ f < σ 2) ∧ rcS σ k f ≤ 0 := by unfold kxMoveFi at h; (repeat' split at h) <;> omega
theorem kxGreat_ok {σ : Int → Int} {p : Int} (h : kxGreat σ p = 0) : (0 ≤ p ∧ p ≤ 7) ∧ ¬ coS σ p 1 = 0 := by unfold kxGreat at h; (repeat' split at h) <;> omega
theorem kxPK_ok {p k : Int} (h : kxPK p k = 0) : (0 ≤ p ∧ p ≤ 7) ∧ (0 ≤ k ∧ k ≤ 1) := by unfold kxPK at h; split at h <;> omega
theorem kxSetL_ok {σ : Int → Int} {p k s h0 : Int} (h : kxSetL σ p k s h0 = 0) : (0 ≤ p ∧ p ≤ 7) ∧ (0 ≤ k ∧ k ≤ 1) ∧ (0 ≤ s ∧ s ≤ 99999) ∧ (0 ≤ h0 ∧ h0 ≤ 99999) ∧ (h0 = 0 ∨ s ≤ h0) ∧ ¬ (h0 = 0 ∧ k = 0 ∧ hgS σ p) := by
  unfold kxSetL at h
  split at h
  · rename_i a
    split at h
    · omega
    · rename_i b; exact ⟨a.1, a.2.1, a.2.2.1, a.2.2.2.1, a.2.2.2.2, b⟩
  · omega
theorem kxSetG_ok {g : Int} (h : kxSetG g = 0) : 1 ≤ g ∧ g ≤ 99 := by unfold kxSetG at h; split at h <;> omega
theorem kxTick_ok {σ : Int → Int} {t : Int} (h : kxTick σ t = 0) : (1 ≤ t ∧ t ≤ 999) ∧ σ 0 + t ≤ 9999 := by unfold kxTick at h; (repeat' split at h) <;> omega
theorem kxShare_ok {σ : Int → Int} {p k : Int} (h : kxShare σ p k = 0) : ((0 ≤ p ∧ p ≤ 7) ∧ (0 ≤ k ∧ k ≤ 1)) ∧ 0 < lmS σ 21 p k := by unfold kxShare at h; (repeat' split at h) <;> omega
theorem kxGift_ok {σ : Int → Int} {a t b d : Int} (h : kxGift σ a t b d = 0) : (0 ≤ a ∧ a ≤ 7) ∧ (0 ≤ t ∧ t ≤ 7) ∧ ¬ a = t ∧ (1 ≤ b ∧ b ≤ 9999) ∧ (1 ≤ d ∧ d ≤ 999) ∧ ¬ rfS σ a t b := by
  unfold kxGift at h
  split at h
  · rename_i q
    split at h
    · omega
    · rename_i r; exact ⟨q.1, q.2.1, q.2.2.1, q.2.2.2.1, q.2.2.2.2, r⟩
  · omega
theorem kxGiftO_ok {σ : Int → Int} {g w : Int} (h : kxGiftO σ g w = 0) : (0 ≤ g ∧ g < σ 4) ∧ (0 ≤ w ∧ w ≤ 3) := by unfold kxGiftO at h; (repeat' split at h) <;> omega
theorem kxGi_ok {σ : Int → Int} {g : Int} (h : kxGi σ g = 0) : 0 ≤ g ∧ g < σ 4 := by unfold kxGi at h; split at h <;> omega
theorem kxAdj_ok {σ : Int → Int} {p k b : Int} (h : kxAdj σ p k b = 0) : (0 ≤ p ∧ p ≤ 7) ∧ (0 ≤ k ∧ k ≤ 1) ∧ (-9999 ≤ b ∧ b ≤ 9999) ∧ (0 ≤ σ (37 + (2 * p + k)) + b ∧ σ (37 + (2 * p + k)) + b ≤ 999999) := by unfold kxAdj at h; (repeat' split at h) <;> omega
theorem kxUndo_ok {m : Int} (h : kxUndo m = 0) : ¬ m = 0 := by unfold kxUndo at h; split at h <;> omega
/-! the heaviest child, the greatest file: none where there is none -/
theorem hv_i (σ : Int → Int) (f : Int) : ∀ n : Nat, hv σ f n = -1 ↔ ∀ k : Int, 0 ≤ k → k < n → ¬ σ (69 + k) = f
  | 0 => ⟨fun _ k h0 h1 => by omega, fun _ => rfl⟩
  | n + 1 => by
    have ih := hv_i σ f n
    rw [hv]
    by_cases c : σ (69 + (n : Int)) = f ∧ (hv σ f n = -1 ∨ mbS σ (hv σ f n) 1 < mbS σ (n : Int) 1)
    · rw [if_pos c]
      exact ⟨fun h => by omega, fun h => absurd c.1 (h n (by omega) (by omega))⟩
    · rw [if_neg c]
      constructor
      · intro h k h0 h1
        by_cases e : k = n
        · subst e
          exact fun z => c ⟨z, Or.inl h⟩
        · exact ih.mp h k h0 (by omega)
      · intro h
        exact ih.mpr (fun k h0 h1 => h k h0 (by omega))
theorem hvS_b {σ : Int → Int} (h : In σ) (f : Int) : -1 ≤ hvS σ f ∧ hvS σ f < 40 := by
  have hF := h.F
  unfold hvS
  rcases hv_b σ f (σ 2).toNat with q | q <;> omega
theorem cn_zz {p : Int → Int} : ∀ n : Nat, (∀ k : Int, 0 ≤ k → k < n → p k = 0) → cn p n = 0
  | 0, _ => rfl
  | n + 1, h => by
    rw [cn, cn_zz n (fun k h0 h1 => h k h0 (by omega)), h n (by omega) (by omega)]; rfl
theorem biS_i {σ : Int → Int} (h : In σ) (f : Int) : biS σ f = 0 ↔ ∀ k : Int, 0 ≤ k → k < σ 2 → ¬ σ (69 + k) = f := by
  have hF := h.F
  constructor
  · exact fun q => biS_0 (by omega) q
  · intro q
    unfold biS
    refine cn_zz _ (fun k h0 h1 => ?_)
    unfold biP
    rw [if_neg (q k h0 (by omega))]
theorem hvS_i {σ : Int → Int} (h : In σ) (f : Int) : hvS σ f = -1 ↔ biS σ f = 0 := by
  have hF := h.F
  rw [biS_i h]
  unfold hvS
  rw [hv_i]
  exact ⟨fun q k h0 h1 => q k h0 (by omega), fun q k h0 h1 => q k h0 (by omega)⟩
theorem gf_i (σ : Int → Int) (p : Int) : ∀ n : Nat, gf σ p n = -1 ↔ ∀ k : Int, 0 ≤ k → k < n → ¬ pjF σ (σ (189 + k)) = p
  | 0 => ⟨fun _ k h0 h1 => by omega, fun _ => rfl⟩
  | n + 1 => by
    have ih := gf_i σ p n
    rw [gf]
    by_cases c : pjF σ (σ (189 + (n : Int))) = p ∧ (gf σ p n = -1 ∨ σ (249 + gf σ p n) < σ (249 + (n : Int)))
    · rw [if_pos c]
      exact ⟨fun h => by omega, fun h => absurd c.1 (h n (by omega) (by omega))⟩
    · rw [if_neg c]
      constructor
      · intro h k h0 h1
        by_cases e : k = n
        · subst e
          exact fun z => c ⟨z, Or.inl h⟩
        · exact ih.mp h k h0 (by omega)
      · intro h
        exact ih.mpr (fun k h0 h1 => h k h0 (by omega))
theorem gfS_b {σ : Int → Int} (h : In σ) (p : Int) : -1 ≤ gfS σ p ∧ gfS σ p < 60 := by
  have hM := h.M
  unfold gfS
  rcases gf_b σ p (σ 3).toNat with q | q <;> omega
theorem gfS_i {σ : Int → Int} (h : In σ) (p : Int) : gfS σ p = -1 ↔ coS σ p 1 = 0 := by
  have hM := h.M
  unfold gfS
  rw [gf_i]
  constructor
  · intro q
    unfold coS
    refine cn_zz _ (fun k h0 h1 => ?_)
    unfold coP
    rw [if_neg (q k h0 (by omega))]
  · intro q k h0 h1 z
    unfold coS at q
    have r := cn_z (p := coP σ p 1) (fun j => by
      unfold coP
      split
      · rw [if_neg (by decide)]; decide
      · decide) (σ 3).toNat q k h0 (by omega)
    unfold coP at r
    rw [if_pos z, if_neg (by decide)] at r
    omega
theorem geS_i {σ : Int → Int} (h : In σ) {p k : Int} (hp : 0 ≤ p ∧ p ≤ 7) (hk : k = 0 ∨ k = 1) (q : geS σ p k = -1) : σ (53 + (2 * p + k)) = -1 := by
  have ha := h.acc (k := 2 * p + k) (by omega) (by omega)
  have hg := h.gr
  unfold geS at q
  by_cases z : σ (53 + (2 * p + k)) = -1
  · exact z
  · rw [if_neg z] at q; omega
theorem geS_j {σ : Int → Int} (h : In σ) {p k : Int} (hp : 0 ≤ p ∧ p ≤ 7) (hk : k = 0 ∨ k = 1) (q : ¬ geS σ p k = -1) : ¬ σ (53 + (2 * p + k)) = -1 := by
  intro z
  unfold geS at q
  rw [if_pos z] at q
  exact q rfl
theorem geS_k {σ : Int → Int} {p k : Int} (q : ¬ σ (53 + (2 * p + k)) = -1) : geS σ p k = σ (53 + (2 * p + k)) + σ 1 := by
  unfold geS; rw [if_neg q]
theorem fe_b {σ : Int → Int} (h : In σ) : ∀ n : Nat, (n : Int) ≤ σ 4 → -1 ≤ fe σ n ∧ fe σ n ≤ 19999
  | 0, _ => by simp [fe]
  | n + 1, hn => by
    have q := fe_b h n (by omega)
    have r := h.gft (g := (n : Int)) (by omega) (by omega)
    rw [fe]
    split <;> omega
theorem feS_b {σ : Int → Int} (h : In σ) : -1 ≤ feS σ ∧ feS σ ≤ 19999 := by
  have hG := h.Gn
  exact fe_b h _ (by omega)
theorem fg_b {σ : Int → Int} (h : In σ) : ∀ n : Nat, n ≤ 16 → -1 ≤ fg σ n ∧ fg σ n ≤ 19999
  | 0, _ => by simp [fg]
  | n + 1, hn => by
    have q := fg_b h n (by omega)
    have r := geS_b h (p := (n : Int) / 2) (k := (n : Int) % 2) (by omega) (by omega)
    rw [fg]
    exact eeS_b q (by omega)
