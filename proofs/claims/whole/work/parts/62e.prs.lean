/-! a whole text: its statements one after another; the row stays a tree -/
section PRS
theorem nmo_wv {b : Int → Int} {p : Int} : ∀ k : Nat, (∀ j : Nat, j < k → 97 ≤ b (p + j) ∧ b (p + j) ≤ 122) → (0 < k → 0 < wv b p k) ∧ nmo k (wv b p k)
  | 0, _ => ⟨fun h => absurd h (Nat.lt_irrefl _), rfl⟩
  | k + 1, h => by
    have ih := nmo_wv k (fun j hj => h j (by omega))
    have q := wv_nn k (fun j hj => h j (by omega))
    have r := h k (by omega)
    rw [wv]
    refine ⟨fun _ => by omega, Or.inr ⟨by omega, by omega, by omega, ?_⟩⟩
    rw [show (wv b p k * 32 + (b (p + k) - 96)) / 32 = wv b p k by omega]
    exact ih.2
theorem nmo_up : ∀ (k : Nat) (x : Int), nmo k x → nmo (k + 1) x
  | 0, x, h => Or.inl h
  | k + 1, x, h => by
    rcases h with h | ⟨h1, h2, h3, h4⟩
    · exact Or.inl h
    · exact Or.inr ⟨h1, h2, h3, nmo_up k _ h4⟩
theorem nmo_ups (x : Int) (k : Nat) (h : nmo k x) : ∀ d : Nat, nmo (k + d) x
  | 0 => h
  | d + 1 => nmo_up (k + d) x (nmo_ups x k h d)
theorem Wo_k {b : Int → Int} {n c : Int} (hc : c ≤ n) (hk : Kd b n c = 0) (h8 : Te b n c - Sk b n c ≤ 8) : nmk (Wo b n c) := by
  rw [Kd_f] at hk
  rw [Te_f, Sk_f] at h8
  rw [Wo_f]
  have q := kd_0 hk
  have t := te_b b hc
  have g : sk b n c < te b n c := te_g hc (by omega)
  unfold wo
  rw [show min (te b n c - sk b n c) 8 = te b n c - sk b n c by omega]
  have l1 : ∀ j : Nat, j < (te b n c - sk b n c).toNat → 97 ≤ b (sk b n c + j) ∧ b (sk b n c + j) ≤ 122 := fun j hj => rn_in (b := b) (n := n) (i := sk b n c) (by omega) (by rw [← q.2.2]; omega)
  have w := nmo_wv _ l1
  have u := nmo_ups _ _ w.2 (8 - (te b n c - sk b n c).toNat)
  rw [show (te b n c - sk b n c).toNat + (8 - (te b n c - sk b n c).toNat) = 8 by omega] at u
  exact ⟨w.1 (by omega), u⟩
theorem Te_b (b : Int → Int) {n c : Int} (h : c ≤ n) : c ≤ Te b n c ∧ Te b n c ≤ n := by
  rw [Te_f]
  have q := sk_b b h
  have t := te_b b h
  omega
theorem Te_g {b : Int → Int} {n c : Int} (h : c ≤ n) (hk : ¬ Kd b n c = 3) : c < Te b n c := by
  rw [Kd_f] at hk
  rw [Te_f]
  have q := sk_b b h
  have t := te_g h hk
  omega
theorem cSt_b (b : Int → Int) {n c : Int} (h : c ≤ n) : Te b n c ≤ cSt b n c ∧ cSt b n c ≤ n := by
  have h1 := Te_b b h
  have h2 := Te_b b h1.2
  have h3 := Te_b b h2.2
  have h4 := Te_b b h3.2
  have h5 := Te_b b h4.2
  have h6 := Te_b b h5.2
  unfold cSt
  split
  · omega
  · split
    · show _ ≤ Te b n (Te b n (Te b n (Te b n (Te b n (Te b n c))))) ∧ Te b n (Te b n (Te b n (Te b n (Te b n (Te b n c))))) ≤ n
      omega
    · omega
theorem stC_b (b : Int → Int) {n c : Int} (h : c ≤ n) : cSt b n c ≤ stC b n c ∧ stC b n c ≤ n := Te_b b (cSt_b b h).2
theorem stC_g {b : Int → Int} {n c : Int} (h : c ≤ n) (hk : ¬ Kd b n c = 3) : c < stC b n c := by
  have h1 := Te_g h hk
  have h2 := cSt_b b h
  have h3 := stC_b b h
  omega
theorem fnrT_b (σ : Int → Int) (x : Int) : ∀ (n : Nat) (k : Int), fnr σ x n k = -1 ∨ (k ≤ fnr σ x n k ∧ fnr σ x n k < k + n)
  | 0, _ => Or.inl rfl
  | n + 1, k => by
    have h := fnrT_b σ x n (k + 1)
    rw [fnr]; split <;> omega
theorem fnS_lt {σ : Int → Int} (h : In σ) (x : Int) : fnS σ x 0 = -1 ∨ (0 ≤ fnS σ x 0 ∧ fnS σ x 0 < σ 2) := by
  have hF := h.F
  have q := fnrT_b σ x (σ 2 - 0).toNat 0
  unfold fnS; omega
theorem limS {φ : Int → Int} (h : In φ) {p s g k : Int} (hp : 0 ≤ p ∧ p ≤ 7) (hk : 0 ≤ k ∧ k ≤ 1) (hs : 0 ≤ s ∧ s ≤ 99999) (hg : 0 ≤ g ∧ g ≤ 99999) : In (zu (zu φ (5 + 2 * p + k) s) (21 + 2 * p + k) g) := by
  rw [Int.add_assoc, Int.add_assoc]
  exact h.lims (by omega) hs hg
theorem xL1_0 {b : Int → Int} {n c : Int} (h : xL1 b n c = 0) : (0 ≤ Nm b n c ∧ Nm b n c ≤ 99999) ∧ (0 ≤ Nm b n (Te b n c) ∧ Nm b n (Te b n c) ≤ 99999) := by
  unfold xL1 at h
  by_cases q : RNum b n c 0 99999 = 0
  · rw [if_pos q] at h
    have z : RNum b n (Te b n c) 0 99999 = 0 := by split at h <;> omega
    exact ⟨(RNum_0 q).2, (RNum_0 z).2⟩
  · rw [if_neg q] at h; exact absurd h q
theorem lf_I {b : Int → Int} {n : Int} {φ : Int → Int} {c : Int} (hI : In φ) : ∀ k : Nat, k ≤ 2 → lx b n c k = 0 → In (lf b n φ c k) ∧ 0 ≤ Nm b n (Te b n c) ∧ Nm b n (Te b n c) ≤ 7
  | 0, _, h => ⟨hI, (RNum_0 h).2⟩
  | k + 1, hk, h => by
    rw [lx] at h
    have h0 : lx b n c k = 0 := by split at h <;> assumption
    rw [if_pos h0] at h
    have ih := lf_I hI k (by omega) h0
    have v := xL1_0 h
    exact ⟨limS ih.1 ih.2 (by omega) v.1 v.2, ih.2⟩
theorem xSt_I {b : Int → Int} {n : Int} {φ : Int → Int} {c : Int} (hI : In φ) (hc : c ≤ n) (h : xSt b n φ c = 0) : In (fSt b n φ c) := by
  have hF := hI.F
  have hM := hI.M
  have h1 := Te_b b hc
  unfold xSt at h
  unfold fSt
  split at h
  · rename_i q
    rw [if_pos q]
    exact hI.grace (RNum_0 h).2
  · rename_i q0
    rw [if_neg q0]
    split at h
    · rename_i q
      rw [if_pos q]
      exact (lf_I hI 2 (by omega) h).1
    · rename_i q1
      rw [if_neg q1]
      split at h
      · rename_i q
        rw [if_pos q]
        unfold xFld at h
        by_cases z : φ 2 = 40
        · rw [if_pos z] at h; omega
        · rw [if_neg z] at h
          by_cases y : RNew b n φ (Te b n c) = 0
          · rw [if_pos y] at h
            have a := RFol_0 h
            have r := fnS_lt hI (Wo b n (Te b n (Te b n c)))
            have w := RNew_0 y
            exact hI.adFI (by omega) (by omega) (Wo_k h1.2 w.1 w.2.1)
          · rw [if_neg y] at h; exact absurd h y
      · rename_i q2
        rw [if_neg q2]
        split at h
        · rename_i q
          rw [if_pos q]
          unfold xTag at h
          by_cases y : RFol b n φ (Te b n c) = 0
          · rw [if_pos y] at h
            have a := RFol_0 y
            have r := fnS_lt hI (Wo b n (Te b n c))
            have v := (RNum_0 h).2
            exact hI.tagS (by omega) (by omega)
          · rw [if_neg y] at h; exact absurd h y
        · rename_i q3
          rw [if_neg q3]
          split at h
          · unfold xFil at h
            by_cases z : φ 3 = 60
            · rw [if_pos z] at h; omega
            · rw [if_neg z] at h
              by_cases y : RFol b n φ (Te b n c) = 0
              · rw [if_pos y] at h
                have a := RFol_0 y
                have r := fnS_lt hI (Wo b n (Te b n c))
                have v := (RNum_0 h).2
                exact hI.afFI (by omega) (by omega) v
              · rw [if_neg y] at h; exact absurd h y
          · omega
theorem stX_I {b : Int → Int} {n : Int} {φ : Int → Int} {c : Int} (hI : In φ) (hc : c ≤ n) (h : stX b n φ c = 0) : In (fSt b n φ c) := by
  unfold stX at h
  by_cases q : xSt b n φ c = 0
  · exact xSt_I hI hc q
  · rw [if_neg q] at h; exact absurd h q
/-- the code, the place and the row of a text from c on -/
def pX (b : Int → Int) (n : Int) : Nat → (Int → Int) → Int → Int
  | 0, _, _ => 0
  | k + 1, φ, c => if Kd b n c = 3 then 0 else if stX b n φ c = 0 then pX b n k (fSt b n φ c) (stC b n c) else stX b n φ c
def pP (b : Int → Int) (n : Int) : Nat → (Int → Int) → Int → Int
  | 0, _, _ => -1
  | k + 1, φ, c => if Kd b n c = 3 then -1 else if stX b n φ c = 0 then pP b n k (fSt b n φ c) (stC b n c) else stP b n φ c
def pF (b : Int → Int) (n : Int) : Nat → (Int → Int) → Int → Int → Int
  | 0, φ, _ => φ
  | k + 1, φ, c => if Kd b n c = 3 then φ else if stX b n φ c = 0 then pF b n k (fSt b n φ c) (stC b n c) else φ
theorem pF_I {b : Int → Int} {n : Int} : ∀ (k : Nat) {φ : Int → Int} {c : Int}, In φ → c ≤ n → In (pF b n k φ c)
  | 0, _, _, h, _ => h
  | k + 1, φ, c, h, hc => by
    rw [pF]
    split
    · exact h
    · split
      · rename_i q; exact pF_I k (stX_I h hc q) (stC_b b hc).2
      · exact h
end PRS
