/-! the reading of a text, without a machine: runs of signs, tokens, numbers, words -/
section PAR
def rnf (b : Int → Int) (n lo hi : Int) : Nat → Int → Int
  | 0, i => i
  | k + 1, i => if i < n ∧ lo ≤ b i ∧ b i ≤ hi then rnf b n lo hi k (i + 1) else i
/-- the end of the run of signs from lo to hi that begins at i -/
def rn (b : Int → Int) (n lo hi i : Int) : Int := rnf b n lo hi (n - i).toNat i
theorem rn_s {b : Int → Int} {n lo hi i : Int} (h : i < n ∧ lo ≤ b i ∧ b i ≤ hi) : rn b n lo hi i = rn b n lo hi (i + 1) := by
  unfold rn
  rw [show (n - i).toNat = (n - (i + 1)).toNat + 1 by omega, rnf, if_pos h]
theorem rn_e {b : Int → Int} {n lo hi i : Int} (h : ¬ (i < n ∧ lo ≤ b i ∧ b i ≤ hi)) : rn b n lo hi i = i := by
  unfold rn
  cases (n - i).toNat with
  | zero => rfl
  | succ k => rw [rnf, if_neg h]
theorem rnf_b (b : Int → Int) (n lo hi : Int) : ∀ (k : Nat) (i : Int), i ≤ rnf b n lo hi k i ∧ rnf b n lo hi k i ≤ i + k
  | 0, i => ⟨Int.le_refl _, by rw [rnf]; omega⟩
  | k + 1, i => by
    have h := rnf_b b n lo hi k (i + 1)
    rw [rnf]; split <;> omega
theorem rn_b (b : Int → Int) {n : Int} (lo hi : Int) {i : Int} (h : i ≤ n) : i ≤ rn b n lo hi i ∧ rn b n lo hi i ≤ n := by
  have q := rnf_b b n lo hi (n - i).toNat i
  unfold rn; omega
theorem rnf_x (b : Int → Int) (n lo hi : Int) : ∀ (k : Nat) (i : Int), n ≤ i + k → ¬ (rnf b n lo hi k i < n ∧ lo ≤ b (rnf b n lo hi k i) ∧ b (rnf b n lo hi k i) ≤ hi)
  | 0, i, h => by rw [rnf]; omega
  | k + 1, i, h => by
    rw [rnf]
    split
    · exact rnf_x b n lo hi k (i + 1) (by omega)
    · assumption
theorem rn_x (b : Int → Int) {n : Int} (lo hi : Int) (i : Int) : ¬ (rn b n lo hi i < n ∧ lo ≤ b (rn b n lo hi i) ∧ b (rn b n lo hi i) ≤ hi) := by
  unfold rn
  exact rnf_x b n lo hi _ i (by omega)
theorem rnf_in (b : Int → Int) (n lo hi : Int) : ∀ (k : Nat) (i j : Int), i ≤ j → j < rnf b n lo hi k i → lo ≤ b j ∧ b j ≤ hi
  | 0, i, j, h0, h1 => by rw [rnf] at h1; omega
  | k + 1, i, j, h0, h1 => by
    rw [rnf] at h1
    split at h1
    · rename_i q
      by_cases e : j = i
      · rw [e]; exact q.2
      · exact rnf_in b n lo hi k (i + 1) j (by omega) h1
    · omega
theorem rn_in {b : Int → Int} {n lo hi i j : Int} (h0 : i ≤ j) (h1 : j < rn b n lo hi i) : lo ≤ b j ∧ b j ≤ hi := rnf_in b n lo hi _ i j h0 h1
/-- behind the blanks -/
def sk (b : Int → Int) (n c : Int) : Int := rn b n 32 32 c
/-- what token begins behind the blanks at c: a word, a number, a sign, none -/
def kd (b : Int → Int) (n c : Int) : Int := if n ≤ sk b n c then 3 else if 97 ≤ b (sk b n c) ∧ b (sk b n c) ≤ 122 then 0 else if 48 ≤ b (sk b n c) ∧ b (sk b n c) ≤ 57 then 1 else 2
/-- behind it -/
def te (b : Int → Int) (n c : Int) : Int := if n ≤ sk b n c then sk b n c else if 97 ≤ b (sk b n c) ∧ b (sk b n c) ≤ 122 then rn b n 97 122 (sk b n c) else if 48 ≤ b (sk b n c) ∧ b (sk b n c) ≤ 57 then rn b n 48 57 (sk b n c) else sk b n c + 1
theorem sk_b (b : Int → Int) {n c : Int} (h : c ≤ n) : c ≤ sk b n c ∧ sk b n c ≤ n := rn_b b 32 32 h
theorem te_b (b : Int → Int) {n c : Int} (h : c ≤ n) : sk b n c ≤ te b n c ∧ te b n c ≤ n := by
  have q := sk_b b h
  have r1 := rn_b b 97 122 q.2
  have r2 := rn_b b 48 57 q.2
  unfold te; (repeat' split) <;> omega
theorem kd_b (b : Int → Int) (n c : Int) : 0 ≤ kd b n c ∧ kd b n c ≤ 3 := by unfold kd; (repeat' split) <;> omega
theorem kd_3 {b : Int → Int} {n c : Int} : kd b n c = 3 ↔ n ≤ sk b n c := by unfold kd; (repeat' split) <;> omega
theorem te_g {b : Int → Int} {n c : Int} (h : c ≤ n) (hk : ¬ kd b n c = 3) : sk b n c < te b n c := by
  have q := sk_b b h
  have hn : ¬ n ≤ sk b n c := fun z => hk (kd_3.mpr z)
  unfold te
  rw [if_neg hn]
  split
  · rename_i z
    rw [rn_s ⟨by omega, z⟩]
    have := rn_b b 97 122 (i := sk b n c + 1) (n := n) (by omega)
    omega
  · split
    · rename_i z
      rw [rn_s ⟨by omega, z⟩]
      have := rn_b b 48 57 (i := sk b n c + 1) (n := n) (by omega)
      omega
    · omega
/-- the value of k letters from p on -/
def wv (b : Int → Int) (p : Int) : Nat → Int
  | 0 => 0
  | k + 1 => wv b p k * 32 + (b (p + k) - 96)
/-- the value of k digits from p on; it doesn't grow from a million on -/
def nv (b : Int → Int) (p : Int) : Nat → Int
  | 0 => 0
  | k + 1 => if nv b p k < 1000000 then 10 * nv b p k + (b (p + k) - 48) else nv b p k
/-- the word as a long holds it -/
def sg64 (x : Int) : Int := (x + 9223372036854775808) % 18446744073709551616 - 9223372036854775808
def wW (b : Int → Int) (p : Int) : Nat → Int
  | 0 => 0
  | k + 1 => sg64 (wW b p k * 32 + (b (p + k) - 96))
def wo (b : Int → Int) (n c : Int) : Int := wv b (sk b n c) (min (te b n c - sk b n c) 8).toNat
def nm (b : Int → Int) (n c : Int) : Int := nv b (sk b n c) (te b n c - sk b n c).toNat
theorem nv_b {b : Int → Int} {p : Int} : ∀ k : Nat, (∀ j : Int, p ≤ j → j < p + k → 48 ≤ b j ∧ b j ≤ 57) → 0 ≤ nv b p k ∧ nv b p k ≤ 9999999
  | 0, _ => by simp [nv]
  | k + 1, h => by
    have q := nv_b k (fun j j0 j1 => h j j0 (by omega))
    have r := h (p + k) (by omega) (by omega)
    rw [nv]; split <;> omega
theorem wv_b {b : Int → Int} {p : Int} : ∀ k : Nat, (∀ j : Int, p ≤ j → j < p + k → 97 ≤ b j ∧ b j ≤ 122) → (k : Int) ≤ 8 → 0 ≤ wv b p k ∧ wv b p k * 32 ^ (8 - k) < 1099511627776
  | 0, _, _ => by simp [wv]
  | k + 1, h, hk => by
    have q := wv_b k (fun j j0 j1 => h j j0 (by omega)) (by omega)
    have r := h (p + k) (by omega) (by omega)
    have hk8 : k = 0 ∨ k = 1 ∨ k = 2 ∨ k = 3 ∨ k = 4 ∨ k = 5 ∨ k = 6 ∨ k = 7 := by omega
    rw [wv]
    rcases hk8 with e | e | e | e | e | e | e | e <;> subst e <;> simp only [Nat.reduceSub, Nat.reduceAdd, Int.reducePow, Int.mul_one] at q ⊢ <;> omega
theorem wv_r {b : Int → Int} {p : Int} (k : Nat) (h : ∀ j : Int, p ≤ j → j < p + k → 97 ≤ b j ∧ b j ≤ 122) (hk : (k : Int) ≤ 8) : 0 ≤ wv b p k ∧ wv b p k < 1099511627776 := by
  have q := wv_b k h hk
  have hk8 : k = 0 ∨ k = 1 ∨ k = 2 ∨ k = 3 ∨ k = 4 ∨ k = 5 ∨ k = 6 ∨ k = 7 ∨ k = 8 := by omega
  rcases hk8 with e | e | e | e | e | e | e | e | e <;> subst e <;> simp only [Nat.reduceSub, Int.reducePow, Int.mul_one, Int.pow_zero] at q ⊢ <;> omega
theorem sg64_b (x : Int) : -9223372036854775808 ≤ sg64 x ∧ sg64 x < 9223372036854775808 := by unfold sg64; omega
theorem sg64_s {x : Int} (h : 0 ≤ x ∧ x < 9223372036854775808) : sg64 x = x := by unfold sg64; omega
theorem wW_b (b : Int → Int) (p : Int) (k : Nat) : -9223372036854775808 ≤ wW b p k ∧ wW b p k < 9223372036854775808 := by
  cases k with
  | zero => simp [wW]
  | succ k => exact sg64_b _
theorem wW_v {b : Int → Int} {p : Int} : ∀ k : Nat, (∀ j : Int, p ≤ j → j < p + k → 97 ≤ b j ∧ b j ≤ 122) → (k : Int) ≤ 8 → wW b p k = wv b p k
  | 0, _, _ => rfl
  | k + 1, h, hk => by
    have e := wW_v (b := b) (p := p) k (fun j j0 j1 => h j j0 (by omega)) (by omega)
    have q := wv_r (b := b) (p := p) (k + 1) h hk
    rw [wv] at q
    rw [wW, wv, e, sg64_s (by omega)]
theorem iL_sg64 (x : Int) : iL (sg64 x) = iL x := by
  show Int64.ofInt (sg64 x) = Int64.ofInt x
  apply Int64.toInt_inj.mp
  rw [Int64.toInt_ofInt, Int64.toInt_ofInt]
  unfold sg64
  rw [show (x + 9223372036854775808) % 18446744073709551616 - 9223372036854775808 = x + (2 ^ 64 : Nat) * (-((x + 9223372036854775808) / 18446744073709551616)) by
    simp only [Nat.reducePow]; omega]
  exact Int.add_mul_bmod_self_left _ _ _
/-- a word: letters, 8 at most -/
theorem kd_0 {b : Int → Int} {n c : Int} (hk : kd b n c = 0) : sk b n c < n ∧ (97 ≤ b (sk b n c) ∧ b (sk b n c) ≤ 122) ∧ te b n c = rn b n 97 122 (sk b n c) := by
  unfold kd at hk
  unfold te
  by_cases h1 : n ≤ sk b n c
  · rw [if_pos h1] at hk; omega
  · rw [if_neg h1] at hk ⊢
    by_cases h2 : 97 ≤ b (sk b n c) ∧ b (sk b n c) ≤ 122
    · rw [if_pos h2]; exact ⟨by omega, h2, rfl⟩
    · rw [if_neg h2] at hk; split at hk <;> omega
theorem kd_1 {b : Int → Int} {n c : Int} (hk : kd b n c = 1) : sk b n c < n ∧ (48 ≤ b (sk b n c) ∧ b (sk b n c) ≤ 57) ∧ te b n c = rn b n 48 57 (sk b n c) := by
  unfold kd at hk
  unfold te
  by_cases h1 : n ≤ sk b n c
  · rw [if_pos h1] at hk; omega
  · rw [if_neg h1] at hk ⊢
    by_cases h2 : 97 ≤ b (sk b n c) ∧ b (sk b n c) ≤ 122
    · rw [if_pos h2] at hk; omega
    · rw [if_neg h2] at hk ⊢
      by_cases h3 : 48 ≤ b (sk b n c) ∧ b (sk b n c) ≤ 57
      · rw [if_pos h3]; exact ⟨by omega, h3, rfl⟩
      · rw [if_neg h3] at hk; omega
theorem kd_n0 {b : Int → Int} {n c : Int} (h : c ≤ n) (hk : ¬ kd b n c = 0) : rn b n 97 122 (sk b n c) = sk b n c := by
  have q := sk_b b h
  apply rn_e
  intro z
  apply hk
  unfold kd
  rw [if_neg (by omega), if_pos z.2]
theorem kd_n1 {b : Int → Int} {n c : Int} (h : c ≤ n) (hk : ¬ kd b n c = 1) : rn b n 48 57 (sk b n c) = sk b n c := by
  have q := sk_b b h
  apply rn_e
  intro z
  apply hk
  unfold kd
  rw [if_neg (by omega), if_neg (by omega), if_pos z.2]
theorem woT_r {b : Int → Int} {n c : Int} (h : c ≤ n) (hk : kd b n c = 0) : 0 ≤ wo b n c ∧ wo b n c < 1099511627776 := by
  have t := te_b b h
  have q := kd_0 hk
  exact wv_r _ (fun j j0 j1 => rn_in j0 (by rw [← q.2.2]; omega)) (by omega)
theorem nmT_r {b : Int → Int} {n c : Int} (h : c ≤ n) (hk : kd b n c = 1) : 0 ≤ nm b n c ∧ nm b n c ≤ 9999999 := by
  have t := te_b b h
  have q := kd_1 hk
  exact nv_b _ (fun j j0 j1 => rn_in j0 (by rw [← q.2.2]; omega))
/-- the text: bytes, as the reference keeps them -/
def TX (b : Int → Int) : Prop := ∀ j : Int, 0 ≤ j → j < 900 → 0 ≤ b j ∧ b j ≤ 255
/-- the codes that a token asks -/
def rNum (b : Int → Int) (n c lo hi : Int) : Int := if kd b n c = 1 then (if lo ≤ nm b n c ∧ nm b n c ≤ hi then 0 else -3) else -2
def rWd (b : Int → Int) (n c : Int) : Int := if kd b n c = 0 ∧ te b n c - sk b n c ≤ 8 then 0 else -2
def rFol (b : Int → Int) (n : Int) (φ : Int → Int) (c : Int) : Int := if rWd b n c = 0 then (if fnS φ (wo b n c) 0 = -1 then -3 else 0) else -2
def rNew (b : Int → Int) (n : Int) (φ : Int → Int) (c : Int) : Int := if rWd b n c = 0 then (if fnS φ (wo b n c) 0 = -1 then 0 else -3) else -2
def rEnd (b : Int → Int) (n c : Int) : Int := if kd b n c = 2 ∧ b (sk b n c) = 59 then 0 else -2
/-- the reference's token at c -/
def TK (b : Int → Int) (n : Int) (μ : Int → Int) (c : Int) : Prop := (0 ≤ c ∧ c ≤ n) ∧ n ≤ 900 ∧ μ 7 = n ∧ μ 8 = sk b n c ∧ μ 9 = te b n c ∧ μ 10 = kd b n c ∧ (kd b n c = 0 → μ 15 = wo b n c) ∧ (kd b n c = 1 → μ 11 = nm b n c)
theorem TK.c0 {b μ : Int → Int} {n c : Int} (h : TK b n μ c) : (0 ≤ c ∧ c ≤ n) ∧ n ≤ 900 := ⟨h.1, h.2.1⟩
theorem TK.n7 {b μ : Int → Int} {n c : Int} (h : TK b n μ c) : μ 7 = n := h.2.2.1
theorem TK.at8 {b μ : Int → Int} {n c : Int} (h : TK b n μ c) : μ 8 = sk b n c := h.2.2.2.1
theorem TK.be9 {b μ : Int → Int} {n c : Int} (h : TK b n μ c) : μ 9 = te b n c := h.2.2.2.2.1
theorem TK.ki10 {b μ : Int → Int} {n c : Int} (h : TK b n μ c) : μ 10 = kd b n c := h.2.2.2.2.2.1
theorem TK.wo {b μ : Int → Int} {n c : Int} (h : TK b n μ c) (k : kd b n c = 0) : μ 15 = wo b n c := h.2.2.2.2.2.2.1 k
theorem TK.nu {b μ : Int → Int} {n c : Int} (h : TK b n μ c) (k : kd b n c = 1) : μ 11 = nm b n c := h.2.2.2.2.2.2.2 k
theorem TK.skb {b μ : Int → Int} {n c : Int} (h : TK b n μ c) : c ≤ sk b n c ∧ sk b n c ≤ n := sk_b b h.1.2
theorem TK.teb {b μ : Int → Int} {n c : Int} (h : TK b n μ c) : sk b n c ≤ te b n c ∧ te b n c ≤ n := te_b b h.1.2
theorem rNum_0 {b : Int → Int} {n c lo hi : Int} (h : rNum b n c lo hi = 0) : kd b n c = 1 ∧ lo ≤ nm b n c ∧ nm b n c ≤ hi := by
  unfold rNum at h
  split at h
  · split at h
    · exact ⟨by assumption, by assumption⟩
    · omega
  · omega
theorem rNum_b (b : Int → Int) (n c lo hi : Int) : rNum b n c lo hi = 0 ∨ rNum b n c lo hi = -2 ∨ rNum b n c lo hi = -3 := by unfold rNum; (repeat' split) <;> omega
theorem rWd_0 {b : Int → Int} {n c : Int} (h : rWd b n c = 0) : kd b n c = 0 ∧ te b n c - sk b n c ≤ 8 := by
  unfold rWd at h; split at h
  · assumption
  · omega
theorem rFol_0 {b φ : Int → Int} {n c : Int} (h : rFol b n φ c = 0) : kd b n c = 0 ∧ te b n c - sk b n c ≤ 8 ∧ ¬ fnS φ (wo b n c) 0 = -1 := by
  unfold rFol at h
  split at h
  · rename_i q
    split at h
    · omega
    · exact ⟨(rWd_0 q).1, (rWd_0 q).2, by assumption⟩
  · omega
theorem rNew_0 {b φ : Int → Int} {n c : Int} (h : rNew b n φ c = 0) : kd b n c = 0 ∧ te b n c - sk b n c ≤ 8 ∧ fnS φ (wo b n c) 0 = -1 := by
  unfold rNew at h
  split at h
  · rename_i q
    split at h
    · exact ⟨(rWd_0 q).1, (rWd_0 q).2, by assumption⟩
    · omega
  · omega
theorem rFol_b (b φ : Int → Int) (n c : Int) : rFol b n φ c = 0 ∨ rFol b n φ c = -2 ∨ rFol b n φ c = -3 := by unfold rFol; (repeat' split) <;> omega
theorem rNew_b (b φ : Int → Int) (n c : Int) : rNew b n φ c = 0 ∨ rNew b n φ c = -2 ∨ rNew b n φ c = -3 := by unfold rNew; (repeat' split) <;> omega
/-- what the reading leaves as it is -/
def KQ (ν μ : Int → Int) : Prop := ν 3 = μ 3 ∧ ν 4 = μ 4 ∧ ν 6 = μ 6 ∧ ν 7 = μ 7 ∧ ν 14 = μ 14 ∧ ν 17 = μ 17
theorem KQ.rf (μ : Int → Int) : KQ μ μ := ⟨rfl, rfl, rfl, rfl, rfl, rfl⟩
theorem KQ.t {ξ ν μ : Int → Int} (h : KQ ξ ν) (g : KQ ν μ) : KQ ξ μ := ⟨h.1.trans g.1, h.2.1.trans g.2.1, h.2.2.1.trans g.2.2.1, h.2.2.2.1.trans g.2.2.2.1, h.2.2.2.2.1.trans g.2.2.2.2.1, h.2.2.2.2.2.trans g.2.2.2.2.2⟩
def see (b : Int → Int) (n k : Int) : Int := if k < n then b k else -1
theorem see_v (b : Int → Int) (n k : Int) : (k < n ∧ see b n k = b k) ∨ (n ≤ k ∧ see b n k = -1) := by unfold see; split <;> omega
end PAR
