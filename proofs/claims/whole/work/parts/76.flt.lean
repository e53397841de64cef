/-! the share, as a float: never a NaN -/
def shB (a b : Int) : UInt32 := FP.fdiv (FP.i2f (iI a)) (FP.i2f (iI b))
theorem l2f_i {a : Int} (h : R32 a) : FP.l2f (iL a) = FP.i2f (iI a) := by
  show FP.Core.l2f (iL a) = FP.Core.i2f (iI a)
  unfold FP.Core.l2f FP.Core.i2f
  rw [iI_t h, iL_t ⟨by omega, by omega⟩]
def ND (m : Nat) (x : Int) : FP.Core.Datum → Prop
  | .nan => False
  | .inf _ => True
  | .fin _ c q => c < m ∧ q ≤ x
theorem set32 (s : Bool) (c : Nat) (q : Int) : ND 16777216 104 (FP.Core.settle FP.Core.b32 s c q) := by
  unfold FP.Core.settle FP.Core.bound
  rw [show (2 : Nat) ^ FP.Core.b32.p = 16777216 by decide, show FP.Core.b32.qmax = 104 by decide, show FP.Core.b32.tails = 8388608 by decide]
  split
  · split
    · exact ⟨by assumption, by assumption⟩
    · trivial
  · split
    · exact ⟨by decide, by assumption⟩
    · trivial
theorem set64 (s : Bool) (c : Nat) (q : Int) : ND 9007199254740992 971 (FP.Core.settle FP.Core.b64 s c q) := by
  unfold FP.Core.settle FP.Core.bound
  rw [show (2 : Nat) ^ FP.Core.b64.p = 9007199254740992 by decide, show FP.Core.b64.qmax = 971 by decide, show FP.Core.b64.tails = 4503599627370496 by decide]
  split
  · split
    · exact ⟨by assumption, by assumption⟩
    · trivial
  · split
    · exact ⟨by decide, by assumption⟩
    · trivial
theorem rr32 (s : Bool) (a b : Nat) (e : Int) : ND 16777216 104 (FP.Core.roundRatio FP.Core.b32 s a b e) := by
  unfold FP.Core.roundRatio
  split
  · exact ⟨by decide, by decide⟩
  · exact set32 _ _ _
theorem rr64 (s : Bool) (a b : Nat) (e : Int) : ND 9007199254740992 971 (FP.Core.roundRatio FP.Core.b64 s a b e) := by
  unfold FP.Core.roundRatio
  split
  · exact ⟨by decide, by decide⟩
  · exact set64 _ _ _
theorem as32 (s : Bool) (e t : Nat) : FP.Core.assemble FP.Core.b32 s e t = (s.toNat * 256 + e) * 8388608 + t := by
  unfold FP.Core.assemble
  rw [show FP.Core.b32.exps = 256 by decide, show FP.Core.b32.tails = 8388608 by decide]
theorem as64 (s : Bool) (e t : Nat) : FP.Core.assemble FP.Core.b64 s e t = (s.toNat * 2048 + e) * 4503599627370496 + t := by
  unfold FP.Core.assemble
  rw [show FP.Core.b64.exps = 2048 by decide, show FP.Core.b64.tails = 4503599627370496 by decide]
theorem enc32 {d : FP.Core.Datum} (h : ND 16777216 104 d) : FP.Core.encode FP.Core.b32 d % 2147483648 ≤ 2139095040 ∧ FP.Core.encode FP.Core.b32 d < 4294967296 := by
  have hs : ∀ s : Bool, s.toNat = 0 ∨ s.toNat = 1 := by decide
  cases d with
  | nan => exact h.elim
  | inf s =>
    have := hs s
    rw [FP.Core.encode, as32, show FP.Core.b32.exps = 256 by decide]
    omega
  | fin s c q =>
    have := hs s
    have h1 : c < 16777216 := h.1
    have h2 : q ≤ 104 := h.2
    rw [FP.Core.encode, as32, as32, show FP.Core.b32.tails = 8388608 by decide, show FP.Core.b32.qmin = -149 by decide]
    split <;> omega
theorem enc64 {d : FP.Core.Datum} (h : ND 9007199254740992 971 d) : FP.Core.encode FP.Core.b64 d % 9223372036854775808 ≤ 9218868437227405312 ∧ FP.Core.encode FP.Core.b64 d < 18446744073709551616 := by
  have hs : ∀ s : Bool, s.toNat = 0 ∨ s.toNat = 1 := by decide
  cases d with
  | nan => exact h.elim
  | inf s =>
    have := hs s
    rw [FP.Core.encode, as64, show FP.Core.b64.exps = 2048 by decide]
    omega
  | fin s c q =>
    have := hs s
    have h1 : c < 9007199254740992 := h.1
    have h2 : q ≤ 971 := h.2
    rw [FP.Core.encode, as64, as64, show FP.Core.b64.tails = 4503599627370496 by decide, show FP.Core.b64.qmin = -1074 by decide]
    split <;> omega
/-- a number's bits above 0 -/
theorem enc32p {s : Bool} {c : Nat} {q : Int} (hc : c < 16777216) (h0 : 0 < c) (hq : q ≤ 104) : 0 < FP.Core.encode FP.Core.b32 (.fin s c q) % 2147483648 ∧ FP.Core.encode FP.Core.b32 (.fin s c q) % 2147483648 < 2139095040 := by
  have hs : ∀ s : Bool, s.toNat = 0 ∨ s.toNat = 1 := by decide
  have := hs s
  rw [FP.Core.encode, as32, as32, show FP.Core.b32.tails = 8388608 by decide, show FP.Core.b32.qmin = -149 by decide]
  split <;> omega
theorem enc32z {s : Bool} {q : Int} : FP.Core.encode FP.Core.b32 (.fin s 0 q) % 2147483648 = 0 := by
  have hs : ∀ s : Bool, s.toNat = 0 ∨ s.toNat = 1 := by decide
  have := hs s
  rw [FP.Core.encode, as32, as32, show FP.Core.b32.tails = 8388608 by decide]
  rw [if_pos (by decide)]; omega
theorem dec32 {n : Nat} (h : n % 2147483648 < 2139095040) : ∃ (s : Bool) (c : Nat) (q : Int), FP.Core.decode FP.Core.b32 n = .fin s c q ∧ (0 < n % 2147483648 → 0 < c) := by
  unfold FP.Core.decode FP.Core.fieldE FP.Core.fieldT
  rw [show FP.Core.b32.exps = 256 by decide, show FP.Core.b32.tails = 8388608 by decide, if_neg (by omega)]
  split
  · exact ⟨_, _, _, rfl, fun _ => by omega⟩
  · exact ⟨_, _, _, rfl, fun _ => by omega⟩
theorem dec32n {n : Nat} (h : n % 2147483648 ≤ 2139095040) : ¬ FP.Core.decode FP.Core.b32 n = .nan := by
  unfold FP.Core.decode FP.Core.fieldE FP.Core.fieldT
  rw [show FP.Core.b32.exps = 256 by decide, show FP.Core.b32.tails = 8388608 by decide]
  split
  · rw [if_pos (by omega)]; exact fun z => nomatch z
  · split
    · exact fun z => nomatch z
    · exact fun z => nomatch z
theorem dec64n {n : Nat} (h : n % 9223372036854775808 ≤ 9218868437227405312) : ¬ FP.Core.decode FP.Core.b64 n = .nan := by
  unfold FP.Core.decode FP.Core.fieldE FP.Core.fieldT
  rw [show FP.Core.b64.exps = 2048 by decide, show FP.Core.b64.tails = 4503599627370496 by decide]
  split
  · rw [if_pos (by omega)]; exact fun z => nomatch z
  · split
    · exact fun z => nomatch z
    · exact fun z => nomatch z
theorem nn32 {a : UInt32} (h : a.toNat % 2147483648 ≤ 2139095040) : vf_n32 a := by
  show a &&& 0x7fffffff ≤ 0x7f800000
  rw [UInt32.le_iff_toNat_le, UInt32.toNat_and]
  show a.toNat &&& (2 ^ 31 - 1) ≤ 2139095040
  rw [Nat.and_two_pow_sub_one_eq_mod]
  exact h
theorem nn64 {a : UInt64} (h : a.toNat % 9223372036854775808 ≤ 9218868437227405312) : vf_n64 a := by
  show a &&& 0x7fffffffffffffff ≤ 0x7ff0000000000000
  rw [UInt64.le_iff_toNat_le, UInt64.toNat_and]
  show a.toNat &&& (2 ^ 63 - 1) ≤ 9218868437227405312
  rw [Nat.and_two_pow_sub_one_eq_mod]
  exact h
/-- the nearest number of a whole one isn't 0 -/
theorem near_p {A : Nat} (hA : 0 < A) {q : Int} (hq : q ≤ (A.log2 : Int)) : 1 ≤ FP.Core.nearest (FP.Core.unitsNum A 0 q) (FP.Core.unitsDen 1 0 q) := by
  have hd : FP.Core.unitsDen 1 0 q ≤ FP.Core.unitsNum A 0 q := by
    unfold FP.Core.unitsNum FP.Core.unitsDen
    by_cases z : q ≤ 0
    · rw [show (q - 0).toNat = 0 by omega]
      have := Nat.two_pow_pos (0 - q).toNat
      exact Nat.mul_pos hA this
    · rw [show (0 - q).toNat = 0 by omega, Nat.pow_zero, Nat.mul_one, Nat.one_mul]
      have h1 : 2 ^ A.log2 ≤ A := Nat.log2_self_le (by omega)
      have h2 : 2 ^ (q - 0).toNat ≤ 2 ^ A.log2 := Nat.pow_le_pow_right (by decide) (by omega)
      omega
  have hp : 0 < FP.Core.unitsDen 1 0 q := by
    unfold FP.Core.unitsDen
    have := Nat.two_pow_pos (q - 0).toNat
    omega
  have h1 : 1 ≤ FP.Core.unitsNum A 0 q / FP.Core.unitsDen 1 0 q := (Nat.le_div_iff_mul_le hp).mpr (by omega)
  unfold FP.Core.nearest
  split
  · exact h1
  · split <;> omega
theorem quan_b {A : Nat} (hA : 0 < A) (hb : A < 2147483648) : FP.Core.quantum FP.Core.b32 A 1 0 ≤ (A.log2 : Int) ∧ FP.Core.quantum FP.Core.b32 A 1 0 ≤ 8 := by
  have hl : A.log2 < 31 := (Nat.log2_lt (by omega)).mpr hb
  unfold FP.Core.quantum FP.Core.leading
  rw [show FP.Core.b32.qmin = -149 by decide, show ((FP.Core.b32.p : Nat) : Int) = 24 by decide, show (1 : Nat).log2 = 0 by decide]
  dsimp only
  split <;> omega
theorem i2f_v {a : Int} (h : 0 ≤ a ∧ a < 2147483648) : (FP.i2f (iI a)).toNat % 2147483648 < 2139095040 ∧ (0 < a → 0 < (FP.i2f (iI a)).toNat % 2147483648) := by
  have e : FP.i2f (iI a) = UInt32.ofNat (FP.Core.encode FP.Core.b32 (FP.Core.roundRatio FP.Core.b32 (decide (a < 0)) a.natAbs 1 0)) := by
    show FP.Core.i2f (iI a) = _
    unfold FP.Core.i2f FP.Core.fromInt
    rw [iI_t ⟨by omega, h.2⟩]
    rfl
  have key : FP.Core.encode FP.Core.b32 (FP.Core.roundRatio FP.Core.b32 (decide (a < 0)) a.natAbs 1 0) % 2147483648 < 2139095040 ∧ (0 < a → 0 < FP.Core.encode FP.Core.b32 (FP.Core.roundRatio FP.Core.b32 (decide (a < 0)) a.natAbs 1 0) % 2147483648) := by
    unfold FP.Core.roundRatio
    by_cases z : a.natAbs = 0
    · rw [if_pos z, enc32z]; omega
    · rw [if_neg z]
      unfold FP.Core.roundAt
      have qb := quan_b (A := a.natAbs) (by omega) (by omega)
      have np := near_p (A := a.natAbs) (by omega) qb.1
      generalize FP.Core.nearest (FP.Core.unitsNum a.natAbs 0 (FP.Core.quantum FP.Core.b32 a.natAbs 1 0)) (FP.Core.unitsDen 1 0 (FP.Core.quantum FP.Core.b32 a.natAbs 1 0)) = m at np ⊢
      generalize FP.Core.quantum FP.Core.b32 a.natAbs 1 0 = q at qb ⊢
      unfold FP.Core.settle FP.Core.bound
      rw [show (2 : Nat) ^ FP.Core.b32.p = 16777216 by decide, show FP.Core.b32.qmax = 104 by decide, show FP.Core.b32.tails = 8388608 by decide]
      split
      · rw [if_pos (by omega)]
        have r := enc32p (s := decide (a < 0)) (c := m) (q := q) (by assumption) (by omega) (by omega)
        exact ⟨r.2, fun _ => r.1⟩
      · rw [if_pos (by omega)]
        have r := enc32p (s := decide (a < 0)) (c := 8388608) (q := q + 1) (by decide) (by decide) (by omega)
        exact ⟨r.2, fun _ => r.1⟩
  rw [e, UInt32.toNat_ofNat', show (2 : Nat) ^ 32 = 4294967296 by decide]
  omega
theorem shB_v {a b : Int} (ha : 0 ≤ a ∧ a < 2147483648) (hb : 0 < b ∧ b < 2147483648) : (shB a b).toNat % 2147483648 ≤ 2139095040 := by
  have va := i2f_v ha
  have vb := i2f_v (a := b) ⟨by omega, hb.2⟩
  obtain ⟨s, c, q, e1, -⟩ := dec32 va.1
  obtain ⟨t, d, r, e2, hd⟩ := dec32 vb.1
  have hd := hd (vb.2 hb.1)
  have e : shB a b = UInt32.ofNat (FP.Core.encode FP.Core.b32 (FP.Core.roundRatio FP.Core.b32 (s != t) c d (q - r))) := by
    show FP.Core.fdiv (FP.i2f (iI a)) (FP.i2f (iI b)) = _
    unfold FP.Core.fdiv FP.Core.div
    rw [e1, e2, FP.Core.quotient, if_neg (by omega)]
  have k := enc32 (rr32 (s != t) c d (q - r))
  rw [e, UInt32.toNat_ofNat', show (2 : Nat) ^ 32 = 4294967296 by decide]
  omega
theorem shB_n {a b : Int} (ha : 0 ≤ a ∧ a < 2147483648) (hb : 0 < b ∧ b < 2147483648) : vf_n32 (shB a b) := nn32 (shB_v ha hb)
theorem f2d_v {a : UInt32} (h : a.toNat % 2147483648 ≤ 2139095040) : (FP.f2d a).toNat % 9223372036854775808 ≤ 9218868437227405312 := by
  have hn := dec32n h
  have e : FP.f2d a = UInt64.ofNat (FP.Core.encode FP.Core.b64 (FP.Core.round FP.Core.b64 (FP.Core.decode FP.Core.b32 a.toNat))) := by
    unfold FP.f2d FP.Core.fIsNaN FP.Core.isNaN
    rw [if_neg (by rw [decide_eq_true_eq]; exact hn)]
    rfl
  have k : ND 9007199254740992 971 (FP.Core.round FP.Core.b64 (FP.Core.decode FP.Core.b32 a.toNat)) := by
    cases hq : FP.Core.decode FP.Core.b32 a.toNat with
    | nan => exact absurd hq hn
    | inf s => trivial
    | fin s c q => exact rr64 s c 1 q
  have k2 := enc64 k
  rw [e, UInt64.toNat_ofNat', show (2 : Nat) ^ 64 = 18446744073709551616 by decide]
  omega
theorem dcmp_rf {d : UInt64} (h : d.toNat % 9223372036854775808 ≤ 9218868437227405312) : FP.dcmp d d = some .eq := by
  have hn := dec64n h
  show FP.Core.order (FP.Core.decode FP.Core.b64 d.toNat) (FP.Core.decode FP.Core.b64 d.toNat) = some .eq
  cases hq : FP.Core.decode FP.Core.b64 d.toNat with
  | nan => exact absurd hq hn
  | inf s => show some (compare _ _) = _; rw [Int.compare_eq_eq.mpr rfl]
  | fin s c q => show some (compare _ _) = _; rw [Int.compare_eq_eq.mpr rfl]
/-- what the law makes of it -/
def shD (a b : Int) : UInt64 := FP.f2d (shB a b)
theorem shD_n {a b : Int} (ha : 0 ≤ a ∧ a < 2147483648) (hb : 0 < b ∧ b < 2147483648) : vf_n64 (shD a b) := nn64 (f2d_v (shB_v ha hb))
theorem shD_c {a b : Int} (ha : 0 ≤ a ∧ a < 2147483648) (hb : 0 < b ∧ b < 2147483648) : FP.dcmp (shD a b) (shD a b) = some .eq := dcmp_rf (f2d_v (shB_v ha hb))
