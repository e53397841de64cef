/-! tokens, put together -/
section TKS
variable {b : Int → Int} {n c : Int}
theorem tk3 {v y : Int} (h : n ≤ sk b n c) : sk b n c = te b n c ∧ 3 = kd b n c ∧ (kd b n c = 0 → y = wo b n c) ∧ (kd b n c = 1 → v = nm b n c) := by
  have k : kd b n c = 3 := kd_3.mpr h
  refine ⟨?_, k.symm, fun z => by omega, fun z => by omega⟩
  unfold te; rw [if_pos h]
theorem tk0 {p i y v : Int} (hp : p = sk b n c) (hn : p < n) (hl : 97 ≤ b p ∧ b p ≤ 122) (hi : rn b n 97 122 i = rn b n 97 122 p) (hx : ¬ (i < n ∧ 97 ≤ b i ∧ b i ≤ 122)) (hy : y = wv b p (min (i - p) 8).toNat) : i = te b n c ∧ 0 = kd b n c ∧ (kd b n c = 0 → y = wo b n c) ∧ (kd b n c = 1 → v = nm b n c) := by
  rw [rn_e hx] at hi
  subst hp
  have k : kd b n c = 0 := by unfold kd; rw [if_neg (by omega), if_pos hl]
  have t : te b n c = i := by unfold te; rw [if_neg (by omega), if_pos hl]; exact hi.symm
  refine ⟨t.symm, k.symm, fun _ => ?_, fun z => by omega⟩
  unfold wo; rw [t]; exact hy
theorem tk1 {p i y v : Int} (hp : p = sk b n c) (hn : p < n) (hl : 48 ≤ b p ∧ b p ≤ 57) (hi : rn b n 48 57 i = rn b n 48 57 p) (hx : ¬ (i < n ∧ 48 ≤ b i ∧ b i ≤ 57)) (hy : v = nv b p (i - p).toNat) : i = te b n c ∧ 1 = kd b n c ∧ (kd b n c = 0 → y = wo b n c) ∧ (kd b n c = 1 → v = nm b n c) := by
  rw [rn_e hx] at hi
  subst hp
  have k : kd b n c = 1 := by unfold kd; rw [if_neg (by omega), if_neg (by omega), if_pos hl]
  have t : te b n c = i := by unfold te; rw [if_neg (by omega), if_neg (by omega), if_pos hl]; exact hi.symm
  refine ⟨t.symm, k.symm, fun z => by omega, fun _ => ?_⟩
  unfold nm; rw [t]; exact hy
theorem tk2 {p y v : Int} (hp : p = sk b n c) (hn : p < n) (h0 : ¬ (97 ≤ b p ∧ b p ≤ 122)) (h1 : ¬ (48 ≤ b p ∧ b p ≤ 57)) : p + 1 = te b n c ∧ 2 = kd b n c ∧ (kd b n c = 0 → y = wo b n c) ∧ (kd b n c = 1 → v = nm b n c) := by
  subst hp
  have k : kd b n c = 2 := by unfold kd; rw [if_neg (by omega), if_neg h0, if_neg h1]
  refine ⟨?_, k.symm, fun z => by omega, fun z => by omega⟩
  unfold te; rw [if_neg (by omega), if_neg h0, if_neg h1]
theorem wv_s {p i : Int} (h0 : p ≤ i) (h8 : i - p < 8) : wv b p (min (i + 1 - p) 8).toNat = wv b p (min (i - p) 8).toNat * 32 + (b i - 97 + 1) := by
  rw [show (min (i + 1 - p) 8).toNat = (min (i - p) 8).toNat + 1 by omega, wv, show p + (((min (i - p) 8).toNat : Nat) : Int) = i by omega]
  omega
theorem wv_n {p i : Int} (h8 : ¬ i - p < 8) : wv b p (min (i + 1 - p) 8).toNat = wv b p (min (i - p) 8).toNat := by
  rw [show (min (i + 1 - p) 8).toNat = (min (i - p) 8).toNat by omega]
theorem nv_s {p i v : Int} (h0 : p ≤ i) (hv : v = nv b p (i - p).toNat) (hm : v < 1000000) : 10 * v + b i - 48 = nv b p (i + 1 - p).toNat := by
  rw [show (i + 1 - p).toNat = (i - p).toNat + 1 by omega, nv, ← hv, if_pos hm, show p + (((i - p).toNat : Nat) : Int) = i by omega]
  omega
theorem nv_n {p i v : Int} (h0 : p ≤ i) (hv : v = nv b p (i - p).toNat) (hm : ¬ v < 1000000) : v = nv b p (i + 1 - p).toNat := by
  rw [show (i + 1 - p).toNat = (i - p).toNat + 1 by omega, nv, ← hv, if_neg hm]
theorem see_b {k : Int} (hb : TX b) (h0 : 0 ≤ k) (hn : n ≤ 900) : -1 ≤ see b n k ∧ see b n k ≤ 255 := by
  rcases see_v b n k with q | q
  · have := hb k h0 (by omega)
    omega
  · omega
theorem TKmk {ν : Int → Int} {p i k y v : Int} (e7 : ν 7 = n) (e8 : ν 8 = p) (e9 : ν 9 = i) (e10 : ν 10 = k) (e15 : ν 15 = y) (e11 : ν 11 = v) (h0 : 0 ≤ c ∧ c ≤ n) (hn : n ≤ 900) (hp : p = sk b n c) (hr : i = te b n c ∧ k = kd b n c ∧ (kd b n c = 0 → y = wo b n c) ∧ (kd b n c = 1 → v = nm b n c)) : TK b n ν c := by
  refine ⟨h0, hn, e7, e8.trans hp, e9.trans hr.1, e10.trans hr.2.1, fun z => e15.trans (hr.2.2.1 z), fun z => e11.trans (hr.2.2.2 z)⟩
theorem tk3' {p v y : Int} (hp : p = sk b n c) (h : n ≤ p) : p = te b n c ∧ 3 = kd b n c ∧ (kd b n c = 0 → y = wo b n c) ∧ (kd b n c = 1 → v = nm b n c) := by
  subst hp; exact tk3 h
end TKS
