/-! numbers, names and paths, as the class writes them -/
section LST
theorem nuL_st : ∀ (d : Nat) (w : Int), 0 ≤ w → w < 10 ^ (d + 1) → nuL (d + 1) w = nuL d w
  | 0, w, h0, h => by
    rw [show (10 : Int) ^ (0 + 1) = 10 by decide] at h
    show (if 9 < w then nuL 0 (w / 10) ++ [48 + w % 10] else [48 + w % 10]) = [48 + w % 10]
    rw [if_neg (by omega)]
  | d + 1, w, h0, h => by
    rw [nuL]
    by_cases q : 9 < w
    · have e : (10 : Int) ^ (d + 1 + 1) = 10 ^ (d + 1) * 10 := Int.pow_succ 10 (d + 1)
      rw [if_pos q, nuL_st d (w / 10) (by omega) (by rw [e] at h; omega)]
      rw [nuL, if_pos q]
    · rw [if_neg q, nuL, if_neg q]
def nuZ (y : Int) : List Int := if y = 0 then [] else nuL 9 y
def pnL (u v : Int) : List Int := if u = 0 then nuL 9 v else nuZ (v / (10 * u))
theorem nuZ_s {z : Int} (h0 : 0 < z) (h : z < 10000000000) : nuZ z = nuZ (z / 10) ++ [48 + z % 10] := by
  unfold nuZ
  rw [if_neg (by omega)]
  by_cases q : 9 < z
  · rw [if_neg (by omega), nuL_st 8 (z / 10) (by omega) (by rw [show (10 : Int) ^ (8 + 1) = 1000000000 by decide]; omega), nuL, if_pos q]
  · rw [if_pos (by omega), nuL, if_neg q]; rfl
theorem nuL_s {v : Int} (h0 : 0 ≤ v) (h : v < 10000000000) : nuL 9 v = nuZ (v / 10) ++ [48 + v % 10] := by
  by_cases q : v = 0
  · subst q; decide
  · have e := nuZ_s (z := v) (by omega) h
    rw [← e]; unfold nuZ; rw [if_neg q]
def P10 (u : Int) : Prop := u = 1000000000 ∨ u = 100000000 ∨ u = 10000000 ∨ u = 1000000 ∨ u = 100000 ∨ u = 10000 ∨ u = 1000 ∨ u = 100 ∨ u = 10 ∨ u = 1
theorem P10_d {u : Int} (h : P10 u) : u / 10 = 0 ∨ P10 (u / 10) := by
  unfold P10 at h ⊢; omega
theorem P10_b {u : Int} (h : P10 u) : 0 < u ∧ u ≤ 1000000000 := by unfold P10 at h; omega
theorem P10_q {u v : Int} (h : P10 u) (h0 : 0 ≤ v) : v / u / 10 = v / (10 * u) := by
  have q := P10_b h
  rw [Int.ediv_ediv_of_nonneg (by omega), Int.mul_comm]
theorem pn_y {u v : Int} (hu : P10 u) (h0 : 0 ≤ v) (h : v < 2147483648) (hd : 0 < v / (10 * u) ∨ 0 < v / u % 10 ∨ u = 1) : pnL (u / 10) v = pnL u v ++ [48 + v / u % 10] := by
  have q := P10_b hu
  have e := P10_q hu h0
  have hz : 0 ≤ v / u := Int.ediv_nonneg h0 (by omega)
  have hz2 : v / u ≤ v := Int.ediv_le_self u h0
  unfold pnL
  rw [if_neg (show ¬ u = 0 by omega)]
  by_cases w : u = 1
  · subst w
    rw [show (1 : Int) / 10 = 0 by decide, if_pos rfl, show v / 1 = v from Int.ediv_one v, nuL_s h0 (by omega), show (10 : Int) * 1 = 10 by decide]
  · have hp : P10 (u / 10) := by
      rcases P10_d hu with z | z
      · unfold P10 at hu; omega
      · exact z
    have hb := P10_b hp
    have e10 : 10 * (u / 10) = u := by unfold P10 at hu; omega
    rw [if_neg (show ¬ u / 10 = 0 by omega), e10, ← e]
    exact nuZ_s (by omega) (by omega)
theorem pn_n {u v : Int} (hu : P10 u) (h0 : 0 ≤ v) (hd : v / (10 * u) ≤ 0) (hd2 : v / u % 10 ≤ 0) (h1 : ¬ u = 1) : pnL (u / 10) v = pnL u v := by
  have q := P10_b hu
  have e := P10_q hu h0
  have hz : 0 ≤ v / u := Int.ediv_nonneg h0 (by omega)
  have hp : P10 (u / 10) := by
    rcases P10_d hu with z | z
    · unfold P10 at hu; omega
    · exact z
  have hb := P10_b hp
  have e10 : 10 * (u / 10) = u := by unfold P10 at hu; omega
  unfold pnL
  rw [if_neg (show ¬ u = 0 by omega), if_neg (show ¬ u / 10 = 0 by omega), e10, ← e, show v / u = 0 by omega]
  rfl
/-- whether digits have begun -/
theorem pn_b {u v : Int} (hu : P10 u) (h0 : 0 ≤ v) (h1 : ¬ u = 1) : 0 < v / (10 * (u / 10)) ↔ (0 < v / (10 * u) ∨ 0 < v / u % 10) := by
  have q := P10_b hu
  have e := P10_q hu h0
  have e10 : 10 * (u / 10) = u := by unfold P10 at hu; omega
  have hz : 0 ≤ v / u := Int.ediv_nonneg h0 (by omega)
  rw [e10, ← e]; omega
theorem nuZ_b (y : Int) : (nuZ y).length ≤ 10 := by
  unfold nuZ; split
  · exact Nat.zero_le _
  · exact (nuL_b 9 y).2
theorem pnL_l {u v : Int} (hu : u = 0 ∨ P10 u) (h0 : 0 ≤ v) (h : v < 2147483648) : ((pnL u v).length : Int) ≤ 10 ∧ (0 < u → ((pnL u v).length : Int) ≤ 9) := by
  unfold pnL
  by_cases q : u = 0
  · rw [if_pos q]; have := nuL_b 9 v; omega
  · rw [if_neg q]
    have hu := hu.resolve_left q
    have hb := P10_b hu
    have e := P10_q hu h0
    have hz : 0 ≤ v / u := Int.ediv_nonneg h0 (by omega)
    have hz2 : v / u ≤ v := Int.ediv_le_self u h0
    rw [← e]
    unfold nuZ
    split
    · constructor <;> intros <;> simp
    · have s := nuL_st 8 (v / u / 10) (by omega) (by rw [show (10 : Int) ^ (8 + 1) = 1000000000 by decide]; omega)
      rw [s]
      have := nuL_b 8 (v / u / 10)
      omega
theorem nuL_1 {v : Int} (h0 : 0 ≤ v) (h : v ≤ 9) : nuL 9 v = nuL 0 v := by
  show (if 9 < v then nuL 8 (v / 10) ++ [48 + v % 10] else [48 + v % 10]) = [48 + v % 10]
  rw [if_neg (by omega)]
/-- names -/
theorem naL_st : ∀ (d : Nat) (w : Int), 0 ≤ w → w < 32 ^ (d + 1) → naL (d + 1) w = naL d w
  | 0, w, h0, h => by
    rw [show (32 : Int) ^ (0 + 1) = 32 by decide] at h
    show (if 31 < w then naL 0 (w / 32) ++ [96 + w % 32] else [96 + w % 32]) = [96 + w % 32]
    rw [if_neg (by omega)]
  | d + 1, w, h0, h => by
    rw [naL]
    by_cases q : 31 < w
    · have e : (32 : Int) ^ (d + 1 + 1) = 32 ^ (d + 1) * 32 := Int.pow_succ 32 (d + 1)
      rw [if_pos q, naL_st d (w / 32) (by omega) (by rw [e] at h; omega)]
      rw [naL, if_pos q]
    · rw [if_neg q, naL, if_neg q]
def naZ (y : Int) : List Int := if y = 0 then [] else naL 7 y
theorem naZ_s {z : Int} (h0 : 0 < z % 32) (hz : 0 ≤ z) (h : z < 1099511627776) : naZ z = naZ (z / 32) ++ [96 + z % 32] := by
  unfold naZ
  rw [if_neg (by omega)]
  by_cases q : 31 < z
  · rw [if_neg (by omega), naL_st 6 (z / 32) (by omega) (by rw [show (32 : Int) ^ (6 + 1) = 34359738368 by decide]; omega), naL, if_pos q]
  · rw [if_pos (by omega), naL, if_neg q]; rfl
theorem naZ_b (y : Int) : (naZ y).length ≤ 8 := by
  unfold naZ; split
  · exact Nat.zero_le _
  · exact (naL_b 7 y).2
theorem nmo_q : ∀ (n j : Nat) (x : Int), nmo n x → 0 ≤ x → x / 32 ^ j = 0 ∨ (1 ≤ x / 32 ^ j % 32 ∧ x / 32 ^ j % 32 ≤ 26)
  | 0, j, x, h, _ => by
    have h : x = 0 := h
    subst h; left; simp
  | n + 1, 0, x, h, _ => by
    rcases h with h | ⟨h1, h2, h3, h4⟩
    · left; subst h; simp
    · right; rw [Int.pow_zero, Int.ediv_one]; exact ⟨h2, h3⟩
  | n + 1, j + 1, x, h, h0 => by
    rcases h with h | ⟨h1, h2, h3, h4⟩
    · left; subst h; simp
    · have q := nmo_q n j (x / 32) h4 (by omega)
      rw [Int.ediv_ediv_of_nonneg (by decide), show (32 : Int) * 32 ^ j = 32 ^ (j + 1) by rw [Int.pow_succ, Int.mul_comm]] at q
      exact q
/-- the letters of the first d places of eight -/
def naS (x : Int) (d : Nat) : List Int := naZ (x / 32 ^ (8 - d))
theorem naS_0 {x : Int} (h : nmk x) : naS x 0 = [] := by
  have b := nmk_b h
  unfold naS naZ
  rw [if_pos]
  show x / 32 ^ 8 = 0
  rw [show (32 : Int) ^ 8 = 1099511627776 by decide]
  omega
theorem naS_8 {x : Int} (h : nmk x) : naS x 8 = naL 7 x := by
  unfold naS naZ
  rw [show (32 : Int) ^ (8 - 8) = 1 by decide, Int.ediv_one, if_neg (by have := nmk_b h; omega)]
theorem sh32 {d : Int} (h : 0 ≤ d ∧ d ≤ 7) : ((2 ^ (35 - 5 * d).toNat : Nat) : Int) = 32 ^ (7 - d.toNat) := by
  have : d = 0 ∨ d = 1 ∨ d = 2 ∨ d = 3 ∨ d = 4 ∨ d = 5 ∨ d = 6 ∨ d = 7 := by omega
  rcases this with q | q | q | q | q | q | q | q <;> subst q <;> decide
theorem sh5 {d : Int} (h : 0 ≤ d ∧ d ≤ 7) : (((iI (35 - 5 * d)).toInt64 &&& 63).toBitVec.smod 64).toNat = (35 - 5 * d).toNat := by
  have : d = 0 ∨ d = 1 ∨ d = 2 ∨ d = 3 ∨ d = 4 ∨ d = 5 ∨ d = 6 ∨ d = 7 := by omega
  rcases this with q | q | q | q | q | q | q | q <;> subst q <;> decide
theorem naS_s {x : Int} (h : nmk x) {d : Int} (hd : 0 ≤ d ∧ d ≤ 7) : (0 < x / ((2 ^ (35 - 5 * d).toNat : Nat) : Int) % 32 → x / ((2 ^ (35 - 5 * d).toNat : Nat) : Int) % 32 ≤ 26 ∧ naS x (d + 1).toNat = naS x d.toNat ++ [96 + x / ((2 ^ (35 - 5 * d).toNat : Nat) : Int) % 32]) ∧ (x / ((2 ^ (35 - 5 * d).toNat : Nat) : Int) % 32 ≤ 0 → naS x (d + 1).toNat = naS x d.toNat) := by
  have b := nmk_b h
  have q := nmo_q 8 (7 - d.toNat) x h.2 (by omega)
  rw [sh32 hd]
  have hpos : (0 : Int) < 32 ^ (7 - d.toNat) := Int.pow_pos (by decide)
  have hz : 0 ≤ x / 32 ^ (7 - d.toNat) := Int.ediv_nonneg (by omega) (by omega)
  have hz2 : x / 32 ^ (7 - d.toNat) ≤ x := Int.ediv_le_self _ (by omega)
  have e1 : naS x (d + 1).toNat = naZ (x / 32 ^ (7 - d.toNat)) := by
    unfold naS; rw [show 8 - (d + 1).toNat = 7 - d.toNat by omega]
  have e2 : naS x d.toNat = naZ (x / 32 ^ (7 - d.toNat) / 32) := by
    unfold naS
    rw [Int.ediv_ediv_of_nonneg (by omega), show (32 : Int) ^ (7 - d.toNat) * 32 = 32 ^ (7 - d.toNat + 1) from (Int.pow_succ 32 _).symm, show 8 - d.toNat = 7 - d.toNat + 1 by omega]
  rw [e1, e2]
  constructor
  · intro hl
    refine ⟨by omega, naZ_s hl hz (by omega)⟩
  · intro hl
    have h0 : x / 32 ^ (7 - d.toNat) = 0 := by omega
    rw [h0]; rfl
theorem naS_b (x : Int) (d : Nat) : (naS x d).length ≤ 8 := naZ_b _
theorem naS_l {x : Int} (h : nmk x) {d : Int} (hd : 0 ≤ d ∧ d ≤ 7) : ((naS x d.toNat).length : Int) ≤ 7 := by
  have b := nmk_b h
  unfold naS naZ
  split
  · simp
  · have e : (32 : Int) ^ (7 - d.toNat + 1) = 32 ^ (7 - d.toNat) * 32 := Int.pow_succ 32 _
    rw [show 7 - d.toNat + 1 = 8 - d.toNat by omega] at e
    have hpos : (0 : Int) < 32 ^ (7 - d.toNat) := Int.pow_pos (by decide)
    have h1 : x / 32 ^ (8 - d.toNat) ≤ x / 32 := by
      rw [e, Int.mul_comm, ← Int.ediv_ediv_of_nonneg (by decide)]
      exact Int.ediv_le_self _ (by omega)
    have h2 : 0 ≤ x / 32 ^ (8 - d.toNat) := Int.ediv_nonneg (by omega) (by rw [e]; omega)
    rw [naL_st 6 _ h2 (by rw [show (32 : Int) ^ (6 + 1) = 34359738368 by decide]; omega)]
    have := naL_b 6 (x / 32 ^ (8 - d.toNat))
    omega
end LST
theorem sg8_lo {v w : Int} (e : v = w) (h : 0 ≤ w ∧ w < 128) : sg8 v = w := by
  have q := sg8_c (v := v) (by omega)
  omega
