/-! twenty signs more -/
def apV (v0 v1 v2 v3 v4 k : Int) : Int := if k < 4 then v0 else if k < 8 then v1 else if k < 12 then v2 else if k < 16 then v3 else v4
def apb (v k : Int) : Int := v / ((2 ^ (24 - 8 * (k % 4)).toNat : Nat) : Int) % 256
def apB (β : Int → Int) (m v0 v1 v2 v3 v4 : Int) : Nat → Int → Int
  | 0 => β
  | k + 1 => zu (apB β m v0 v1 v2 v3 v4 k) (m + k) (apb (apV v0 v1 v2 v3 v4 k) k)
theorem apB_s {β : Int → Int} {m v0 v1 v2 v3 v4 k v : Int} (h : 0 ≤ k) (hv : v = apV v0 v1 v2 v3 v4 k) : apB β m v0 v1 v2 v3 v4 (k + 1).toNat = zu (apB β m v0 v1 v2 v3 v4 k.toNat) (m + k) (v / ((2 ^ (24 - 8 * (k % 4)).toNat : Nat) : Int) % 256) := by
  rw [show (k + 1).toNat = k.toNat + 1 by omega, apB, show ((k.toNat : Nat) : Int) = k by omega, hv]
  rfl
theorem sh4 {s : Int} (h : s = 0 ∨ s = 8 ∨ s = 16 ∨ s = 24) : ((iI s &&& 31).toBitVec.smod 32).toNat = s.toNat := by
  rcases h with q | q | q | q <;> subst q <;> decide
theorem apb_b (v k : Int) : 0 ≤ apb v k ∧ apb v k ≤ 255 := by unfold apb; omega
theorem apB_t {β : Int → Int} (hb : TX β) (m v0 v1 v2 v3 v4 : Int) : ∀ k : Nat, TX (apB β m v0 v1 v2 v3 v4 k)
  | 0 => hb
  | k + 1 => fun j h0 h1 => by
    have q := apB_t hb m v0 v1 v2 v3 v4 k j h0 h1
    have r := apb_b (apV v0 v1 v2 v3 v4 k) k
    show 0 ≤ (if j = m + k then apb (apV v0 v1 v2 v3 v4 k) k else apB β m v0 v1 v2 v3 v4 k j) ∧ (if j = m + k then apb (apV v0 v1 v2 v3 v4 k) k else apB β m v0 v1 v2 v3 v4 k j) ≤ 255
    split <;> omega
