/-! bits of numbers: shifts, masks, bytes -/
theorem iL_shr {a : Int} (ha : R64 a) {D : Int64} {d : Nat} (hD : (D.toBitVec.smod 64).toNat = d) : iL a >>> D = iL (a / ((2 ^ d : Nat) : Int)) := by
  apply Int64.toInt_inj.mp
  have e : (iL a >>> D).toInt = (iL a).toInt >>> d := by
    rw [← hD]
    exact BitVec.toInt_sshiftRight ..
  have hp : (0 : Int) < ((2 ^ d : Nat) : Int) := by have := Nat.two_pow_pos d; omega
  have h0 : a / ((2 ^ d : Nat) : Int) ≤ max a 0 ∧ min a 0 ≤ a / ((2 ^ d : Nat) : Int) := by
    rcases Int.lt_or_le a 0 with q | q
    · have u := Int.ediv_neg_of_neg_of_pos q hp
      have v : a ≤ a / ((2 ^ d : Nat) : Int) := by
        refine (Int.le_ediv_iff_mul_le hp).mpr ?_
        have : a * ((2 ^ d : Nat) : Int) ≤ a * 1 := Int.mul_le_mul_of_nonpos_left (by omega) (by omega)
        omega
      omega
    · have u := Int.ediv_nonneg q (Int.le_of_lt hp)
      have v := Int.ediv_le_self (((2 ^ d : Nat) : Int)) q
      omega
  rw [e, iL_t ha, iL_t ⟨by omega, by omega⟩, Int.shiftRight_eq_div_pow]
theorem iI_shr {a : Int} (ha : R32 a) {D : Int32} {d : Nat} (hD : (D.toBitVec.smod 32).toNat = d) : iI a >>> D = iI (a / ((2 ^ d : Nat) : Int)) := by
  apply Int32.toInt_inj.mp
  have e : (iI a >>> D).toInt = (iI a).toInt >>> d := by
    rw [← hD]
    exact BitVec.toInt_sshiftRight ..
  have hp : (0 : Int) < ((2 ^ d : Nat) : Int) := by have := Nat.two_pow_pos d; omega
  have h0 : a / ((2 ^ d : Nat) : Int) ≤ max a 0 ∧ min a 0 ≤ a / ((2 ^ d : Nat) : Int) := by
    rcases Int.lt_or_le a 0 with q | q
    · have u := Int.ediv_neg_of_neg_of_pos q hp
      have v : a ≤ a / ((2 ^ d : Nat) : Int) := by
        refine (Int.le_ediv_iff_mul_le hp).mpr ?_
        have : a * ((2 ^ d : Nat) : Int) ≤ a * 1 := Int.mul_le_mul_of_nonpos_left (by omega) (by omega)
        omega
      omega
    · have u := Int.ediv_nonneg q (Int.le_of_lt hp)
      have v := Int.ediv_le_self (((2 ^ d : Nat) : Int)) q
      omega
  rw [e, iI_t ha, iI_t ⟨by omega, by omega⟩, Int.shiftRight_eq_div_pow]
theorem iL_and31 (a : Int) : iL a &&& iL 31 = iL (a % 32) := by
  apply Int64.toBitVec_inj.mp
  show BitVec.ofInt 64 a &&& BitVec.ofInt 64 31 = BitVec.ofInt 64 (a % 32)
  apply BitVec.eq_of_toNat_eq
  rw [BitVec.toNat_and, BitVec.toNat_ofInt, BitVec.toNat_ofInt, BitVec.toNat_ofInt]
  have e : ((31 : Int) % ((2 ^ 64 : Nat) : Int)).toNat = 2 ^ 5 - 1 := by decide
  rw [e, Nat.and_two_pow_sub_one_eq_mod]
  omega
theorem iI_and255 (a : Int) : iI a &&& iI 255 = iI (a % 256) := by
  apply Int32.toBitVec_inj.mp
  show BitVec.ofInt 32 a &&& BitVec.ofInt 32 255 = BitVec.ofInt 32 (a % 256)
  apply BitVec.eq_of_toNat_eq
  rw [BitVec.toNat_and, BitVec.toNat_ofInt, BitVec.toNat_ofInt, BitVec.toNat_ofInt]
  have e : ((255 : Int) % ((2 ^ 32 : Nat) : Int)).toNat = 2 ^ 8 - 1 := by decide
  rw [e, Nat.and_two_pow_sub_one_eq_mod]
  omega
theorem iI_and63 (a : Int) : iI a &&& iI 63 = iI (a % 64) := by
  apply Int32.toBitVec_inj.mp
  show BitVec.ofInt 32 a &&& BitVec.ofInt 32 63 = BitVec.ofInt 32 (a % 64)
  apply BitVec.eq_of_toNat_eq
  rw [BitVec.toNat_and, BitVec.toNat_ofInt, BitVec.toNat_ofInt, BitVec.toNat_ofInt]
  have e : ((63 : Int) % ((2 ^ 32 : Nat) : Int)).toNat = 2 ^ 6 - 1 := by decide
  rw [e, Nat.and_two_pow_sub_one_eq_mod]
  omega
/-- a byte, signed -/
def sg8 (a : Int) : Int := (a + 128) % 256 - 128
theorem sg8_b (a : Int) : -128 ≤ sg8 a ∧ sg8 a < 128 := by unfold sg8; omega
theorem sg8_m (a : Int) : sg8 (a % 256) = sg8 a := by unfold sg8; omega
theorem sg8_c {v : Int} (h : 0 ≤ v ∧ v < 256) : (v < 128 ∧ sg8 v = v) ∨ (128 ≤ v ∧ sg8 v = v - 256) := by unfold sg8; omega
theorem iI_b (a : Int) : (iI a).toInt8.toInt32 = iI (sg8 a) := by
  apply Int32.toInt_inj.mp
  have hb := sg8_b a
  rw [Int8.toInt_toInt32, iI_t ⟨by omega, by omega⟩]
  show (Int32.ofInt a).toInt8.toInt = sg8 a
  rw [Int32.toInt8_ofInt, Int8.toInt_ofInt]
  show a.bmod 256 = sg8 a
  rw [Int.bmod_eq_emod]
  unfold sg8
  split <;> omega
theorem iL_shl5 (a : Int) : iL a <<< ((iI 5).toInt64 &&& 63) = iL (a * 32) := by
  apply Int64.toBitVec_inj.mp
  have e : ((iI 5).toInt64 &&& 63 : Int64) = 5 := by decide
  rw [e]
  show (BitVec.ofInt 64 a) <<< 5 = BitVec.ofInt 64 (a * 32)
  rw [BitVec.shiftLeft_eq_mul_twoPow, BitVec.ofInt_mul]
  congr 1
theorem iL_shl32 (a : Int) : iL a <<< ((iI 32).toInt64 &&& 63) = iL (a * 4294967296) := by
  apply Int64.toBitVec_inj.mp
  have e : ((iI 32).toInt64 &&& 63 : Int64) = 32 := by decide
  rw [e]
  show (BitVec.ofInt 64 a) <<< 32 = BitVec.ofInt 64 (a * 4294967296)
  rw [BitVec.shiftLeft_eq_mul_twoPow, BitVec.ofInt_mul]
  congr 1
theorem bv_orN (a : Int) (n c : Nat) (hc : c < 2 ^ n) (hn : n ≤ 64) : BitVec.ofInt 64 (a * ((2 ^ n : Nat) : Int)) ||| BitVec.ofInt 64 (c : Int) = BitVec.ofInt 64 (a * ((2 ^ n : Nat) : Int) + (c : Int)) := by
  have hz : BitVec.ofInt 64 (a * ((2 ^ n : Nat) : Int)) &&& BitVec.ofInt 64 (c : Int) = 0#64 := by
    apply BitVec.eq_of_getLsbD_eq
    intro i hi
    rw [BitVec.getLsbD_and, BitVec.ofInt_mul]
    have e2 : BitVec.ofInt 64 ((2 ^ n : Nat) : Int) = BitVec.twoPow 64 n := by
      rw [BitVec.ofInt_natCast]
      apply BitVec.eq_of_toNat_eq
      rw [BitVec.toNat_ofNat, BitVec.toNat_twoPow]
    rw [e2, ← BitVec.shiftLeft_eq_mul_twoPow, BitVec.getLsbD_shiftLeft, BitVec.ofInt_natCast, BitVec.getLsbD_ofNat]
    by_cases q : i < n
    · simp [q]
    · have : c.testBit i = false := Nat.testBit_lt_two_pow (Nat.lt_of_lt_of_le hc (Nat.pow_le_pow_right (by decide) (by omega)))
      simp [this]
  rw [← BitVec.add_eq_or_of_and_eq_zero _ _ hz, ← BitVec.ofInt_add]
theorem iL_or5 (a : Int) {c : Int} (hc : 0 ≤ c ∧ c < 32) : iL (a * 32) ||| iL c = iL (a * 32 + c) := by
  apply Int64.toBitVec_inj.mp
  have h := bv_orN a 5 c.toNat (by omega) (by decide)
  rw [Int.toNat_of_nonneg hc.1] at h
  exact h
theorem iL_or32 (a : Int) {c : Int} (hc : 0 ≤ c ∧ c < 4294967296) : iL (a * 4294967296) ||| iL c = iL (a * 4294967296 + c) := by
  apply Int64.toBitVec_inj.mp
  have h := bv_orN a 32 c.toNat (by omega) (by decide)
  rw [Int.toNat_of_nonneg hc.1] at h
  exact h
theorem iL_and32 (a : Int) : iL a &&& iL 4294967295 = iL (a % 4294967296) := by
  apply Int64.toBitVec_inj.mp
  show BitVec.ofInt 64 a &&& BitVec.ofInt 64 4294967295 = BitVec.ofInt 64 (a % 4294967296)
  apply BitVec.eq_of_toNat_eq
  rw [BitVec.toNat_and, BitVec.toNat_ofInt, BitVec.toNat_ofInt, BitVec.toNat_ofInt]
  have e : ((4294967295 : Int) % ((2 ^ 64 : Nat) : Int)).toNat = 2 ^ 32 - 1 := by decide
  rw [e, Nat.and_two_pow_sub_one_eq_mod]
  omega
theorem iL_divN {a b : Int} (ha : 0 ≤ a) (ha2 : a < 9223372036854775808) (hb : 0 < b) (hb2 : b < 9223372036854775808) : iL a / iL b = iL (a / b) := by
  refine Int64.toInt_inj.mp ?_
  have h1 : 0 ≤ a / b := Int.ediv_nonneg ha (by omega)
  have h2 : a / b ≤ a := Int.ediv_le_self b ha
  rw [Int64.toInt_div_of_ne_right, iL_t ⟨by omega, ha2⟩, iL_t ⟨by omega, hb2⟩, iL_t ⟨by omega, by omega⟩, Int.tdiv_eq_ediv_of_nonneg ha]
  intro h
  have h3 := congrArg Int64.toInt h
  rw [iL_t ⟨by omega, hb2⟩] at h3
  rw [h3] at hb
  exact absurd hb (by decide)
section ZBITS
variable {p : Program} {l : Launch} {e : Env} {R : Room} {s : State} {m : MethodId} {args : Array Value} {below : List Frame} {meth : Method} {c : Code} {H : Heap} {locs : List Loc} {cells slots : Nat} {Q : State → Prop} {cc : ByteArray} {pc : Nat} {ls : Array Slot} {rest : List Value} {G : GG} {A : Nat → Prop} {H0 : Heap}
theorem z_land31 (E : p.tables.exec = Jvm.exec ∧ c.code = cc) {a : Int} (d : decode cc pc = .ok (.land, 1))
    (k : W p l e R s m args below meth c H locs cells slots Q (F0 m (pc + 1) ls (.long (iL (a % 32)) :: rest))) : W p l e R s m args below meth c H locs cells slots Q (F0 m pc ls (.long (iL 31) :: .long (iL a) :: rest)) := lv_land E.1 E.2 d (by rw [iL_and31]; exact k)
theorem z_land32 (E : p.tables.exec = Jvm.exec ∧ c.code = cc) {a : Int} (d : decode cc pc = .ok (.land, 1))
    (k : W p l e R s m args below meth c H locs cells slots Q (F0 m (pc + 1) ls (.long (iL (a % 4294967296)) :: rest))) : W p l e R s m args below meth c H locs cells slots Q (F0 m pc ls (.long (iL 4294967295) :: .long (iL a) :: rest)) := lv_land E.1 E.2 d (by rw [iL_and32]; exact k)
theorem z_iand255 (E : p.tables.exec = Jvm.exec ∧ c.code = cc) {a : Int} (d : decode cc pc = .ok (.iand, 1))
    (k : W p l e R s m args below meth c H locs cells slots Q (F0 m (pc + 1) ls (.int (iI (a % 256)) :: rest))) : W p l e R s m args below meth c H locs cells slots Q (F0 m pc ls (.int (iI 255) :: .int (iI a) :: rest)) := lv_iand E.1 E.2 d (by rw [iI_and255]; exact k)
theorem z_iand63 (E : p.tables.exec = Jvm.exec ∧ c.code = cc) {a : Int} (d : decode cc pc = .ok (.iand, 1))
    (k : W p l e R s m args below meth c H locs cells slots Q (F0 m (pc + 1) ls (.int (iI (a % 64)) :: rest))) : W p l e R s m args below meth c H locs cells slots Q (F0 m pc ls (.int (iI 63) :: .int (iI a) :: rest)) := lv_iand E.1 E.2 d (by rw [iI_and63]; exact k)
theorem z_ishr (E : p.tables.exec = Jvm.exec ∧ c.code = cc) {a s0 : Int} (ha : R32 a) {n : Nat} (hs : ((iI s0 &&& 31).toBitVec.smod 32).toNat = n) (d : decode cc pc = .ok (.ishr, 1))
    (k : W p l e R s m args below meth c H locs cells slots Q (F0 m (pc + 1) ls (.int (iI (a / ((2 ^ n : Nat) : Int))) :: rest))) : W p l e R s m args below meth c H locs cells slots Q (F0 m pc ls (.int (iI s0) :: .int (iI a) :: rest)) := lv_ishr E.1 E.2 d (by rw [iI_shr ha hs]; exact k)
theorem z_lshr (E : p.tables.exec = Jvm.exec ∧ c.code = cc) {a s0 : Int} (ha : R64 a) {n : Nat} (hs : (((iI s0).toInt64 &&& 63).toBitVec.smod 64).toNat = n) (d : decode cc pc = .ok (.lshr, 1))
    (k : W p l e R s m args below meth c H locs cells slots Q (F0 m (pc + 1) ls (.long (iL (a / ((2 ^ n : Nat) : Int))) :: rest))) : W p l e R s m args below meth c H locs cells slots Q (F0 m pc ls (.int (iI s0) :: .long (iL a) :: rest)) := lv_lshr E.1 E.2 d (iL_shr ha hs) k
theorem z_lshl5 (E : p.tables.exec = Jvm.exec ∧ c.code = cc) {a : Int} (d : decode cc pc = .ok (.lshl, 1))
    (k : W p l e R s m args below meth c H locs cells slots Q (F0 m (pc + 1) ls (.long (iL (a * 32)) :: rest))) : W p l e R s m args below meth c H locs cells slots Q (F0 m pc ls (.int (iI 5) :: .long (iL a) :: rest)) := lv_lshl E.1 E.2 d (iL_shl5 a) k
theorem z_lshl32 (E : p.tables.exec = Jvm.exec ∧ c.code = cc) {a : Int} (d : decode cc pc = .ok (.lshl, 1))
    (k : W p l e R s m args below meth c H locs cells slots Q (F0 m (pc + 1) ls (.long (iL (a * 4294967296)) :: rest))) : W p l e R s m args below meth c H locs cells slots Q (F0 m pc ls (.int (iI 32) :: .long (iL a) :: rest)) := lv_lshl E.1 E.2 d (iL_shl32 a) k
theorem z_lor5 (E : p.tables.exec = Jvm.exec ∧ c.code = cc) {a c0 : Int} (hc : 0 ≤ c0 ∧ c0 < 32) (d : decode cc pc = .ok (.lor, 1))
    (k : W p l e R s m args below meth c H locs cells slots Q (F0 m (pc + 1) ls (.long (iL (a * 32 + c0)) :: rest))) : W p l e R s m args below meth c H locs cells slots Q (F0 m pc ls (.long (iL c0) :: .long (iL (a * 32)) :: rest)) := lv_lor E.1 E.2 d (by rw [iL_or5 a hc]; exact k)
theorem z_lor32 (E : p.tables.exec = Jvm.exec ∧ c.code = cc) {a c0 : Int} (hc : 0 ≤ c0 ∧ c0 < 4294967296) (d : decode cc pc = .ok (.lor, 1))
    (k : W p l e R s m args below meth c H locs cells slots Q (F0 m (pc + 1) ls (.long (iL (a * 4294967296 + c0)) :: rest))) : W p l e R s m args below meth c H locs cells slots Q (F0 m pc ls (.long (iL c0) :: .long (iL (a * 4294967296)) :: rest)) := lv_lor E.1 E.2 d (by rw [iL_or32 a hc]; exact k)
theorem z_i2b (E : p.tables.exec = Jvm.exec ∧ c.code = cc) {a : Int} (d : decode cc pc = .ok (.i2b, 1))
    (k : W p l e R s m args below meth c H locs cells slots Q (F0 m (pc + 1) ls (.int (iI (sg8 a)) :: rest))) : W p l e R s m args below meth c H locs cells slots Q (F0 m pc ls (.int (iI a) :: rest)) := lv_i2b E.1 E.2 d (iI_b a) k
theorem z_ldivN (E : p.tables.exec = Jvm.exec ∧ c.code = cc) {a b : Int} (ha : 0 ≤ a ∧ a < 9223372036854775808) (hb : 0 < b ∧ b < 9223372036854775808) (d : decode cc pc = .ok (.ldiv, 1))
    (k : W p l e R s m args below meth c H locs cells slots Q (F0 m (pc + 1) ls (.long (iL (a / b)) :: rest))) : W p l e R s m args below meth c H locs cells slots Q (F0 m pc ls (.long (iL b) :: .long (iL a) :: rest)) := lv_ldiv E.1 E.2 d (by rw [iL_0, iL_eq ⟨by omega, by omega⟩ (by decide)]; omega) (by rw [iL_divN ha.1 ha.2 hb.1 hb.2]; exact k)
theorem z_lremN (E : p.tables.exec = Jvm.exec ∧ c.code = cc) {a b : Int} (ha : 0 ≤ a ∧ a < 9223372036854775808) (hb : 0 < b ∧ b < 9223372036854775808) (d : decode cc pc = .ok (.lrem, 1))
    (k : W p l e R s m args below meth c H locs cells slots Q (F0 m (pc + 1) ls (.long (iL (a % b)) :: rest))) : W p l e R s m args below meth c H locs cells slots Q (F0 m pc ls (.long (iL b) :: .long (iL a) :: rest)) := lv_lrem E.1 E.2 d (by rw [iL_0, iL_eq ⟨by omega, by omega⟩ (by decide)]; omega) (by rw [iL_divN ha.1 ha.2 hb.1 hb.2, iL_mul, iL_sub, show a - a / b * b = a % b by rw [Int.mul_comm]; have := Int.mul_ediv_add_emod a b; omega]; exact k)
theorem z_bastore (E : p.tables.exec = Jvm.exec ∧ c.code = cc) {q n : Nat} {f : Int → Int} {i v : Int} (hK : KK G s) (hA : aB G q n f H) (hS : va_S A H0 H locs) (hq : A q) (hi : 0 ≤ i ∧ i < (n : Int)) (hn : n < 2147483648) (hv : -128 ≤ v ∧ v < 128) (d : decode cc pc = .ok (.bastore, 1))
    (k : ∀ (H1 : Heap) (locs1 : List Loc), aB G q n (zu f i v) H1 → (∀ a, a ≠ q → H1[a]? = H[a]?) → va_S A H0 H1 locs1 → W p l e R s m args below meth c H1 locs1 cells slots Q (F0 m (pc + 1) ls rest)) : W p l e R s m args below meth c H locs cells slots Q (F0 m pc ls (.int (iI v) :: .int (iI i) :: .ref q :: rest)) := by
  have hin := iI_in hi.1 hi.2 hn
  have hb8 : narrow .byte (.int (iI v)) = .int (iI v) := by
    show Value.int ((iI v).toInt8.toInt32) = _
    rw [iI_b, show sg8 v = v by unfold sg8; omega]
  refine W.bast E.1 E.2 hA (hK.w0 n (fun j => .int (fI f j))) (fun q => by cases q) (by show ¬ (iI i < 0 ∨ (arrV _ _ _).slots.size ≤ _); rw [arrV_size]; exact hin) rfl rfl d fun H1 e z oq => ?_
  refine k H1 _ ?_ oq (hS.put z oq hq)
  show H1[q]? = some (vp_cell _ _)
  rw [e, hb8, ← fI_up f v hi.1 (by omega), vp_cell_i, vp_cell_i, arrV_store]
  congr 2
  funext j
  by_cases hj : j = (iI i).toNatClampNeg
  · subst hj; simp [updV, upd]
  · simp [updV, upd, hj]
end ZBITS
/-! names, letter by letter -/
theorem nkI_0 (x : Int) : nkB x = true ↔ (0 ≤ x ∧ nmo (8 - (0 : Int)).toNat x ∧ (0 < (0 : Int) ∨ 0 < x)) := by
  rw [nkB_i]
  show (0 < x ∧ nmo 8 x) ↔ _
  constructor
  · rintro ⟨a, b⟩; exact ⟨by omega, b, Or.inr a⟩
  · rintro ⟨a, b, c⟩; exact ⟨by omega, b⟩
theorem nkI_s {n y : Int} (hn : 0 ≤ n ∧ n < 8) (h : 1 ≤ y % 32 ∧ y % 32 ≤ 26) : (0 ≤ y ∧ nmo (8 - n).toNat y ∧ (0 < n ∨ 0 < y)) ↔ (0 ≤ y / 32 ∧ nmo (8 - (n + 1)).toNat (y / 32) ∧ (0 < n + 1 ∨ 0 < y / 32)) := by
  have e : (8 - n).toNat = (8 - (n + 1)).toNat + 1 := by omega
  rw [e]
  constructor
  · rintro ⟨a, b, c⟩
    rcases b with b | ⟨b1, b2, b3, b4⟩
    · rw [b] at h; omega
    · exact ⟨by omega, b4, Or.inl (by omega)⟩
  · rintro ⟨a, b, c⟩
    have hy : 0 < y := by omega
    exact ⟨by omega, Or.inr ⟨hy, h.1, h.2, b⟩, Or.inr hy⟩
theorem nmo_0 : ∀ n : Nat, nmo n 0
  | 0 => rfl
  | n + 1 => Or.inl rfl
theorem nkI_y {n y : Int} (hy : y = 0) (hn : 0 < n) : 0 ≤ y ∧ nmo (8 - n).toNat y ∧ (0 < n ∨ 0 < y) := by
  subst hy
  exact ⟨by omega, nmo_0 _, Or.inl hn⟩
theorem nkI_n {n y : Int} (z : 0 ≤ y ∧ nmo (8 - n).toNat y ∧ (0 < n ∨ 0 < y)) (hy : ¬ y = 0) (h : 8 ≤ n ∨ ¬ (1 ≤ y % 32 ∧ y % 32 ≤ 26)) : False := by
  obtain ⟨a, b, c⟩ := z
  rcases h with h | h
  · rw [show (8 - n).toNat = 0 by omega] at b
    exact hy b
  · rcases Int.lt_or_le n 8 with q | q
    · rw [show (8 - n).toNat = (8 - (n + 1)).toNat + 1 by omega] at b
      rcases b with b | ⟨b1, b2, b3, b4⟩
      · exact hy b
      · exact h ⟨b2, b3⟩
    · rw [show (8 - n).toNat = 0 by omega] at b
      exact hy b
