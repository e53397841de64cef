/-! numbers on the machine as whole numbers: iI, iL; rows of the walk over them -/
def iI (z : Int) : Int32 := Int32.ofInt z
def iL (z : Int) : Int64 := Int64.ofInt z
def fI (f : Int → Int) : Nat → Int32 := fun k => iI (f (k : Int))
def fL (f : Int → Int) : Nat → Int64 := fun k => iL (f (k : Int))
def zu (f : Int → Int) (i v : Int) : Int → Int := fun j => if j = i then v else f j
theorem zu_s (f : Int → Int) (i v : Int) : zu f i v i = v := by simp [zu]
theorem zu_n (f : Int → Int) {i j : Int} (v : Int) (h : j ≠ i) : zu f i v j = f j := by simp [zu, h]
theorem iI_add (a b : Int) : iI a + iI b = iI (a + b) := (Int32.ofInt_add a b).symm
theorem iI_sub (a b : Int) : iI a - iI b = iI (a - b) := (Int32.ofInt_sub a b).symm
theorem iI_mul (a b : Int) : iI a * iI b = iI (a * b) := (Int32.ofInt_mul a b).symm
theorem iI_neg (a : Int) : -iI a = iI (-a) := (Int32.ofInt_neg a).symm
theorem iL_add (a b : Int) : iL a + iL b = iL (a + b) := (Int64.ofInt_add a b).symm
theorem iL_sub (a b : Int) : iL a - iL b = iL (a - b) := (Int64.ofInt_sub a b).symm
theorem iL_mul (a b : Int) : iL a * iL b = iL (a * b) := (Int64.ofInt_mul a b).symm
theorem iL_neg (a : Int) : -iL a = iL (-a) := (Int64.ofInt_neg a).symm
abbrev R32 (a : Int) : Prop := -2147483648 ≤ a ∧ a < 2147483648
abbrev R64 (a : Int) : Prop := -9223372036854775808 ≤ a ∧ a < 9223372036854775808
theorem iI_t {a : Int} (h : R32 a) : (iI a).toInt = a := Int32.toInt_ofInt_of_le h.1 h.2
theorem iL_t {a : Int} (h : R64 a) : (iL a).toInt = a := Int64.toInt_ofInt_of_le h.1 h.2
theorem iI_of (x : Int32) : x = iI x.toInt := (Int32.ofInt_toInt x).symm
theorem iL_of (x : Int64) : x = iL x.toInt := (Int64.ofInt_toInt x).symm
theorem iI_r (x : Int32) : R32 x.toInt := ⟨Int32.le_toInt x, Int32.toInt_lt x⟩
theorem iL_r (x : Int64) : R64 x.toInt := ⟨Int64.le_toInt x, Int64.toInt_lt x⟩
theorem iI_ex (x : Int32) : ∃ a : Int, x = iI a ∧ R32 a := ⟨x.toInt, iI_of x, iI_r x⟩
theorem iL_ex (x : Int64) : ∃ a : Int, x = iL a ∧ R64 a := ⟨x.toInt, iL_of x, iL_r x⟩
theorem iI_lt {a b : Int} (ha : R32 a) (hb : R32 b) : iI a < iI b ↔ a < b := by rw [Int32.lt_iff_toInt_lt, iI_t ha, iI_t hb]
theorem iI_le {a b : Int} (ha : R32 a) (hb : R32 b) : iI a ≤ iI b ↔ a ≤ b := by rw [Int32.le_iff_toInt_le, iI_t ha, iI_t hb]
theorem iI_eq {a b : Int} (ha : R32 a) (hb : R32 b) : iI a = iI b ↔ a = b := by rw [← Int32.toInt_inj, iI_t ha, iI_t hb]
theorem iL_lt {a b : Int} (ha : R64 a) (hb : R64 b) : iL a < iL b ↔ a < b := by rw [Int64.lt_iff_toInt_lt, iL_t ha, iL_t hb]
theorem iL_le {a b : Int} (ha : R64 a) (hb : R64 b) : iL a ≤ iL b ↔ a ≤ b := by rw [Int64.le_iff_toInt_le, iL_t ha, iL_t hb]
theorem iL_eq {a b : Int} (ha : R64 a) (hb : R64 b) : iL a = iL b ↔ a = b := by rw [← Int64.toInt_inj, iL_t ha, iL_t hb]
theorem iI_0 : (0 : Int32) = iI 0 := by decide
theorem iL_0 : (0 : Int64) = iL 0 := by decide
theorem R32_0 : R32 0 := by decide
theorem iI_l {a : Int} (h : R32 a) : (iI a).toInt64 = iL a := by
  refine Int64.toInt_inj.mp ?_
  rw [Int32.toInt_toInt64, iI_t h, iL_t ⟨by omega, by omega⟩]
theorem iL_i (a : Int) : (iL a).toInt32 = iI a := Int64.toInt32_ofInt
theorem iI_c {a : Int} (h0 : 0 ≤ a) (h : a < 2147483648) : (iI a).toNatClampNeg = a.toNat := Int32.toNatClampNeg_ofInt_of_le (by omega) h
theorem iI_in {a : Int} {n : Nat} (h0 : 0 ≤ a) (h : a < (n : Int)) (hn : n < 2147483648) : vp_in (iI a) n := by
  rw [vp_in_iff, iI_t ⟨by omega, by omega⟩]; exact ⟨h0, h⟩
theorem fI_at (f : Int → Int) {a : Int} (h0 : 0 ≤ a) (h : a < 2147483648) : fI f (iI a).toNatClampNeg = iI (f a) := by
  unfold fI; rw [iI_c h0 h, Int.toNat_of_nonneg h0]
theorem fL_at (f : Int → Int) {a : Int} (h0 : 0 ≤ a) (h : a < 2147483648) : fL f (iI a).toNatClampNeg = iL (f a) := by
  unfold fL; rw [iI_c h0 h, Int.toNat_of_nonneg h0]
theorem fI_up (f : Int → Int) {a : Int} (v : Int) (h0 : 0 ≤ a) (h : a < 2147483648) : upd (fI f) (iI a).toNatClampNeg (iI v) = fI (zu f a v) := by
  funext j
  rw [iI_c h0 h]
  unfold upd fI zu
  by_cases q : j = a.toNat
  · have q2 : (j : Int) = a := by omega
    rw [if_pos q, if_pos q2]
  · have q2 : ¬ (j : Int) = a := by omega
    rw [if_neg q, if_neg q2]
theorem fL_up (f : Int → Int) {a : Int} (v : Int) (h0 : 0 ≤ a) (h : a < 2147483648) : vp_updL (fL f) (iI a).toNatClampNeg (iL v) = fL (zu f a v) := by
  funext j
  rw [iI_c h0 h]
  unfold vp_updL fL zu
  by_cases q : j = a.toNat
  · have q2 : (j : Int) = a := by omega
    rw [if_pos q, if_pos q2]
  · have q2 : ¬ (j : Int) = a := by omega
    rw [if_neg q, if_neg q2]
theorem iI_divN {a b : Int} (ha : 0 ≤ a) (ha2 : a < 2147483648) (hb : 0 < b) (hb2 : b < 2147483648) : iI a / iI b = iI (a / b) := by
  refine Int32.toInt_inj.mp ?_
  have h1 : 0 ≤ a / b := Int.ediv_nonneg ha (by omega)
  have h2 : a / b ≤ a := Int.ediv_le_self b ha
  rw [Int32.toInt_div_of_ne_right, iI_t ⟨by omega, ha2⟩, iI_t ⟨by omega, hb2⟩, iI_t ⟨by omega, by omega⟩, Int.tdiv_eq_ediv_of_nonneg ha]
  intro h
  have h3 := congrArg Int32.toInt h
  rw [iI_t ⟨by omega, hb2⟩] at h3
  rw [h3] at hb
  exact absurd hb (by decide)
theorem iI_modN {a b : Int} (ha : 0 ≤ a) (ha2 : a < 2147483648) (hb : 0 < b) (hb2 : b < 2147483648) : iI a % iI b = iI (a % b) := by
  refine Int32.toInt_inj.mp ?_
  have h1 : 0 ≤ a % b := Int.emod_nonneg a (by omega)
  have h2 : a % b < b := Int.emod_lt_of_pos a hb
  rw [Int32.toInt_mod, iI_t ⟨by omega, ha2⟩, iI_t ⟨by omega, hb2⟩, iI_t ⟨by omega, by omega⟩, Int.tmod_eq_emod_of_nonneg ha]
section ZROWS
variable {p : Program} {l : Launch} {e : Env} {R : Room} {s : State} {m : MethodId} {args : Array Value} {below : List Frame} {meth : Method} {c : Code} {H : Heap} {locs : List Loc} {cells slots : Nat} {Q : State → Prop} {cc : ByteArray} {pc : Nat} {ls : Array Slot} {rest : List Value}
theorem z_iconst (E : p.tables.exec = Jvm.exec ∧ c.code = cc) {n : Int} (d : decode cc pc = .ok (.iconst n, 1))
    (k : W p l e R s m args below meth c H locs cells slots Q (F0 m (pc + 1) ls (.int (iI n) :: rest))) : W p l e R s m args below meth c H locs cells slots Q (F0 m pc ls rest) := lv_iconst E.1 E.2 d rfl k
theorem z_bipush (E : p.tables.exec = Jvm.exec ∧ c.code = cc) {n : Int} (h : (Int8.ofInt n).toInt32 = iI n) (d : decode cc pc = .ok (.bipush n, 2))
    (k : W p l e R s m args below meth c H locs cells slots Q (F0 m (pc + 2) ls (.int (iI n) :: rest))) : W p l e R s m args below meth c H locs cells slots Q (F0 m pc ls rest) := lv_bipush E.1 E.2 d h k
theorem z_sipush (E : p.tables.exec = Jvm.exec ∧ c.code = cc) {n : Int} (h : (Int16.ofInt n).toInt32 = iI n) (d : decode cc pc = .ok (.sipush n, 3))
    (k : W p l e R s m args below meth c H locs cells slots Q (F0 m (pc + 3) ls (.int (iI n) :: rest))) : W p l e R s m args below meth c H locs cells slots Q (F0 m pc ls rest) := lv_sipush E.1 E.2 d h k
theorem z_lconst (E : p.tables.exec = Jvm.exec ∧ c.code = cc) {n : Fin 2} {v : Int} (h : Int64.ofNat (n : Nat) = iL v) (d : decode cc pc = .ok (.lconst n, 1))
    (k : W p l e R s m args below meth c H locs cells slots Q (F0 m (pc + 1) ls (.long (iL v) :: rest))) : W p l e R s m args below meth c H locs cells slots Q (F0 m pc ls rest) := lv_lconst E.1 E.2 d h k
theorem z_iadd (E : p.tables.exec = Jvm.exec ∧ c.code = cc) {a b : Int} (d : decode cc pc = .ok (.iadd, 1))
    (k : W p l e R s m args below meth c H locs cells slots Q (F0 m (pc + 1) ls (.int (iI (a + b)) :: rest))) : W p l e R s m args below meth c H locs cells slots Q (F0 m pc ls (.int (iI b) :: .int (iI a) :: rest)) := lv_iadd E.1 E.2 d (by rw [iI_add]; exact k)
theorem z_isub (E : p.tables.exec = Jvm.exec ∧ c.code = cc) {a b : Int} (d : decode cc pc = .ok (.isub, 1))
    (k : W p l e R s m args below meth c H locs cells slots Q (F0 m (pc + 1) ls (.int (iI (a - b)) :: rest))) : W p l e R s m args below meth c H locs cells slots Q (F0 m pc ls (.int (iI b) :: .int (iI a) :: rest)) := lv_isub E.1 E.2 d (by rw [iI_sub]; exact k)
theorem z_imul (E : p.tables.exec = Jvm.exec ∧ c.code = cc) {a b : Int} (d : decode cc pc = .ok (.imul, 1))
    (k : W p l e R s m args below meth c H locs cells slots Q (F0 m (pc + 1) ls (.int (iI (a * b)) :: rest))) : W p l e R s m args below meth c H locs cells slots Q (F0 m pc ls (.int (iI b) :: .int (iI a) :: rest)) := lv_imul E.1 E.2 d (by rw [iI_mul]; exact k)
theorem z_ladd (E : p.tables.exec = Jvm.exec ∧ c.code = cc) {a b : Int} (d : decode cc pc = .ok (.ladd, 1))
    (k : W p l e R s m args below meth c H locs cells slots Q (F0 m (pc + 1) ls (.long (iL (a + b)) :: rest))) : W p l e R s m args below meth c H locs cells slots Q (F0 m pc ls (.long (iL b) :: .long (iL a) :: rest)) := lv_ladd E.1 E.2 d (by rw [iL_add]; exact k)
theorem z_lsub (E : p.tables.exec = Jvm.exec ∧ c.code = cc) {a b : Int} (d : decode cc pc = .ok (.lsub, 1))
    (k : W p l e R s m args below meth c H locs cells slots Q (F0 m (pc + 1) ls (.long (iL (a - b)) :: rest))) : W p l e R s m args below meth c H locs cells slots Q (F0 m pc ls (.long (iL b) :: .long (iL a) :: rest)) := lv_lsub E.1 E.2 d (by rw [iL_sub]; exact k)
theorem z_lmul (E : p.tables.exec = Jvm.exec ∧ c.code = cc) {a b : Int} (d : decode cc pc = .ok (.lmul, 1))
    (k : W p l e R s m args below meth c H locs cells slots Q (F0 m (pc + 1) ls (.long (iL (a * b)) :: rest))) : W p l e R s m args below meth c H locs cells slots Q (F0 m pc ls (.long (iL b) :: .long (iL a) :: rest)) := lv_lmul E.1 E.2 d (by rw [iL_mul]; exact k)
theorem z_ineg (E : p.tables.exec = Jvm.exec ∧ c.code = cc) {a : Int} (d : decode cc pc = .ok (.ineg, 1))
    (k : W p l e R s m args below meth c H locs cells slots Q (F0 m (pc + 1) ls (.int (iI (-a)) :: rest))) : W p l e R s m args below meth c H locs cells slots Q (F0 m pc ls (.int (iI a) :: rest)) := lv_ineg E.1 E.2 d (by rw [iI_neg]; exact k)
theorem z_lneg (E : p.tables.exec = Jvm.exec ∧ c.code = cc) {a : Int} (d : decode cc pc = .ok (.lneg, 1))
    (k : W p l e R s m args below meth c H locs cells slots Q (F0 m (pc + 1) ls (.long (iL (-a)) :: rest))) : W p l e R s m args below meth c H locs cells slots Q (F0 m pc ls (.long (iL a) :: rest)) := lv_lneg E.1 E.2 d (by rw [iL_neg]; exact k)
theorem z_i2l (E : p.tables.exec = Jvm.exec ∧ c.code = cc) {a : Int} (h : R32 a) (d : decode cc pc = .ok (.i2l, 1))
    (k : W p l e R s m args below meth c H locs cells slots Q (F0 m (pc + 1) ls (.long (iL a) :: rest))) : W p l e R s m args below meth c H locs cells slots Q (F0 m pc ls (.int (iI a) :: rest)) := lv_i2l E.1 E.2 d (iI_l h) k
theorem z_l2i (E : p.tables.exec = Jvm.exec ∧ c.code = cc) {a : Int} (d : decode cc pc = .ok (.l2i, 1))
    (k : W p l e R s m args below meth c H locs cells slots Q (F0 m (pc + 1) ls (.int (iI a) :: rest))) : W p l e R s m args below meth c H locs cells slots Q (F0 m pc ls (.long (iL a) :: rest)) := lv_l2i E.1 E.2 d (iL_i a) k
theorem z_idivN (E : p.tables.exec = Jvm.exec ∧ c.code = cc) {a b : Int} (ha : 0 ≤ a ∧ a < 2147483648) (hb : 0 < b ∧ b < 2147483648) (d : decode cc pc = .ok (.idiv, 1))
    (k : W p l e R s m args below meth c H locs cells slots Q (F0 m (pc + 1) ls (.int (iI (a / b)) :: rest))) : W p l e R s m args below meth c H locs cells slots Q (F0 m pc ls (.int (iI b) :: .int (iI a) :: rest)) := lv_idiv E.1 E.2 d (by rw [iI_0, iI_eq ⟨by omega, by omega⟩ (by decide)]; omega) (by rw [iI_divN ha.1 ha.2 hb.1 hb.2]; exact k)
theorem z_iremN (E : p.tables.exec = Jvm.exec ∧ c.code = cc) {a b : Int} (ha : 0 ≤ a ∧ a < 2147483648) (hb : 0 < b ∧ b < 2147483648) (d : decode cc pc = .ok (.irem, 1))
    (k : W p l e R s m args below meth c H locs cells slots Q (F0 m (pc + 1) ls (.int (iI (a % b)) :: rest))) : W p l e R s m args below meth c H locs cells slots Q (F0 m pc ls (.int (iI b) :: .int (iI a) :: rest)) := lv_irem E.1 E.2 d (by rw [iI_0, iI_eq ⟨by omega, by omega⟩ (by decide)]; omega) (by rw [iI_divN ha.1 ha.2 hb.1 hb.2, iI_mul, iI_sub, show a - a / b * b = a % b by rw [Int.mul_comm]; have := Int.mul_ediv_add_emod a b; omega]; exact k)
theorem z_icmp_eq (E : p.tables.exec = Jvm.exec ∧ c.code = cc) {a b : Int} (ha : R32 a) (hb : R32 b) {off : Int} {tgt : Nat} (d : decode cc pc = .ok (.if_icmp .eq off, 3)) (ht : (pc : Int) + off = (tgt : Int))
    (kt : a = b → W p l e R s m args below meth c H locs cells slots Q (F0 m tgt ls rest)) (kf : ¬ a = b → W p l e R s m args below meth c H locs cells slots Q (F0 m (pc + 3) ls rest)) : W p l e R s m args below meth c H locs cells slots Q (F0 m pc ls (.int (iI b) :: .int (iI a) :: rest)) := by
  have h1 := iI_lt ha hb
  have h2 := iI_le ha hb
  have h3 := iI_lt hb ha
  have h4 := iI_le hb ha
  have h5 := iI_eq ha hb
  exact lv_icmp_eq E.1 E.2 d ht (fun h => kt (h5.mp h)) (fun h => kf (fun q => h (h5.mpr q)))
theorem z_icmp_ne (E : p.tables.exec = Jvm.exec ∧ c.code = cc) {a b : Int} (ha : R32 a) (hb : R32 b) {off : Int} {tgt : Nat} (d : decode cc pc = .ok (.if_icmp .ne off, 3)) (ht : (pc : Int) + off = (tgt : Int))
    (kt : ¬ a = b → W p l e R s m args below meth c H locs cells slots Q (F0 m tgt ls rest)) (kf : a = b → W p l e R s m args below meth c H locs cells slots Q (F0 m (pc + 3) ls rest)) : W p l e R s m args below meth c H locs cells slots Q (F0 m pc ls (.int (iI b) :: .int (iI a) :: rest)) := by
  have h1 := iI_lt ha hb
  have h2 := iI_le ha hb
  have h3 := iI_lt hb ha
  have h4 := iI_le hb ha
  have h5 := iI_eq ha hb
  exact lv_icmp_ne E.1 E.2 d ht (fun h => kt (fun q => h (h5.mpr q))) (fun h => kf (h5.mp h))
theorem z_icmp_lt (E : p.tables.exec = Jvm.exec ∧ c.code = cc) {a b : Int} (ha : R32 a) (hb : R32 b) {off : Int} {tgt : Nat} (d : decode cc pc = .ok (.if_icmp .lt off, 3)) (ht : (pc : Int) + off = (tgt : Int))
    (kt : a < b → W p l e R s m args below meth c H locs cells slots Q (F0 m tgt ls rest)) (kf : b ≤ a → W p l e R s m args below meth c H locs cells slots Q (F0 m (pc + 3) ls rest)) : W p l e R s m args below meth c H locs cells slots Q (F0 m pc ls (.int (iI b) :: .int (iI a) :: rest)) := by
  have h1 := iI_lt ha hb
  have h2 := iI_le ha hb
  have h3 := iI_lt hb ha
  have h4 := iI_le hb ha
  have h5 := iI_eq ha hb
  exact lv_icmp_lt E.1 E.2 d ht (fun h => kt (h1.mp h)) (fun h => kf (Int.not_lt.mp (fun q => h (h1.mpr q))))
theorem z_icmp_ge (E : p.tables.exec = Jvm.exec ∧ c.code = cc) {a b : Int} (ha : R32 a) (hb : R32 b) {off : Int} {tgt : Nat} (d : decode cc pc = .ok (.if_icmp .ge off, 3)) (ht : (pc : Int) + off = (tgt : Int))
    (kt : b ≤ a → W p l e R s m args below meth c H locs cells slots Q (F0 m tgt ls rest)) (kf : a < b → W p l e R s m args below meth c H locs cells slots Q (F0 m (pc + 3) ls rest)) : W p l e R s m args below meth c H locs cells slots Q (F0 m pc ls (.int (iI b) :: .int (iI a) :: rest)) := by
  have h1 := iI_lt ha hb
  have h2 := iI_le ha hb
  have h3 := iI_lt hb ha
  have h4 := iI_le hb ha
  have h5 := iI_eq ha hb
  exact lv_icmp_ge E.1 E.2 d ht (fun h => kt (h4.mp h)) (fun h => kf (Int.not_le.mp (fun q => h (h4.mpr q))))
theorem z_icmp_gt (E : p.tables.exec = Jvm.exec ∧ c.code = cc) {a b : Int} (ha : R32 a) (hb : R32 b) {off : Int} {tgt : Nat} (d : decode cc pc = .ok (.if_icmp .gt off, 3)) (ht : (pc : Int) + off = (tgt : Int))
    (kt : b < a → W p l e R s m args below meth c H locs cells slots Q (F0 m tgt ls rest)) (kf : a ≤ b → W p l e R s m args below meth c H locs cells slots Q (F0 m (pc + 3) ls rest)) : W p l e R s m args below meth c H locs cells slots Q (F0 m pc ls (.int (iI b) :: .int (iI a) :: rest)) := by
  have h1 := iI_lt ha hb
  have h2 := iI_le ha hb
  have h3 := iI_lt hb ha
  have h4 := iI_le hb ha
  have h5 := iI_eq ha hb
  exact lv_icmp_gt E.1 E.2 d ht (fun h => kt (h3.mp h)) (fun h => kf (Int.not_lt.mp (fun q => h (h3.mpr q))))
theorem z_icmp_le (E : p.tables.exec = Jvm.exec ∧ c.code = cc) {a b : Int} (ha : R32 a) (hb : R32 b) {off : Int} {tgt : Nat} (d : decode cc pc = .ok (.if_icmp .le off, 3)) (ht : (pc : Int) + off = (tgt : Int))
    (kt : a ≤ b → W p l e R s m args below meth c H locs cells slots Q (F0 m tgt ls rest)) (kf : b < a → W p l e R s m args below meth c H locs cells slots Q (F0 m (pc + 3) ls rest)) : W p l e R s m args below meth c H locs cells slots Q (F0 m pc ls (.int (iI b) :: .int (iI a) :: rest)) := by
  have h1 := iI_lt ha hb
  have h2 := iI_le ha hb
  have h3 := iI_lt hb ha
  have h4 := iI_le hb ha
  have h5 := iI_eq ha hb
  exact lv_icmp_le E.1 E.2 d ht (fun h => kt (h2.mp h)) (fun h => kf (Int.not_le.mp (fun q => h (h2.mpr q))))
theorem z_if_eq (E : p.tables.exec = Jvm.exec ∧ c.code = cc) {a : Int} (ha : R32 a) {off : Int} {tgt : Nat} (d : decode cc pc = .ok (.ifCond .eq off, 3)) (ht : (pc : Int) + off = (tgt : Int))
    (kt : a = 0 → W p l e R s m args below meth c H locs cells slots Q (F0 m tgt ls rest)) (kf : ¬ a = 0 → W p l e R s m args below meth c H locs cells slots Q (F0 m (pc + 3) ls rest)) : W p l e R s m args below meth c H locs cells slots Q (F0 m pc ls (.int (iI a) :: rest)) := by
  have h1 : iI a < 0 ↔ a < 0 := by rw [iI_0]; exact iI_lt ha R32_0
  have h2 : iI a ≤ 0 ↔ a ≤ 0 := by rw [iI_0]; exact iI_le ha R32_0
  have h3 : 0 < iI a ↔ 0 < a := by rw [iI_0]; exact iI_lt R32_0 ha
  have h4 : 0 ≤ iI a ↔ 0 ≤ a := by rw [iI_0]; exact iI_le R32_0 ha
  have h5 : iI a = 0 ↔ a = 0 := by rw [iI_0]; exact iI_eq ha R32_0
  exact lv_if_eq E.1 E.2 d ht (fun h => kt (h5.mp h)) (fun h => kf (fun q => h (h5.mpr q)))
theorem z_if_ne (E : p.tables.exec = Jvm.exec ∧ c.code = cc) {a : Int} (ha : R32 a) {off : Int} {tgt : Nat} (d : decode cc pc = .ok (.ifCond .ne off, 3)) (ht : (pc : Int) + off = (tgt : Int))
    (kt : ¬ a = 0 → W p l e R s m args below meth c H locs cells slots Q (F0 m tgt ls rest)) (kf : a = 0 → W p l e R s m args below meth c H locs cells slots Q (F0 m (pc + 3) ls rest)) : W p l e R s m args below meth c H locs cells slots Q (F0 m pc ls (.int (iI a) :: rest)) := by
  have h1 : iI a < 0 ↔ a < 0 := by rw [iI_0]; exact iI_lt ha R32_0
  have h2 : iI a ≤ 0 ↔ a ≤ 0 := by rw [iI_0]; exact iI_le ha R32_0
  have h3 : 0 < iI a ↔ 0 < a := by rw [iI_0]; exact iI_lt R32_0 ha
  have h4 : 0 ≤ iI a ↔ 0 ≤ a := by rw [iI_0]; exact iI_le R32_0 ha
  have h5 : iI a = 0 ↔ a = 0 := by rw [iI_0]; exact iI_eq ha R32_0
  exact lv_if_ne E.1 E.2 d ht (fun h => kt (fun q => h (h5.mpr q))) (fun h => kf (h5.mp h))
theorem z_if_lt (E : p.tables.exec = Jvm.exec ∧ c.code = cc) {a : Int} (ha : R32 a) {off : Int} {tgt : Nat} (d : decode cc pc = .ok (.ifCond .lt off, 3)) (ht : (pc : Int) + off = (tgt : Int))
    (kt : a < 0 → W p l e R s m args below meth c H locs cells slots Q (F0 m tgt ls rest)) (kf : 0 ≤ a → W p l e R s m args below meth c H locs cells slots Q (F0 m (pc + 3) ls rest)) : W p l e R s m args below meth c H locs cells slots Q (F0 m pc ls (.int (iI a) :: rest)) := by
  have h1 : iI a < 0 ↔ a < 0 := by rw [iI_0]; exact iI_lt ha R32_0
  have h2 : iI a ≤ 0 ↔ a ≤ 0 := by rw [iI_0]; exact iI_le ha R32_0
  have h3 : 0 < iI a ↔ 0 < a := by rw [iI_0]; exact iI_lt R32_0 ha
  have h4 : 0 ≤ iI a ↔ 0 ≤ a := by rw [iI_0]; exact iI_le R32_0 ha
  have h5 : iI a = 0 ↔ a = 0 := by rw [iI_0]; exact iI_eq ha R32_0
  exact lv_if_lt E.1 E.2 d ht (fun h => kt (h1.mp h)) (fun h => kf (Int.not_lt.mp (fun q => h (h1.mpr q))))
theorem z_if_ge (E : p.tables.exec = Jvm.exec ∧ c.code = cc) {a : Int} (ha : R32 a) {off : Int} {tgt : Nat} (d : decode cc pc = .ok (.ifCond .ge off, 3)) (ht : (pc : Int) + off = (tgt : Int))
    (kt : 0 ≤ a → W p l e R s m args below meth c H locs cells slots Q (F0 m tgt ls rest)) (kf : a < 0 → W p l e R s m args below meth c H locs cells slots Q (F0 m (pc + 3) ls rest)) : W p l e R s m args below meth c H locs cells slots Q (F0 m pc ls (.int (iI a) :: rest)) := by
  have h1 : iI a < 0 ↔ a < 0 := by rw [iI_0]; exact iI_lt ha R32_0
  have h2 : iI a ≤ 0 ↔ a ≤ 0 := by rw [iI_0]; exact iI_le ha R32_0
  have h3 : 0 < iI a ↔ 0 < a := by rw [iI_0]; exact iI_lt R32_0 ha
  have h4 : 0 ≤ iI a ↔ 0 ≤ a := by rw [iI_0]; exact iI_le R32_0 ha
  have h5 : iI a = 0 ↔ a = 0 := by rw [iI_0]; exact iI_eq ha R32_0
  exact lv_if_ge E.1 E.2 d ht (fun h => kt (h4.mp h)) (fun h => kf (Int.not_le.mp (fun q => h (h4.mpr q))))
theorem z_if_gt (E : p.tables.exec = Jvm.exec ∧ c.code = cc) {a : Int} (ha : R32 a) {off : Int} {tgt : Nat} (d : decode cc pc = .ok (.ifCond .gt off, 3)) (ht : (pc : Int) + off = (tgt : Int))
    (kt : 0 < a → W p l e R s m args below meth c H locs cells slots Q (F0 m tgt ls rest)) (kf : a ≤ 0 → W p l e R s m args below meth c H locs cells slots Q (F0 m (pc + 3) ls rest)) : W p l e R s m args below meth c H locs cells slots Q (F0 m pc ls (.int (iI a) :: rest)) := by
  have h1 : iI a < 0 ↔ a < 0 := by rw [iI_0]; exact iI_lt ha R32_0
  have h2 : iI a ≤ 0 ↔ a ≤ 0 := by rw [iI_0]; exact iI_le ha R32_0
  have h3 : 0 < iI a ↔ 0 < a := by rw [iI_0]; exact iI_lt R32_0 ha
  have h4 : 0 ≤ iI a ↔ 0 ≤ a := by rw [iI_0]; exact iI_le R32_0 ha
  have h5 : iI a = 0 ↔ a = 0 := by rw [iI_0]; exact iI_eq ha R32_0
  exact lv_if_gt E.1 E.2 d ht (fun h => kt (h3.mp h)) (fun h => kf (Int.not_lt.mp (fun q => h (h3.mpr q))))
theorem z_if_le (E : p.tables.exec = Jvm.exec ∧ c.code = cc) {a : Int} (ha : R32 a) {off : Int} {tgt : Nat} (d : decode cc pc = .ok (.ifCond .le off, 3)) (ht : (pc : Int) + off = (tgt : Int))
    (kt : a ≤ 0 → W p l e R s m args below meth c H locs cells slots Q (F0 m tgt ls rest)) (kf : 0 < a → W p l e R s m args below meth c H locs cells slots Q (F0 m (pc + 3) ls rest)) : W p l e R s m args below meth c H locs cells slots Q (F0 m pc ls (.int (iI a) :: rest)) := by
  have h1 : iI a < 0 ↔ a < 0 := by rw [iI_0]; exact iI_lt ha R32_0
  have h2 : iI a ≤ 0 ↔ a ≤ 0 := by rw [iI_0]; exact iI_le ha R32_0
  have h3 : 0 < iI a ↔ 0 < a := by rw [iI_0]; exact iI_lt R32_0 ha
  have h4 : 0 ≤ iI a ↔ 0 ≤ a := by rw [iI_0]; exact iI_le R32_0 ha
  have h5 : iI a = 0 ↔ a = 0 := by rw [iI_0]; exact iI_eq ha R32_0
  exact lv_if_le E.1 E.2 d ht (fun h => kt (h2.mp h)) (fun h => kf (Int.not_le.mp (fun q => h (h2.mpr q))))
theorem z_lcmp_eq (E : p.tables.exec = Jvm.exec ∧ c.code = cc) {a b : Int} (ha : R64 a) (hb : R64 b) {off : Int} {tgt : Nat} (d : decode cc pc = .ok (.lcmp, 1)) (d2 : decode cc (pc + 1) = .ok (.ifCond .eq off, 3)) (ht : (pc + 1 : Nat) + off = (tgt : Int))
    (kt : a = b → W p l e R s m args below meth c H locs cells slots Q (F0 m tgt ls rest)) (kf : ¬ a = b → W p l e R s m args below meth c H locs cells slots Q (F0 m (pc + 4) ls rest)) : W p l e R s m args below meth c H locs cells slots Q (F0 m pc ls (.long (iL b) :: .long (iL a) :: rest)) := by
  refine W.lcmp E.1 E.2 d ?_
  have h1 := (lg_cmp_lt (iL a) (iL b)).trans (iL_lt ha hb)
  have h2 := (lg_cmp_le (iL a) (iL b)).trans (iL_le ha hb)
  have h3 := (lg_cmp_gt (iL a) (iL b)).trans (iL_lt hb ha)
  have h4 := (lg_cmp_ge (iL a) (iL b)).trans (iL_le hb ha)
  have h5 := (lg_cmp_eq (iL a) (iL b)).trans (iL_eq ha hb)
  exact lv_if_eq E.1 E.2 d2 ht (fun h => kt (h5.mp h)) (fun h => kf (fun q => h (h5.mpr q)))
theorem z_lcmp_ne (E : p.tables.exec = Jvm.exec ∧ c.code = cc) {a b : Int} (ha : R64 a) (hb : R64 b) {off : Int} {tgt : Nat} (d : decode cc pc = .ok (.lcmp, 1)) (d2 : decode cc (pc + 1) = .ok (.ifCond .ne off, 3)) (ht : (pc + 1 : Nat) + off = (tgt : Int))
    (kt : ¬ a = b → W p l e R s m args below meth c H locs cells slots Q (F0 m tgt ls rest)) (kf : a = b → W p l e R s m args below meth c H locs cells slots Q (F0 m (pc + 4) ls rest)) : W p l e R s m args below meth c H locs cells slots Q (F0 m pc ls (.long (iL b) :: .long (iL a) :: rest)) := by
  refine W.lcmp E.1 E.2 d ?_
  have h1 := (lg_cmp_lt (iL a) (iL b)).trans (iL_lt ha hb)
  have h2 := (lg_cmp_le (iL a) (iL b)).trans (iL_le ha hb)
  have h3 := (lg_cmp_gt (iL a) (iL b)).trans (iL_lt hb ha)
  have h4 := (lg_cmp_ge (iL a) (iL b)).trans (iL_le hb ha)
  have h5 := (lg_cmp_eq (iL a) (iL b)).trans (iL_eq ha hb)
  exact lv_if_ne E.1 E.2 d2 ht (fun h => kt (fun q => h (h5.mpr q))) (fun h => kf (h5.mp h))
theorem z_lcmp_lt (E : p.tables.exec = Jvm.exec ∧ c.code = cc) {a b : Int} (ha : R64 a) (hb : R64 b) {off : Int} {tgt : Nat} (d : decode cc pc = .ok (.lcmp, 1)) (d2 : decode cc (pc + 1) = .ok (.ifCond .lt off, 3)) (ht : (pc + 1 : Nat) + off = (tgt : Int))
    (kt : a < b → W p l e R s m args below meth c H locs cells slots Q (F0 m tgt ls rest)) (kf : b ≤ a → W p l e R s m args below meth c H locs cells slots Q (F0 m (pc + 4) ls rest)) : W p l e R s m args below meth c H locs cells slots Q (F0 m pc ls (.long (iL b) :: .long (iL a) :: rest)) := by
  refine W.lcmp E.1 E.2 d ?_
  have h1 := (lg_cmp_lt (iL a) (iL b)).trans (iL_lt ha hb)
  have h2 := (lg_cmp_le (iL a) (iL b)).trans (iL_le ha hb)
  have h3 := (lg_cmp_gt (iL a) (iL b)).trans (iL_lt hb ha)
  have h4 := (lg_cmp_ge (iL a) (iL b)).trans (iL_le hb ha)
  have h5 := (lg_cmp_eq (iL a) (iL b)).trans (iL_eq ha hb)
  exact lv_if_lt E.1 E.2 d2 ht (fun h => kt (h1.mp h)) (fun h => kf (Int.not_lt.mp (fun q => h (h1.mpr q))))
theorem z_lcmp_ge (E : p.tables.exec = Jvm.exec ∧ c.code = cc) {a b : Int} (ha : R64 a) (hb : R64 b) {off : Int} {tgt : Nat} (d : decode cc pc = .ok (.lcmp, 1)) (d2 : decode cc (pc + 1) = .ok (.ifCond .ge off, 3)) (ht : (pc + 1 : Nat) + off = (tgt : Int))
    (kt : b ≤ a → W p l e R s m args below meth c H locs cells slots Q (F0 m tgt ls rest)) (kf : a < b → W p l e R s m args below meth c H locs cells slots Q (F0 m (pc + 4) ls rest)) : W p l e R s m args below meth c H locs cells slots Q (F0 m pc ls (.long (iL b) :: .long (iL a) :: rest)) := by
  refine W.lcmp E.1 E.2 d ?_
  have h1 := (lg_cmp_lt (iL a) (iL b)).trans (iL_lt ha hb)
  have h2 := (lg_cmp_le (iL a) (iL b)).trans (iL_le ha hb)
  have h3 := (lg_cmp_gt (iL a) (iL b)).trans (iL_lt hb ha)
  have h4 := (lg_cmp_ge (iL a) (iL b)).trans (iL_le hb ha)
  have h5 := (lg_cmp_eq (iL a) (iL b)).trans (iL_eq ha hb)
  exact lv_if_ge E.1 E.2 d2 ht (fun h => kt (h4.mp h)) (fun h => kf (Int.not_le.mp (fun q => h (h4.mpr q))))
theorem z_lcmp_gt (E : p.tables.exec = Jvm.exec ∧ c.code = cc) {a b : Int} (ha : R64 a) (hb : R64 b) {off : Int} {tgt : Nat} (d : decode cc pc = .ok (.lcmp, 1)) (d2 : decode cc (pc + 1) = .ok (.ifCond .gt off, 3)) (ht : (pc + 1 : Nat) + off = (tgt : Int))
    (kt : b < a → W p l e R s m args below meth c H locs cells slots Q (F0 m tgt ls rest)) (kf : a ≤ b → W p l e R s m args below meth c H locs cells slots Q (F0 m (pc + 4) ls rest)) : W p l e R s m args below meth c H locs cells slots Q (F0 m pc ls (.long (iL b) :: .long (iL a) :: rest)) := by
  refine W.lcmp E.1 E.2 d ?_
  have h1 := (lg_cmp_lt (iL a) (iL b)).trans (iL_lt ha hb)
  have h2 := (lg_cmp_le (iL a) (iL b)).trans (iL_le ha hb)
  have h3 := (lg_cmp_gt (iL a) (iL b)).trans (iL_lt hb ha)
  have h4 := (lg_cmp_ge (iL a) (iL b)).trans (iL_le hb ha)
  have h5 := (lg_cmp_eq (iL a) (iL b)).trans (iL_eq ha hb)
  exact lv_if_gt E.1 E.2 d2 ht (fun h => kt (h3.mp h)) (fun h => kf (Int.not_lt.mp (fun q => h (h3.mpr q))))
theorem z_lcmp_le (E : p.tables.exec = Jvm.exec ∧ c.code = cc) {a b : Int} (ha : R64 a) (hb : R64 b) {off : Int} {tgt : Nat} (d : decode cc pc = .ok (.lcmp, 1)) (d2 : decode cc (pc + 1) = .ok (.ifCond .le off, 3)) (ht : (pc + 1 : Nat) + off = (tgt : Int))
    (kt : a ≤ b → W p l e R s m args below meth c H locs cells slots Q (F0 m tgt ls rest)) (kf : b < a → W p l e R s m args below meth c H locs cells slots Q (F0 m (pc + 4) ls rest)) : W p l e R s m args below meth c H locs cells slots Q (F0 m pc ls (.long (iL b) :: .long (iL a) :: rest)) := by
  refine W.lcmp E.1 E.2 d ?_
  have h1 := (lg_cmp_lt (iL a) (iL b)).trans (iL_lt ha hb)
  have h2 := (lg_cmp_le (iL a) (iL b)).trans (iL_le ha hb)
  have h3 := (lg_cmp_gt (iL a) (iL b)).trans (iL_lt hb ha)
  have h4 := (lg_cmp_ge (iL a) (iL b)).trans (iL_le hb ha)
  have h5 := (lg_cmp_eq (iL a) (iL b)).trans (iL_eq ha hb)
  exact lv_if_le E.1 E.2 d2 ht (fun h => kt (h2.mp h)) (fun h => kf (Int.not_le.mp (fun q => h (h2.mpr q))))
end ZROWS
