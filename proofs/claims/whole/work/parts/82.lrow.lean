/-! rows of the law's body -/
def sx (xs : Nat → Int32) (j : Int) : Int := (xs j.toNat).toInt
theorem sx_b (xs : Nat → Int32) (j : Int) : -2147483648 ≤ sx xs j ∧ sx xs j < 2147483648 := ⟨Int32.le_toInt _, Int32.toInt_lt _⟩
/-- two ints put together to a long -/
def lwJ (a b : Int) : Int := (((iI a).toInt64 <<< ((iI 32).toInt64 &&& 63)) ||| ((iI b).toInt64 &&& iL 4294967295)).toInt
theorem lwJ_b (a b : Int) : -9223372036854775808 ≤ lwJ a b ∧ lwJ a b < 9223372036854775808 := ⟨Int64.le_toInt _, Int64.toInt_lt _⟩
theorem lwJ_e (a b : Int) : (((iI a).toInt64 <<< ((iI 32).toInt64 &&& 63)) ||| ((iI b).toInt64 &&& iL 4294967295)) = iL (lwJ a b) := (Int64.ofInt_toInt _).symm
def LX (p : Program) (l : Launch) (s : State) (m : MethodId) (c : Code) (G : GG) (b L : Nat) (xs : Nat → Int32) (aK aV : Nat → Nat) : Prop := (p.tables.exec = Jvm.exec ∧ c.code = cL_law) ∧ (c.maxLocals = 8) ∧ (s.vm.findClass RL = some m.cls) ∧ (∀ w ∈ wsL_law, w.before #[Value.ref b] s = true) ∧ (KK G s) ∧ (KX (fun q => s.heap.size ≤ q) s s.heap) ∧ (va_X b L xs s s.heap) ∧ (b < s.heap.size) ∧ (l.stackTraces = false) ∧ (L ≤ 3072) ∧ (KS aK aV (fun q => s.heap.size ≤ q) s s.heap)
section ZLW
variable {p : Program} {l : Launch} {e : Env} {R : Room} {s : State} {m : MethodId} {args : Array Value} {below : List Frame} {meth : Method} {c : Code} {H : Heap} {locs : List Loc} {cells slots : Nat} {Q : State → Prop} {cc : ByteArray} {pc : Nat} {ls : Array Slot} {rest st0 : List Value} {G : GG} {A A0 : Nat → Prop} {H0 : Heap}
theorem z_sld (E : p.tables.exec = Jvm.exec ∧ c.code = cc) {b L : Nat} {xs : Nat → Int32} (hX : va_X b L xs s H0) (hbl : b < H0.size) (hbA : ¬ A b) (hS : va_S A H0 H locs) {x : Int} (h : 0 ≤ x ∧ x < (L : Int)) (hL : L ≤ 3072) (d : decode cc pc = .ok (.iaload, 1))
    (k : W p l e R s m args below meth c H locs cells slots Q (F0 m (pc + 1) ls (.int (iI (sx xs x)) :: rest))) : W p l e R s m args below meth c H locs cells slots Q (F0 m pc ls (.int (iI x) :: .ref b :: rest)) := by
  have hc : (iI x).toNatClampNeg = x.toNat := iI_c h.1 (by omega)
  refine va_sld E.1 E.2 hX hbl hbA hS (i := iI x) (iI_in h.1 h.2 (by omega)) d ?_
  rw [hc, show xs x.toNat = iI (sx xs x) from (Int32.ofInt_toInt _).symm]
  exact k
theorem z_same (E : p.tables.exec = Jvm.exec ∧ c.code = cc) {a b : Int} (h : a = b) {off : Int} {tgt : Nat} (d : decode cc pc = .ok (.if_icmp .eq off, 3)) (ht : (pc : Int) + off = (tgt : Int)) (k : W p l e R s m args below meth c H locs cells slots Q (F0 m tgt ls rest)) : W p l e R s m args below meth c H locs cells slots Q (F0 m pc ls (.int (iI b) :: .int (iI a) :: rest)) := by
  subst h
  exact lv_icmp_eq E.1 E.2 d ht (fun _ => k) (fun h => absurd rfl h)
theorem z_sameL (E : p.tables.exec = Jvm.exec ∧ c.code = cc) {a b : Int} (h : a = b) {off : Int} {tgt : Nat} (d : decode cc pc = .ok (.lcmp, 1)) (d2 : decode cc (pc + 1) = .ok (.ifCond .eq off, 3)) (ht : (pc + 1 : Nat) + off = (tgt : Int)) (k : W p l e R s m args below meth c H locs cells slots Q (F0 m tgt ls rest)) : W p l e R s m args below meth c H locs cells slots Q (F0 m pc ls (.long (iL (rI b)) :: .long (iL (rI a)) :: rest)) := by
  subst h
  have hb := rI_b a
  exact z_lcmp_eq E ⟨by omega, by omega⟩ ⟨by omega, by omega⟩ d d2 ht (fun _ => k) (fun h => absurd rfl h)
/-- the low parts of a long -/
theorem z_i2lW (E : p.tables.exec = Jvm.exec ∧ c.code = cc) {x : Int} (d : decode cc pc = .ok (.i2l, 1)) (k : W p l e R s m args below meth c H locs cells slots Q (F0 m (pc + 1) ls (.long (iI x).toInt64 :: rest))) : W p l e R s m args below meth c H locs cells slots Q (F0 m pc ls (.int (iI x) :: rest)) := lv_i2l E.1 E.2 d rfl k
theorem z_lorJ (E : p.tables.exec = Jvm.exec ∧ c.code = cc) {a b : Int} (d : decode cc pc = .ok (.lor, 1)) (k : W p l e R s m args below meth c H locs cells slots Q (F0 m (pc + 1) ls (.long (iL (lwJ a b)) :: rest))) : W p l e R s m args below meth c H locs cells slots Q (F0 m pc ls (.long ((iI b).toInt64 &&& iL 4294967295) :: .long ((iI a).toInt64 <<< ((iI 32).toInt64 &&& 63)) :: rest)) := by
  rw [← lwJ_e] at k
  exact lv_lor E.1 E.2 d k
theorem z_lwc (E : p.tables.exec = Jvm.exec ∧ c.code = cc) {nL : Nat} (hml : c.maxLocals = nL) {own : String} (hown : s.vm.findClass own = some m.cls) {Ts : List Cond} (hts : ∀ w ∈ Ts, w.before args s = true) {y : MethodName} {ws : List Cond} {rm : Room} {bytes : ByteArray} {hh : List (Nat × Nat × Nat × Nat)} {maxL n index mc ms : Nat} {ret : Option FieldType} {P : Heap → Prop} {As : List Value} {v : Int32} {P1 : Heap → Prop} {A1 : Nat → Prop}
    (hM : Met l y ws rm (va_Pc As (fun U => P U.heap ∧ KK G U ∧ KX FF0 U U.heap)) (va_Qi (fun r (_ : Unit) => r = v) (fun _ t => P1 t.heap) A1) mc ms A1) (cw : vx_CSW R s args own index y bytes maxL ret hh ws rm mc ms n) (hP : P H) (hK : KK G s) (hX : KX FF0 s H) (hS : va_S A0 H0 H locs) (hA : ∀ q, A1 q → A0 q) (hn : As.length = n) (hsz : ls.size = nL) (hst : st0 = As.reverse ++ rest) (d : decode cc pc = .ok (.invokestatic index, 3)) (hf : cells + mc ≤ R.cells ∧ slots + ms ≤ R.slots) (hW : (rest.map fun v => v.category).sum ≤ 8)
    (k : ∀ (H1 : Heap) (locs1 : List Loc), P1 H1 → H.size ≤ H1.size → (∀ q : Nat, q < H.size → ¬ A1 q → H1[q]? = H[q]?) → va_S A0 H0 H1 locs1 → W p l e R s m args below meth c H1 locs1 (cells + mc) (slots + ms) Q (F0 m (pc + 3) ls (.int v :: rest))) : W p l e R s m args below meth c H locs cells slots Q (F0 m pc ls st0) := by
  refine va_calli (vx_runSW ⟨E.1, E.2, hml, hown, hts⟩ hM cw (z_preSX hP hK hX) rfl hn hsz hst (lv_room hW) d hf) hS (fun q _ h => hA q h) hA (fun r u t H1 locs1 ht hvm hw hB hz1 hk1 hS1 => ?_)
  subst hw
  exact k H1 locs1 (by rw [← ht]; exact hB) hz1 hk1 hS1
end ZLW
theorem qo_b (z : Nat) {k : Nat} (hk : k < 187) : z ≤ qo z k ∧ qo z k < z + 187 := by unfold qo; (repeat' split) <;> omega
/-- the heap at the head of the law's loop -/
def LH (G : GG) (n z : Nat) (H : Heap) : Prop := LJ G n (qo z) (fun k => z + 187 + k) H ∧ (∃ f : Int → Int, aL G (z + 193) 1 f H) ∧ (∃ x : UInt64, aD G (z + 194) x H)
section ZLS
variable {p : Program} {l : Launch} {e : Env} {R : Room} {s : State} {m : MethodId} {args : Array Value} {below : List Frame} {meth : Method} {c : Code} {H : Heap} {locs : List Loc} {cells slots : Nat} {Q : State → Prop} {cc : ByteArray} {pc : Nat} {ls : Array Slot} {rest st0 : List Value} {G : GG} {A A0 : Nat → Prop} {H0 : Heap} {aK aV : Nat → Nat} {AK : Nat → Prop}
theorem zs_wVi (E : p.tables.exec = Jvm.exec ∧ c.code = cc) {nL : Nat} (hml : c.maxLocals = nL) {own : String} (hown : s.vm.findClass own = some m.cls) {Ts : List Cond} (hts : ∀ w ∈ Ts, w.before args s = true) {y : MethodName} {ws : List Cond} {rm : Room} {bytes : ByteArray} {maxL n index : Nat} {ret : Option FieldType} {P : Heap → Prop} {As : List Value} {C : String} {b : Addr} {v : Int32} {P1 : Heap → Prop} {A1 : Nat → Prop} (hM : Met l y ws rm (va_Pc (.ref b :: As) (fun U => P U.heap ∧ KK G U ∧ KS aK aV AK U U.heap)) (va_Qi (fun r (_ : Unit) => r = v) (fun _ t => P1 t.heap) A1) 0 0 A1) (cw : CallW R s args own C index y bytes maxL ret ws rm 0 0 n) (hv : ∃ cell : Cell, H[b]? = some cell ∧ cell.vm.isStatics = false ∧ s.vm.findClass C = some cell.cls) (hP : P H) (hK : KK G s ∧ KS aK aV AK s H) (hS : va_S A0 H0 H locs) (hA : ∀ q, A1 q → A0 q) (hn : As.length = n) (hsz : ls.size = nL) (hst : st0 = As.reverse ++ .ref b :: rest) (d : decode cc pc = .ok (.invokevirtual index, 3)) (hf : cells ≤ R.cells ∧ slots ≤ R.slots) (hW : (rest.map fun v => v.category).sum ≤ 8)
    (k : ∀ (H1 : Heap) (locs1 : List Loc), P1 H1 → H.size ≤ H1.size → (∀ q : Nat, q < H.size → ¬ A1 q → H1[q]? = H[q]?) → va_S A0 H0 H1 locs1 → W p l e R s m args below meth c H1 locs1 cells slots Q (F0 m (pc + 3) ls (.int v :: rest))) : W p l e R s m args below meth c H locs cells slots Q (F0 m pc ls st0) := by
  refine va_calli (va_runV ⟨E.1, E.2, hml, hown, hts⟩ hM cw (z_preVS hv hP hK.1 hK.2) rfl hn hsz hst (lv_room hW) d hf) hS (fun q _ h => hA q h) hA (fun r u t H1 locs1 ht hvm hw hB hz1 hk1 hS1 => ?_)
  subst hw
  exact k H1 locs1 (by rw [← ht]; exact hB) hz1 hk1 hS1
end ZLS
