/-! rows of constructors: new cells, final fields, calls of constructors -/
theorem z_metI {l : Launch} {G : GG} {y : MethodName} {ws ws' : List Cond} {rm : Room} {av : List Value} {P : Heap → Prop} {Qc : Array Value → State → Outcome → State → Prop} {mc ms : Nat} {free : Addr → Prop} {cc : ByteArray} {maxL : Nat} {ret : Option FieldType}
    (hy : plainName y.cls = true) (hyi : y.name = "<init>") (hw : ws = Cond.code y cc maxL ret :: ws') (hlen : (lg_sl av).length ≤ maxL)
    (body : ∀ (p : Program) (e : Env) (s : State) (m : MethodId) (below : List Frame) (meth : Method) (c : Code), (p.tables.exec = Jvm.exec ∧ c.code = cc) → meth.sig.returnType = ret → c.maxLocals = maxL → s.vm.findClass y.cls = some m.cls → (∀ w ∈ ws, w.before av.toArray s = true) → meth.locks = false → meth.name = "<init>" → P s.heap → KK G s → ∀ ls : Array Slot, lv_has ls maxL (lv_args 0 av) →
      W p l e rm s m av.toArray below meth c s.heap [] 0 0 (MQ below Qc av.toArray s mc ms free) (F0 m 0 ls [])) : Met l y ws rm (va_Pc av (fun U => P U.heap ∧ KK G U)) Qc mc ms free := by
  refine Met.ofW (cc := cc) (maxL := maxL) (ret := ret) hy hw ?_
  intro p e s m args below meth c s₁ B hml hv
  obtain ⟨rfl, hP, hK⟩ := hv
  have hl := lv_entry av (n := maxL) hlen
  have hin : meth.name = y.name := (name_of_methodNamed B.named B.method).1
  rw [lg_entry_eq]
  exact body p e s m below meth c ⟨B.exec, B.bytes⟩ B.returns hml (findClass_of_methodNamed B.named) (atoms_spec (ws := ws) B.pre) B.notSynchronized (hin.trans hyi) hP hK _ hl
section ZNEW
variable {p : Program} {l : Launch} {e : Env} {R : Room} {s : State} {m : MethodId} {args : Array Value} {below : List Frame} {meth : Method} {c : Code} {H : Heap} {locs : List Loc} {cells slots : Nat} {Q : State → Prop} {cc : ByteArray} {pc : Nat} {ls : Array Slot} {rest : List Value} {G : GG} {A : Nat → Prop} {H0 : Heap} {st0 : List Value} {a : Array Value}
theorem z_new (E : p.tables.exec = Jvm.exec ∧ c.code = cc) {own C : String} {T : u_T} {N ci index : Nat} {Ts : List Cond} (hts : ∀ w ∈ Ts, w.before args s = true) (hin : ∀ w ∈ u_ws C T N, w ∈ Ts) (ty : Nat → FieldType) (hty : ∀ k, k < N → parseFieldDescriptor (T k).2.2.1 = some (ty k)) (hown : s.vm.findClass own = some m.cls) (hcl : (Cond.classLink own index C).before args s = true) (hinst : (Cond.instantiable C N).before args s = true) (hini : (Cond.initialized C).before args s = true)
    (hK : KK G s) (hS : va_S A H0 H locs) (hc : vwCl[ci]? = some (C, T, N)) {fs : List Value} (hfs : ∀ j, j < N → defaultValue (ty j) = vp_V fs j) (hcells : cells + 1 ≤ R.cells) (hslots : slots + N ≤ R.slots) (hdg : decode cc pc = .ok (.new index, 3)) {z : Nat} (hz : H.size = z)
    (kk : ∀ H1 : Heap, oB G ci z fs H1 → H1.size = z + 1 → (∀ q, q < z → H1[q]? = H[q]?) → va_S A H0 H1 locs → W p l e R s m args below meth c H1 locs (cells + 1) (slots + N) Q (F0 m (pc + 3) ls (.ref z :: rest))) : W p l e R s m args below meth c H locs cells slots Q (F0 m pc ls rest) := by
  subst hz
  have hKn := hK.1.1 ci _ hc
  refine W.newcK E.1 E.2 hown hcl hinst hini rfl hdg hcells hslots hKn.2.1 rfl fun H1 kC hkC e1 z1 o1 => ?_
  exact kk H1 ⟨_, hc, (u_born ty hts hin hKn hkC e1 hty).to hfs⟩ z1 o1 ⟨Nat.le_trans hS.1 (by omega), fun x h1 h2 => (o1 x (Nat.lt_of_lt_of_le h1 hS.1)).trans (hS.2.1 x h1 h2), hS.2.2⟩
theorem z_newI (E : p.tables.exec = Jvm.exec ∧ c.code = cc) (harr : (Cond.arrayClass .int).before args s = true) (hK : KK G s) (hS : va_S A H0 H locs) {n : Int} {N : Nat} (hn : n = (N : Int)) (hb : N ≤ 100000) (hcells : cells + 1 ≤ R.cells) (hslots : slots + N ≤ R.slots) (hdg : decode cc pc = .ok (.newarray .int, 2)) {z : Nat} (hz : H.size = z)
    (kk : ∀ H1 : Heap, aI G z N (fun _ => 0) H1 → H1.size = z + 1 → (∀ q, q < z → H1[q]? = H[q]?) → va_S A H0 H1 locs → W p l e R s m args below meth c H1 locs (cells + 1) (slots + N) Q (F0 m (pc + 2) ls (.ref z :: rest))) : W p l e R s m args below meth c H locs cells slots Q (F0 m pc ls (.int (iI n) :: rest)) := by
  subst hz
  subst hn
  have h31 : (N : Int) < 2147483648 := by omega
  refine va_newaK E.1 E.2 (atype := .int) harr rfl hdg rfl (by rw [iI_0, iI_lt ⟨by omega, h31⟩ R32_0]; omega) (by rw [iI_c (by omega) h31]; exact Int.toNat_natCast N) (show N * 4 ≤ 536870912 by omega) hcells hslots rfl fun H1 cA e1 z1 o1 hAr hNm => ?_
  have hq : cA = G.2 1 := Option.some.inj (hNm.symm.trans (hK.1.2 1 _ rfl).2)
  subst hq
  refine kk H1 ?_ z1 o1 ⟨Nat.le_trans hS.1 (by omega), fun x h1 h2 => (o1 x (Nat.lt_of_lt_of_le h1 hS.1)).trans (hS.2.1 x h1 h2), hS.2.2⟩
  show H1[H.size]? = some (arrV (G.2 1) N (fun _ => .int (iI 0)))
  rw [e1, ← iI_0]; rfl
theorem z_newL (E : p.tables.exec = Jvm.exec ∧ c.code = cc) (harr : (Cond.arrayClass .long).before args s = true) (hK : KK G s) (hS : va_S A H0 H locs) {n : Int} {N : Nat} (hn : n = (N : Int)) (hb : N ≤ 100000) (hcells : cells + 1 ≤ R.cells) (hslots : slots + N ≤ R.slots) (hdg : decode cc pc = .ok (.newarray .long, 2)) {z : Nat} (hz : H.size = z)
    (kk : ∀ H1 : Heap, aL G z N (fun _ => 0) H1 → H1.size = z + 1 → (∀ q, q < z → H1[q]? = H[q]?) → va_S A H0 H1 locs → W p l e R s m args below meth c H1 locs (cells + 1) (slots + N) Q (F0 m (pc + 2) ls (.ref z :: rest))) : W p l e R s m args below meth c H locs cells slots Q (F0 m pc ls (.int (iI n) :: rest)) := by
  subst hz
  subst hn
  have h31 : (N : Int) < 2147483648 := by omega
  refine va_newaK E.1 E.2 (atype := .long) harr rfl hdg rfl (by rw [iI_0, iI_lt ⟨by omega, h31⟩ R32_0]; omega) (by rw [iI_c (by omega) h31]; exact Int.toNat_natCast N) (show N * 8 ≤ 536870912 by omega) hcells hslots rfl fun H1 cA e1 z1 o1 hAr hNm => ?_
  have hq : cA = G.2 2 := Option.some.inj (hNm.symm.trans (hK.1.2 2 _ rfl).2)
  subst hq
  refine kk H1 ?_ z1 o1 ⟨Nat.le_trans hS.1 (by omega), fun x h1 h2 => (o1 x (Nat.lt_of_lt_of_le h1 hS.1)).trans (hS.2.1 x h1 h2), hS.2.2⟩
  show H1[H.size]? = some (arrV (G.2 2) N (fun _ => .long (iL 0)))
  rw [e1, ← iL_0]; rfl
theorem z_newB (E : p.tables.exec = Jvm.exec ∧ c.code = cc) (harr : (Cond.arrayClass .byte).before args s = true) (hK : KK G s) (hS : va_S A H0 H locs) {n : Int} {N : Nat} (hn : n = (N : Int)) (hb : N ≤ 100000) (hcells : cells + 1 ≤ R.cells) (hslots : slots + N ≤ R.slots) (hdg : decode cc pc = .ok (.newarray .byte, 2)) {z : Nat} (hz : H.size = z)
    (kk : ∀ H1 : Heap, aB G z N (fun _ => 0) H1 → H1.size = z + 1 → (∀ q, q < z → H1[q]? = H[q]?) → va_S A H0 H1 locs → W p l e R s m args below meth c H1 locs (cells + 1) (slots + N) Q (F0 m (pc + 2) ls (.ref z :: rest))) : W p l e R s m args below meth c H locs cells slots Q (F0 m pc ls (.int (iI n) :: rest)) := by
  subst hz
  subst hn
  have h31 : (N : Int) < 2147483648 := by omega
  refine va_newaK E.1 E.2 (atype := .byte) harr rfl hdg rfl (by rw [iI_0, iI_lt ⟨by omega, h31⟩ R32_0]; omega) (by rw [iI_c (by omega) h31]; exact Int.toNat_natCast N) (show N * 1 ≤ 536870912 by omega) hcells hslots rfl fun H1 cA e1 z1 o1 hAr hNm => ?_
  have hq : cA = G.2 0 := Option.some.inj (hNm.symm.trans (hK.1.2 0 _ rfl).2)
  subst hq
  refine kk H1 ?_ z1 o1 ⟨Nat.le_trans hS.1 (by omega), fun x h1 h2 => (o1 x (Nat.lt_of_lt_of_le h1 hS.1)).trans (hS.2.1 x h1 h2), hS.2.2⟩
  show H1[H.size]? = some (arrV (G.2 0) N (fun _ => .int (iI 0)))
  rw [e1, ← iI_0]; rfl
/-- a row of one double -/
def aD (G : GG) (q : Nat) (x : UInt64) (H : Heap) : Prop := H[q]? = some (arrV (G.2 4) 1 (fun _ => .double x))
theorem z_newD (E : p.tables.exec = Jvm.exec ∧ c.code = cc) (harr : (Cond.arrayClass .double).before args s = true) (hK : KK G s) (hS : va_S A H0 H locs) (hcells : cells + 1 ≤ R.cells) (hslots : slots + 1 ≤ R.slots) (hdg : decode cc pc = .ok (.newarray .double, 2)) {z : Nat} (hz : H.size = z)
    (kk : ∀ H1 : Heap, aD G z 0 H1 → H1.size = z + 1 → (∀ q, q < z → H1[q]? = H[q]?) → va_S A H0 H1 locs → W p l e R s m args below meth c H1 locs (cells + 1) (slots + 1) Q (F0 m (pc + 2) ls (.ref z :: rest))) : W p l e R s m args below meth c H locs cells slots Q (F0 m pc ls (.int (iI 1) :: rest)) := by
  subst hz
  refine va_newaK E.1 E.2 (atype := .double) harr rfl hdg rfl (by decide) (show (iI 1).toNatClampNeg = 1 by decide) (show 1 * 8 ≤ 536870912 by decide) hcells hslots rfl fun H1 cA e1 z1 o1 hAr hNm => ?_
  have hq : cA = G.2 4 := Option.some.inj (hNm.symm.trans (hK.1.2 4 _ rfl).2)
  subst hq
  refine kk H1 ?_ z1 o1 ⟨Nat.le_trans hS.1 (by omega), fun x h1 h2 => (o1 x (Nat.lt_of_lt_of_le h1 hS.1)).trans (hS.2.1 x h1 h2), hS.2.2⟩
  show H1[H.size]? = some (arrV (G.2 4) 1 (fun _ => .double 0))
  rw [e1]; rfl
/-- a final field, in a constructor -/
theorem z_putF (E : p.tables.exec = Jvm.exec ∧ c.code = cc) {own C : String} {T : u_T} {N ci index q : Nat} {Ts : List Cond} {fs : List Value} (hts : ∀ w ∈ Ts, w.before args s = true) (hin : ∀ w ∈ u_ws C T N, w ∈ Ts) (ty0 : Nat → FieldType) (hty : ∀ k, k < N → parseFieldDescriptor (T k).2.2.1 = some (ty0 k)) (hnm : ∀ a, a < N → ∀ b, b < N → a ≠ b → (T a).2.1 ≠ (T b).2.1) (hown : s.vm.findClass own = some m.cls) (hK : KK G s) (hO : oB G ci q fs H) (hc : vwCl[ci]? = some (C, T, N)) (hS0 : va_S A H0 H locs) (hq : A q) (k : Nat) (hk : k < N) (hlink : (Cond.fieldLink own index (T k).1 (T k).2.1 (T k).2.2.1).before args s = true) (hfin : (T k).2.2.2 = true) (hin2 : meth.name = "<init>") (hdecl : (T k).1 = own) {ty : FieldType} {v : Value} (hd : parseFieldDescriptor (T k).2.2.1 = some ty) (hn : narrow ty v = v) (hfit : fits ty v = true) (hl : k < fs.length)
    (hdg : decode cc pc = .ok (.putfield index, 3)) (kk : ∀ (H1 : Heap) (locs1 : List Loc), oB G ci q (fs.set k v) H1 → (∀ a, a ≠ q → H1[a]? = H[a]?) → H1.size = H.size → va_S A H0 H1 locs1 → W p l e R s m args below meth c H1 locs1 cells slots Q (F0 m (pc + 3) ls rest)) : W p l e R s m args below meth c H locs cells slots Q (F0 m pc ls (v :: .ref q :: rest)) := by
  have hap := va_apart (own := own) hts hin ty0 hty hnm hK.1 hc
  obtain ⟨r, h1, cell, q1, q2, q3, q4⟩ := hO
  have hr : r = (C, T, N) := Option.some.inj (h1.symm.trans hc)
  subst hr
  obtain ⟨hS, hfc, kC, hkC, hkind⟩ := hK.1.1 ci _ hc
  obtain ⟨cf, kf, fi, f, hi, hsl⟩ := hS k hk
  have hlay := hts _ (hin _ (u_in_lay hk))
  unfold u_lay at hlay
  rw [if_pos hfin] at hlay
  have hst := (u_facts hfc hkC (u_lays hts hin hk) hi).1
  have hcf : m.cls = cf := by
    obtain ⟨_, _, c', _, _, _, -, -, hf', -, -, -, hown2, -⟩ := Cond.laysFinal_spec hlay
    have e1 : c' = cf := by have := hi.symm.trans hf'; simp at this; exact this.1.symm
    rw [hdecl] at hown2
    rw [← e1]; exact Option.some.inj (hown.symm.trans hown2)
  have h6 := u_fits hfc hkC hkind (Or.inr hlay) hi hd hn hfit
  refine W.putFinK E.1 E.2 hown hlink hi hst hcf hin2 (by rw [q2]; exact h6) q1 q3 (by rw [hsl]; exact k2_hasslot (q4 k hk)) rfl rfl hdg fun H' e1 e2 e3 => ?_
  rw [hsl] at e1 ⊢
  exact kk H' _ ⟨_, hc, t_OB.to (V := updV (vp_V fs) k v) ⟨_, e1, q2, q3, t_set q4 hap hk v⟩ (fun j _ => vp_updV_set hl v j)⟩ e3 e2 (hS0.put e2 e3 hq)
/-- a constructor called -/
theorem z_wI (E : p.tables.exec = Jvm.exec ∧ c.code = cc) {nL : Nat} (hml : c.maxLocals = nL) {own : String} (hown : s.vm.findClass own = some m.cls) {Ts : List Cond} (hts : ∀ w ∈ Ts, w.before args s = true) {y : MethodName} {ws : List Cond} {rm : Room} {bytes : ByteArray} {maxL n index mc ms : Nat} {P : Heap → Prop} {As : List Value} {b : Addr} {P1 : Heap → Prop} {A0 A1 : Nat → Prop} (hM : Met l y ws rm (va_Pc (.ref b :: As) (fun U => P U.heap ∧ KK G U)) (va_Qv (fun _ : Unit => True) (fun _ t => P1 t.heap) A1) mc ms A1) (cw : CallB R s args own index y bytes maxL none ws rm mc ms n ∧ y.name = "<init>" ∧ (Cond.instanceMethod y).before args s = true) (hP : P H) (hK : KK G s) (hS : va_S A0 H0 H locs) (hA : ∀ q, A1 q → A0 q) (hn : As.length = n) (hsz : ls.size = nL) (hst : st0 = As.reverse ++ .ref b :: rest) (d : decode cc pc = .ok (.invokespecial index, 3)) (hf : cells + mc ≤ R.cells ∧ slots + ms ≤ R.slots) (hW : (rest.map fun v => v.category).sum ≤ 8)
    (k : ∀ (H1 : Heap) (locs1 : List Loc), P1 H1 → H.size ≤ H1.size → (∀ q : Nat, q < H.size → ¬ A1 q → H1[q]? = H[q]?) → va_S A0 H0 H1 locs1 → W p l e R s m args below meth c H1 locs1 (cells + mc) (slots + ms) Q (F0 m (pc + 3) ls rest)) : W p l e R s m args below meth c H locs cells slots Q (F0 m pc ls st0) := by
  refine va_callv (va_runI ⟨E.1, E.2, hml, hown, hts⟩ hM cw (z_preS hP hK) rfl hn hsz hst (lv_room hW) d hf) hS (fun q _ h => hA q h) hA (fun u t H1 locs1 ht hvm hw hB hz1 hk1 hS1 => ?_)
  exact k H1 locs1 (by rw [← ht]; exact hB) hz1 hk1 hS1
theorem z_wIN (E : p.tables.exec = Jvm.exec ∧ c.code = cc) {nL : Nat} (hml : c.maxLocals = nL) {own host : String} (hown : s.vm.findClass own = some m.cls) {Ts : List Cond} (hts : ∀ w ∈ Ts, w.before args s = true) {y : MethodName} {ws : List Cond} {rm : Room} {bytes : ByteArray} {maxL n index mc ms : Nat} {P : Heap → Prop} {As : List Value} {b : Addr} {P1 : Heap → Prop} {A0 A1 : Nat → Prop} (hM : Met l y ws rm (va_Pc (.ref b :: As) (fun U => P U.heap ∧ KK G U)) (va_Qv (fun _ : Unit => True) (fun _ t => P1 t.heap) A1) mc ms A1) (cw : va_CN R s args own index y host bytes maxL none ws rm mc ms n ∧ y.name = "<init>" ∧ (Cond.instanceMethod y).before args s = true) (hP : P H) (hK : KK G s) (hS : va_S A0 H0 H locs) (hA : ∀ q, A1 q → A0 q) (hn : As.length = n) (hsz : ls.size = nL) (hst : st0 = As.reverse ++ .ref b :: rest) (d : decode cc pc = .ok (.invokespecial index, 3)) (hf : cells + mc ≤ R.cells ∧ slots + ms ≤ R.slots) (hW : (rest.map fun v => v.category).sum ≤ 8)
    (k : ∀ (H1 : Heap) (locs1 : List Loc), P1 H1 → H.size ≤ H1.size → (∀ q : Nat, q < H.size → ¬ A1 q → H1[q]? = H[q]?) → va_S A0 H0 H1 locs1 → W p l e R s m args below meth c H1 locs1 (cells + mc) (slots + ms) Q (F0 m (pc + 3) ls rest)) : W p l e R s m args below meth c H locs cells slots Q (F0 m pc ls st0) := by
  refine va_callv (va_runIN ⟨E.1, E.2, hml, hown, hts⟩ hM cw (z_preS hP hK) rfl hn hsz hst (lv_room hW) d hf) hS (fun q _ h => hA q h) hA (fun u t H1 locs1 ht hvm hw hB hz1 hk1 hS1 => ?_)
  exact k H1 locs1 (by rw [← ht]; exact hB) hz1 hk1 hS1
/-- a constructor's end -/
theorem z_retC {P1 : Heap → Prop} {A : Nat → Prop} {mc ms : Nat} (E : p.tables.exec = Jvm.exec ∧ c.code = cc) (hr : meth.sig.returnType = none) (hP : P1 H) (hS : va_S A s.heap H locs) (hlocks : meth.locks = false) (d : decode cc pc = .ok (.return_, 1)) : W p l e R s m args below meth c H locs mc ms (MQ below (va_Qv (fun _ : Unit => True) (fun _ t => P1 t.heap) A) args s mc ms A) (F0 m pc ls []) :=
  W.vret E.1 E.2 hr (fun t ht hW => ⟨⟨(), rfl, trivial, by show P1 t.heap; rw [ht]; exact hP⟩, hS.F ht⟩) hS.2.2 d hlocks
end ZNEW
