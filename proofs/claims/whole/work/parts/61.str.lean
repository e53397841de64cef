/-! the five words of the reference, String constants -/
def sLen : List Nat := [5, 5, 6, 3, 4]
def sByt : List (List Int32) := [[103, 114, 97, 99, 101], [108, 105, 109, 105, 116], [102, 111, 108, 100, 101, 114], [116, 97, 103], [102, 105, 108, 101]]
def KS (aK aV : Nat → Nat) (A : Nat → Prop) (U : State) (H : Heap) : Prop := vk_S 5 sLen sByt aK aV A U H ∧ va_Z "java/lang/String" "COMPACT_STRINGS" "Z" (.int 1) A U H ∧ va_Zq "jdk/internal/util/Preconditions" "SIOOBE_FORMATTER" "Ljava/util/function/BiFunction;" A U H ∧ vk_R RX8 150 "grace" (aK 0) U ∧ vk_R RX8 156 "limit" (aK 1) U ∧ vk_R RX8 161 "folder" (aK 2) U ∧ vk_R RX8 166 "tag" (aK 3) U ∧ vk_R RX8 171 "file" (aK 4) U
theorem KS.warm {aK aV : Nat → Nat} {A : Nat → Prop} {s U : State} {H : Heap} (hW : s.WarmedH U.vm) (h : KS aK aV A s H) : KS aK aV A U H := by
  obtain ⟨h1, h2, h3, h4, h5, h6, h7, h8⟩ := h
  exact ⟨h1.moved hW.alike, h2.moved hW.alike, h3.moved hW.alike, vk_R.warm hW h4, vk_R.warm hW h5, vk_R.warm hW h6, vk_R.warm hW h7, vk_R.warm hW h8⟩
theorem KS.calling {aK aV : Nat → Nat} {A : Nat → Prop} {U : State} {g : JFrame} {mk : MethodId} {a : Array Value} {H : Heap} (h : KS aK aV A U H) : KS aK aV A (U.calling g mk a) H := by
  obtain ⟨h1, h2, h3, h4, h5, h6, h7, h8⟩ := h
  exact ⟨h1.moved (U := U.calling g mk a) (Vm.Alike.refl U.vm), h2.moved (U := U.calling g mk a) (Vm.Alike.refl U.vm), h3.moved (U := U.calling g mk a) (Vm.Alike.refl U.vm), vk_R.same (u := U) rfl h4, vk_R.same (u := U) rfl h5, vk_R.same (u := U) rfl h6, vk_R.same (u := U) rfl h7, vk_R.same (u := U) rfl h8⟩
theorem KS.kept {aK aV : Nat → Nat} {A : Nat → Prop} {U : State} {H H1 : Heap} (h : KS aK aV A U H) (hq : ∀ a : Nat, a < H.size → ¬ A a → H1[a]? = H[a]?) : KS aK aV A U H1 := by
  obtain ⟨h1, h2, h3, h4⟩ := h
  exact ⟨h1.kept hq, h2.kept hq, h3.kept hq, h4⟩
theorem KS.narrow {aK aV : Nat → Nat} {A B : Nat → Prop} {U : State} {H : Heap} (h : KS aK aV A U H) (hAB : ∀ q, B q → A q) : KS aK aV B U H := by
  obtain ⟨h1, h2, h3, h4⟩ := h
  exact ⟨h1.narrow hAB, h2.narrow hAB, h3.narrow hAB, h4⟩
theorem z_metS {l : Launch} {G : GG} {y : MethodName} {ws ws' : List Cond} {rm : Room} {av : List Value} {P : Heap → Prop} {aK aV : Nat → Nat} {AK : Nat → Prop} {Qc : Array Value → State → Outcome → State → Prop} {mc ms : Nat} {free : Addr → Prop} {cc : ByteArray} {maxL : Nat} {ret : Option FieldType}
    (hy : plainFor y = true) (hw : ws = Cond.code y cc maxL ret :: ws') (hlen : (lg_sl av).length ≤ maxL)
    (body : ∀ (p : Program) (e : Env) (s : State) (m : MethodId) (below : List Frame) (meth : Method) (c : Code), (p.tables.exec = Jvm.exec ∧ c.code = cc) → meth.sig.returnType = ret → c.maxLocals = maxL → s.vm.findClass y.cls = some m.cls → (∀ w ∈ ws, w.before av.toArray s = true) → meth.locks = false → P s.heap → (KK G s ∧ KS aK aV AK s s.heap) → ∀ ls : Array Slot, lv_has ls maxL (lv_args 0 av) →
      W p l e rm s m av.toArray below meth c s.heap [] 0 0 (MQ below Qc av.toArray s mc ms free) (F0 m 0 ls [])) : Met l y ws rm (va_Pc av (fun U => P U.heap ∧ KK G U ∧ KS aK aV AK U U.heap)) Qc mc ms free := by
  refine MetFree.of_bodySF (code := cc) (maxLocals := maxL) (ret := ret) hy ?_ ?_
  · intro args s m h hn
    obtain ⟨meth, c, h1, h2, h3, h4, h5, h6, -, -⟩ := Cond.code_spec hn (atoms_spec (ws := ws) h _ (by rw [hw]; exact List.mem_cons_self))
    exact ⟨meth, c, h1, h2, h3, h4, h5, h6⟩
  · intro p e s m args below meth c s₁ B hml hv _
    obtain ⟨rfl, hP, hK⟩ := hv
    have hh0 : s₁.heap = s.heap := by rw [B.state]; rfl
    have hl := lv_entry av (n := maxL) hlen
    have k : W p l e rm s m av.toArray below meth c s.heap [] 0 0 (MQ below Qc av.toArray s mc ms free) (entryFrame m av.toArray maxL) := by
      rw [lg_entry_eq]
      exact body p e s m below meth c ⟨B.exec, B.bytes⟩ B.returns hml (findClass_of_methodNamed B.named) (atoms_spec (ws := ws) B.pre) B.notSynchronized hP hK _ hl
    obtain ⟨t, a1, o, b1, b2, b3⟩ := k s₁ hh0 (Stand.of_body B)
    exact ⟨t, o, a1, b1, b2, ⟨b3.1, b3.2⟩⟩
theorem z_preVS {s : State} {H : Heap} {C : String} {b : Addr} {As : List Value} {G : GG} {P : Heap → Prop} {aK aV : Nat → Nat} {AK : Nat → Prop} (hr : ∃ cell : Cell, H[b]? = some cell ∧ cell.vm.isStatics = false ∧ s.vm.findClass C = some cell.cls) (hP : P H) (hK : KK G s) (hX : KS aK aV AK s H) : PreV s H C b (va_Pc (Value.ref b :: As) (fun U => P U.heap ∧ KK G U ∧ KS aK aV AK U U.heap)) As :=
  ⟨fun a U g mk q => ⟨q.1, q.2.1, KK.calling q.2.2.1, KS.calling q.2.2.2⟩, hr, fun U hU hW => ⟨rfl, by rw [hU]; exact hP, KK.warm hW hK, by rw [hU]; exact KS.warm hW hX⟩⟩
theorem z_preSS {s : State} {H : Heap} {As : List Value} {G : GG} {P : Heap → Prop} {aK aV : Nat → Nat} {AK : Nat → Prop} (hP : P H) (hK : KK G s) (hX : KS aK aV AK s H) : PreS s H (va_Pc As (fun U => P U.heap ∧ KK G U ∧ KS aK aV AK U U.heap)) As :=
  ⟨fun a U g mk q => ⟨q.1, q.2.1, KK.calling q.2.2.1, KS.calling q.2.2.2⟩, fun U hU hW => ⟨rfl, by rw [hU]; exact hP, KK.warm hW hK, by rw [hU]; exact KS.warm hW hX⟩⟩
section ZS
variable {p : Program} {l : Launch} {e : Env} {R : Room} {s : State} {m : MethodId} {args : Array Value} {below : List Frame} {meth : Method} {c : Code} {H : Heap} {locs : List Loc} {cells slots : Nat} {Q : State → Prop} {cc : ByteArray} {pc : Nat} {ls : Array Slot} {rest : List Value} {G : GG} {A0 : Nat → Prop} {H0 : Heap} {a : Array Value} {st0 : List Value} {aK aV : Nat → Nat} {AK : Nat → Prop}
theorem zs_rVi (E : p.tables.exec = Jvm.exec ∧ c.code = cc) {nL : Nat} (hml : c.maxLocals = nL) {own : String} (hown : s.vm.findClass own = some m.cls) {Ts : List Cond} (hts : ∀ w ∈ Ts, w.before args s = true) {y : MethodName} {ws : List Cond} {rm : Room} {bytes : ByteArray} {maxL n index : Nat} {ret : Option FieldType} {P : Heap → Prop} {As : List Value} {C : String} {b : Addr} {v : Int32} (hM : Met l y ws rm (va_Pc (.ref b :: As) (fun U => P U.heap ∧ KK G U ∧ KS aK aV AK U U.heap)) (vp_Si (fun r => r = v)) 0 0 (fun _ => False)) (cw : CallW R s args own C index y bytes maxL ret ws rm 0 0 n) (hv : ∃ cell : Cell, H[b]? = some cell ∧ cell.vm.isStatics = false ∧ s.vm.findClass C = some cell.cls) (hP : P H) (hK : KK G s ∧ KS aK aV AK s H) (hn : As.length = n) (hsz : ls.size = nL) (hst : st0 = As.reverse ++ .ref b :: rest) (d : decode cc pc = .ok (.invokevirtual index, 3)) (hf : cells ≤ R.cells ∧ slots ≤ R.slots) (hW : (rest.map fun v => v.category).sum ≤ 8)
    (k : W p l e R s m args below meth c H locs cells slots Q (F0 m (pc + 3) ls (.int v :: rest))) : W p l e R s m args below meth c H locs cells slots Q (F0 m pc ls st0) := z_runRi (va_runV ⟨E.1, E.2, hml, hown, hts⟩ hM cw (z_preVS hv hP hK.1 hK.2) rfl hn hsz hst (lv_room hW) d hf) k
theorem zs_rSi (E : p.tables.exec = Jvm.exec ∧ c.code = cc) {nL : Nat} (hml : c.maxLocals = nL) {own : String} (hown : s.vm.findClass own = some m.cls) {Ts : List Cond} (hts : ∀ w ∈ Ts, w.before args s = true) {y : MethodName} {ws : List Cond} {rm : Room} {bytes : ByteArray} {maxL n index : Nat} {ret : Option FieldType} {P : Heap → Prop} {As : List Value}  {v : Int32} (hM : Met l y ws rm (va_Pc (As) (fun U => P U.heap ∧ KK G U ∧ KS aK aV AK U U.heap)) (vp_Si (fun r => r = v)) 0 0 (fun _ => False)) (cw : CallB R s args own index y bytes maxL ret ws rm 0 0 n ∧ (Cond.static y).before args s = true) (hP : P H) (hK : KK G s ∧ KS aK aV AK s H) (hn : As.length = n) (hsz : ls.size = nL) (hst : st0 = As.reverse ++ rest) (d : decode cc pc = .ok (.invokestatic index, 3)) (hf : cells ≤ R.cells ∧ slots ≤ R.slots) (hW : (rest.map fun v => v.category).sum ≤ 8)
    (k : W p l e R s m args below meth c H locs cells slots Q (F0 m (pc + 3) ls (.int v :: rest))) : W p l e R s m args below meth c H locs cells slots Q (F0 m pc ls st0) := z_runRi (va_runS ⟨E.1, E.2, hml, hown, hts⟩ hM cw (z_preSS hP hK.1 hK.2) rfl hn hsz hst (lv_room hW) d hf) k
theorem zs_rSv (E : p.tables.exec = Jvm.exec ∧ c.code = cc) {nL : Nat} (hml : c.maxLocals = nL) {own : String} (hown : s.vm.findClass own = some m.cls) {Ts : List Cond} (hts : ∀ w ∈ Ts, w.before args s = true) {y : MethodName} {ws : List Cond} {rm : Room} {bytes : ByteArray} {maxL n index : Nat} {ret : Option FieldType} {P : Heap → Prop} {As : List Value} (hM : Met l y ws rm (va_Pc (As) (fun U => P U.heap ∧ KK G U ∧ KS aK aV AK U U.heap)) zSv 0 0 (fun _ => False)) (cw : CallB R s args own index y bytes maxL ret ws rm 0 0 n ∧ (Cond.static y).before args s = true) (hP : P H) (hK : KK G s ∧ KS aK aV AK s H) (hn : As.length = n) (hsz : ls.size = nL) (hst : st0 = As.reverse ++ rest) (d : decode cc pc = .ok (.invokestatic index, 3)) (hf : cells ≤ R.cells ∧ slots ≤ R.slots) (hW : (rest.map fun v => v.category).sum ≤ 8)
    (k : W p l e R s m args below meth c H locs cells slots Q (F0 m (pc + 3) ls rest)) : W p l e R s m args below meth c H locs cells slots Q (F0 m pc ls st0) := z_runRv (va_runS ⟨E.1, E.2, hml, hown, hts⟩ hM cw (z_preSS hP hK.1 hK.2) rfl hn hsz hst (lv_room hW) d hf) k
theorem zs_wVv (E : p.tables.exec = Jvm.exec ∧ c.code = cc) {nL : Nat} (hml : c.maxLocals = nL) {own : String} (hown : s.vm.findClass own = some m.cls) {Ts : List Cond} (hts : ∀ w ∈ Ts, w.before args s = true) {y : MethodName} {ws : List Cond} {rm : Room} {bytes : ByteArray} {maxL n index : Nat} {ret : Option FieldType} {P : Heap → Prop} {As : List Value} {C : String} {b : Addr} {P1 : Heap → Prop} {A1 : Nat → Prop} (hM : Met l y ws rm (va_Pc (.ref b :: As) (fun U => P U.heap ∧ KK G U ∧ KS aK aV AK U U.heap)) (va_Qv (fun _ : Unit => True) (fun _ t => P1 t.heap) A1) 0 0 A1) (cw : CallW R s args own C index y bytes maxL ret ws rm 0 0 n) (hv : ∃ cell : Cell, H[b]? = some cell ∧ cell.vm.isStatics = false ∧ s.vm.findClass C = some cell.cls) (hP : P H) (hK : KK G s ∧ KS aK aV AK s H) (hS : va_S A0 H0 H locs) (hA : ∀ q, A1 q → A0 q) (hn : As.length = n) (hsz : ls.size = nL) (hst : st0 = As.reverse ++ .ref b :: rest) (d : decode cc pc = .ok (.invokevirtual index, 3)) (hf : cells ≤ R.cells ∧ slots ≤ R.slots) (hW : (rest.map fun v => v.category).sum ≤ 8)
    (k : ∀ (H1 : Heap) (locs1 : List Loc), P1 H1 → H.size ≤ H1.size → (∀ q : Nat, q < H.size → ¬ A1 q → H1[q]? = H[q]?) → va_S A0 H0 H1 locs1 → W p l e R s m args below meth c H1 locs1 cells slots Q (F0 m (pc + 3) ls rest)) : W p l e R s m args below meth c H locs cells slots Q (F0 m pc ls st0) := by
  refine va_callv (va_runV ⟨E.1, E.2, hml, hown, hts⟩ hM cw (z_preVS hv hP hK.1 hK.2) rfl hn hsz hst (lv_room hW) d hf) hS (fun q _ h => hA q h) hA (fun u t H1 locs1 ht hvm hw hB hz1 hk1 hS1 => ?_)
  exact k H1 locs1 (by rw [← ht]; exact hB) hz1 hk1 hS1
end ZS
def sl (i : Nat) : Int := ((sLen.getD i 0 : Nat) : Int)
/-- the sign at k of the word i -/
def sch (i : Nat) (k : Int) : Int := ((sByt.getD i []).getD k.toNat 0).toInt
theorem s5 {i : Nat} (hi : i < 5) : i = 0 ∨ i = 1 ∨ i = 2 ∨ i = 3 ∨ i = 4 := by omega
theorem sl_b {i : Nat} (hi : i < 5) : 3 ≤ sl i ∧ sl i ≤ 6 := by
  rcases s5 hi with e | e | e | e | e <;> subst e <;> decide
theorem sz_len {i : Nat} (hi : i < 5) : Int32.ofNat (sLen.getD i 0) = iI (sl i) := by
  rcases s5 hi with e | e | e | e | e <;> subst e <;> decide
theorem sz_k {i : Nat} {k : Int} (hi : i < 5) (hk : 0 ≤ k ∧ k < sl i) : k = 0 ∨ k = 1 ∨ k = 2 ∨ k = 3 ∨ k = 4 ∨ k = 5 := by
  have := sl_b hi
  omega
theorem sz_in {i : Nat} {k : Int} (hi : i < 5) (hk : 0 ≤ k ∧ k < sl i) : vp_in (iI k) (sLen.getD i 0) := by
  rcases s5 hi with e | e | e | e | e <;> subst e <;> rcases sz_k (by omega) hk with q | q | q | q | q | q <;> subst q <;> first | (unfold vp_in; decide) | exact absurd hk.2 (by decide)
theorem sz_at {i : Nat} {k : Int} (hi : i < 5) (hk : 0 ≤ k ∧ k < sl i) : (fun j => Value.int ((sByt.getD i []).getD j 0)) (iI k).toNatClampNeg = .int (iI (sch i k)) := by
  rcases s5 hi with e | e | e | e | e <;> subst e <;> rcases sz_k (by omega) hk with q | q | q | q | q | q <;> subst q <;> first | rfl | exact absurd hk.2 (by decide)
theorem sch_b {i : Nat} {k : Int} (hi : i < 5) (hk : 0 ≤ k ∧ k < sl i) : 97 ≤ sch i k ∧ sch i k ≤ 122 := by
  rcases s5 hi with e | e | e | e | e <;> subst e <;> rcases sz_k (by omega) hk with q | q | q | q | q | q <;> subst q <;> first | decide | exact absurd hk.2 (by decide)
theorem sz_c {i : Nat} {k : Int} (hi : i < 5) (hk : 0 ≤ k ∧ k < sl i) : ((iI (sch i k % 256)).toUInt32 % 65536).toInt32 = iI (sch i k) := by
  rcases s5 hi with e | e | e | e | e <;> subst e <;> rcases sz_k (by omega) hk with q | q | q | q | q | q <;> subst q <;> first | decide | exact absurd hk.2 (by decide)
theorem sz_n {i : Nat} {k : Int} (hi : i < 5) (hk : 0 ≤ k ∧ k < sl i) : narrow .char (.int (iI (sch i k))) = .int (iI (sch i k)) := by
  rcases s5 hi with e | e | e | e | e <;> subst e <;> rcases sz_k (by omega) hk with q | q | q | q | q | q <;> subst q <;> first | rfl | exact absurd hk.2 (by decide)
theorem sz_coder {t : Nat} {A : Nat → Prop} {U : State} {H : Heap} (h : va_OF "java/lang/String" "coder" "B" (.int 0) t A U H) : va_OF "java/lang/String" "coder" "B" (.int (iI 0)) t A U H := h
theorem sz_comp {A : Nat → Prop} {U : State} {H : Heap} (h : va_Z "java/lang/String" "COMPACT_STRINGS" "Z" (.int 1) A U H) : va_Z "java/lang/String" "COMPACT_STRINGS" "Z" (.int (iI 1)) A U H := h
section ZR
variable {p : Program} {l : Launch} {e : Env} {R : Room} {s : State} {m : MethodId} {args : Array Value} {below : List Frame} {meth : Method} {c : Code} {cells slots : Nat} {cc : ByteArray} {pc : Nat} {ls : Array Slot}
theorem z_retRb {v w : Int32} {free : Addr → Prop} (E : p.tables.exec = Jvm.exec ∧ c.code = cc) (hr : meth.sig.returnType = some .byte) (hn : narrow .byte (.int v) = .int v) (h : v = w) (hlocks : meth.locks = false) (d : decode cc pc = .ok (.ireturn, 1)) : W p l e R s m args below meth c s.heap [] cells slots (MQ below (vp_Si (fun r => r = w)) args s cells slots free) (F0 m pc ls [.int v]) :=
  W.zret (ty := .byte) (v := v) E.1 E.2 hr hn (fun t ht hW => ⟨v, rfl, h, ht⟩) (fun q hq => absurd hq List.not_mem_nil) d hlocks
theorem z_retRc {v w : Int32} {free : Addr → Prop} (E : p.tables.exec = Jvm.exec ∧ c.code = cc) (hr : meth.sig.returnType = some .char) (hn : narrow .char (.int v) = .int v) (h : v = w) (hlocks : meth.locks = false) (d : decode cc pc = .ok (.ireturn, 1)) : W p l e R s m args below meth c s.heap [] cells slots (MQ below (vp_Si (fun r => r = w)) args s cells slots free) (F0 m pc ls [.int v]) :=
  W.zret (ty := .char) (v := v) E.1 E.2 hr hn (fun t ht hW => ⟨v, rfl, h, ht⟩) (fun q hq => absurd hq List.not_mem_nil) d hlocks
end ZR
/-! words, told by their values -/
section WV
theorem wv_nn {b : Int → Int} {p : Int} : ∀ k : Nat, (∀ j : Nat, j < k → 97 ≤ b (p + j) ∧ b (p + j) ≤ 122) → 0 ≤ wv b p k
  | 0, _ => Int.le_refl _
  | k + 1, h => by
    have q := wv_nn k (fun j hj => h j (by omega))
    have r := h k (by omega)
    rw [wv]; omega
theorem wv_u {b1 b2 : Int → Int} {p1 p2 : Int} : ∀ (k1 k2 : Nat), (∀ j : Nat, j < k1 → 97 ≤ b1 (p1 + j) ∧ b1 (p1 + j) ≤ 122) → (∀ j : Nat, j < k2 → 97 ≤ b2 (p2 + j) ∧ b2 (p2 + j) ≤ 122) → wv b1 p1 k1 = wv b2 p2 k2 → k1 = k2 ∧ ∀ j : Nat, j < k1 → b1 (p1 + j) = b2 (p2 + j)
  | 0, 0, _, _, _ => ⟨rfl, fun j hj => absurd hj (Nat.not_lt_zero _)⟩
  | 0, k2 + 1, _, h2, e => by
    have q := wv_nn k2 (fun j hj => h2 j (by omega))
    have r := h2 k2 (by omega)
    rw [wv, wv] at e; omega
  | k1 + 1, 0, h1, _, e => by
    have q := wv_nn k1 (fun j hj => h1 j (by omega))
    have r := h1 k1 (by omega)
    rw [wv, wv] at e; omega
  | k1 + 1, k2 + 1, h1, h2, e => by
    have q1 := wv_nn k1 (fun j hj => h1 j (by omega))
    have r1 := h1 k1 (by omega)
    have q2 := wv_nn k2 (fun j hj => h2 j (by omega))
    have r2 := h2 k2 (by omega)
    rw [wv, wv] at e
    have u := wv_u k1 k2 (fun j hj => h1 j (by omega)) (fun j hj => h2 j (by omega)) (by omega)
    obtain ⟨u1, u2⟩ := u
    subst u1
    refine ⟨rfl, fun j hj => ?_⟩
    by_cases z : j = k1
    · subst z; omega
    · exact u2 j (by omega)
theorem wv_c {b1 b2 : Int → Int} {p1 p2 : Int} : ∀ k : Nat, (∀ j : Nat, j < k → b1 (p1 + j) = b2 (p2 + j)) → wv b1 p1 k = wv b2 p2 k
  | 0, _ => rfl
  | k + 1, h => by rw [wv, wv, wv_c k (fun j hj => h j (by omega)), h k (by omega)]
/-- the value of the word i -/
def wcS (i : Nat) : Int := wv (sch i) 0 (sl i).toNat
theorem RWd_0 {b : Int → Int} {n c : Int} (h : RWd b n c = 0) : Kd b n c = 0 ∧ Te b n c - Sk b n c ≤ 8 := by
  rw [RWd_f] at h; rw [Kd_f, Te_f, Sk_f]; exact rWd_0 h
theorem RWd_y {b : Int → Int} {n c : Int} (h : Kd b n c = 0 ∧ Te b n c - Sk b n c ≤ 8) : RWd b n c = 0 := by
  rw [RWd_f]; rw [Kd_f, Te_f, Sk_f] at h; unfold rWd; rw [if_pos h]
theorem wo_i {b : Int → Int} {n c : Int} {i : Nat} (hi : i < 5) (hc : c ≤ n) (hk : Kd b n c = 0) (h8 : Te b n c - Sk b n c ≤ 8) : Wo b n c = wcS i ↔ (Te b n c - Sk b n c = sl i ∧ ∀ k : Int, 0 ≤ k → k < sl i → b (Sk b n c + k) = sch i k) := by
  have hs := sl_b hi
  rw [Kd_f] at hk
  rw [Te_f, Sk_f] at h8 ⊢
  rw [Wo_f]
  have q := kd_0 hk
  have t := te_b b hc
  unfold wo wcS
  rw [show min (te b n c - sk b n c) 8 = te b n c - sk b n c by omega]
  have l1 : ∀ j : Nat, j < (te b n c - sk b n c).toNat → 97 ≤ b (sk b n c + j) ∧ b (sk b n c + j) ≤ 122 := fun j hj => rn_in (b := b) (n := n) (i := sk b n c) (by omega) (by rw [← q.2.2]; omega)
  have l2 : ∀ j : Nat, j < (sl i).toNat → 97 ≤ sch i (0 + j) ∧ sch i (0 + j) ≤ 122 := fun j hj => sch_b hi (by omega)
  constructor
  · intro e
    have u := wv_u _ _ l1 l2 e
    refine ⟨by omega, fun k k0 k1 => ?_⟩
    have v := u.2 k.toNat (by omega)
    rw [show ((k.toNat : Nat) : Int) = k by omega, Int.zero_add] at v
    exact v
  · intro e
    rw [e.1]
    exact wv_c _ (fun j hj => by rw [Int.zero_add]; exact e.2 j (by omega) (by omega))
end WV
