/-! the law's methods that catch: rows -/
/-- a number as an int keeps it -/
def rI (x : Int) : Int := (iI x).toInt
theorem rI_b (x : Int) : -2147483648 ≤ rI x ∧ rI x < 2147483648 := ⟨Int32.le_toInt _, Int32.toInt_lt _⟩
theorem rI_e (x : Int) : iI (rI x) = iI x := Int32.ofInt_toInt _
theorem z_metH {l : Launch} {G : GG} {y : MethodName} {ws ws' : List Cond} {rm : Room} {av : List Value} {P : Heap → Prop} {Qc : Array Value → State → Outcome → State → Prop} {mc ms : Nat} {free : Addr → Prop} {cc : ByteArray} {maxL : Nat} {ret : Option FieldType} {hh : List (Nat × Nat × Nat × Nat)}
    (hy : plainName y.cls = true) (hw : ws = Cond.codeWith y cc maxL ret hh :: ws') (hlen : (lg_sl av).length ≤ maxL)
    (body : ∀ (p : Program) (e : Env) (s : State) (m : MethodId) (below : List Frame) (meth : Method) (c : Code), (p.tables.exec = Jvm.exec ∧ c.code = cc) → meth.sig.returnType = ret → c.maxLocals = maxL → s.vm.findClass y.cls = some m.cls → (∀ w ∈ ws, w.before av.toArray s = true) → meth.locks = false → c.exceptionTable.toList = tableOf hh → P s.heap → KK G s → KX FF0 s s.heap → ∀ ls : Array Slot, lv_has ls maxL (lv_args 0 av) →
      W p l e rm s m av.toArray below meth c s.heap [] 0 0 (MQ below Qc av.toArray s mc ms free) (F0 m 0 ls [])) : Met l y ws rm (va_Pc av (fun U => P U.heap ∧ KK G U ∧ KX FF0 U U.heap)) Qc mc ms free := by
  refine MetFree.of_bodyS (code := cc) (maxLocals := maxL) (ret := ret) hy ?_ ?_
  · intro args s m h hn
    obtain ⟨m9, meth, c, hn9, h1, h2, h3, h4, -, h5, h6, -⟩ := Cond.codeWith_spec (atoms_spec (ws := ws) h _ (by rw [hw]; exact List.mem_cons_self))
    cases hn.symm.trans hn9
    exact ⟨meth, c, h1, h2, h3, h4, h5, h6⟩
  · intro p e s m args below meth c s₁ B hml hv _
    obtain ⟨rfl, hP, hK, hX⟩ := hv
    have hh0 : s₁.heap = s.heap := by rw [B.state]; rfl
    have hl := lv_entry av (n := maxL) hlen
    have hts := atoms_spec (ws := ws) B.pre
    rw [lg_entry_eq]
    obtain ⟨t, a1, o, b1, b2, b3⟩ := body p e s m below meth c ⟨B.exec, B.bytes⟩ B.returns hml (findClass_of_methodNamed B.named) hts B.notSynchronized (vx_table (x := y) B (hts _ (by rw [hw]; exact List.mem_cons_self))) hP hK hX _ hl s₁ hh0 (Stand.of_body B)
    exact ⟨t, o, a1, b1, b2, ⟨b3.1, b3.2⟩⟩
section ZTH
variable {p : Program} {l : Launch} {e : Env} {R : Room} {s : State} {m : MethodId} {args : Array Value} {below : List Frame} {meth : Method} {c : Code} {H : Heap} {locs : List Loc} {cells slots : Nat} {Q : State → Prop} {cc : ByteArray} {pc : Nat} {ls : Array Slot} {rest st0 : List Value} {G : GG} {A : Nat → Prop}
theorem z_i2lR (E : p.tables.exec = Jvm.exec ∧ c.code = cc) {x : Int} (d : decode cc pc = .ok (.i2l, 1)) (k : W p l e R s m args below meth c H locs cells slots Q (F0 m (pc + 1) ls (.long (iL (rI x)) :: rest))) : W p l e R s m args below meth c H locs cells slots Q (F0 m pc ls (.int (iI x) :: rest)) := by
  rw [← rI_e x]
  exact z_i2l E (rI_b x) d k
theorem z_thrown {E1 : String} {a : Array Value} (hr : vx_Run p l e R s m args below meth c s.heap [] 0 0 1 6 (F0 m pc ls st0) rest ((fun _ _ _ _ => False : Array Value → State → Outcome → State → Prop) a) (XCe E1) FF0)
    (kk : ∀ (ce : Cell) (q : Nat) (H1 : Heap) (locs1 : List Loc), (∀ z, z < s.heap.size → H1[z]? = s.heap[z]?) → va_S FF0 s.heap H1 locs1 → H1[q]? = some ce → ce.vm = .none → s.vm.findClass E1 = some ce.cls → vx_W p l e R s m args below meth c H1 locs1 1 6 Q (F0 m pc ls rest) q) :
    W p l e R s m args below meth c s.heap [] 0 0 Q (F0 m pc ls st0) := by
  intro T hT X
  rcases hr T hT X with ⟨v, st₀, t, T', L, h0, X', hL, e1, e2, hq, st⟩ | ⟨q, st₀, t, T', L, E, ce, h0, X', hL, e1, e2, ⟨u, hp, hb, hF⟩, hce, hcv, hcl, st⟩
  · exact hq.elim
  · have hb : E = E1 := hb
    subst hb
    obtain ⟨hz, hk⟩ := hF
    rw [h0, ← e1] at hz hk
    have hk2 : ∀ z, z < s.heap.size → T'.heap[z]? = s.heap[z]? := fun z hz => hk z hz (fun h => h)
    obtain ⟨t2, a1, b1⟩ := kk ce q T'.heap ([] ++ L) hk2 ⟨hz, fun z h1 _ => hk2 z h1, fun z hz => (hL z hz).elim⟩ (by rw [e1]; exact hce) hcv hcl T' rfl X'
    exact ⟨t2, st.trans a1, b1⟩
theorem z_cast (hX : KX A s H) {E : String} (hE : Cond.castable E E ∈ WXL) : (Cond.castable E E).before args s = true := va_tabs (u := s) (List.all_eq_true.mp (show WXL.all Cond.onTables = true by decide +kernel) _ hE) rfl (hX.2.2.2.1 _ hE)
end ZTH
section ZDA
variable {p : Program} {l : Launch} {e : Env} {R : Room} {s : State} {m : MethodId} {args : Array Value} {below : List Frame} {meth : Method} {c : Code} {H : Heap} {locs : List Loc} {cells slots : Nat} {Q : State → Prop} {cc : ByteArray} {pc : Nat} {ls : Array Slot} {rest st0 : List Value} {G : GG} {A : Nat → Prop} {H0 : Heap}
theorem aD.kp {q : Nat} {x : UInt64} {H H1 : Heap} (h : aD G q x H) (k : H1[q]? = H[q]?) : aD G q x H1 := k.trans h
theorem aD.lt {q : Nat} {x : UInt64} {H : Heap} (h : aD G q x H) : q < H.size := (Array.getElem?_eq_some_iff.mp h).1
theorem z_dastore (E : p.tables.exec = Jvm.exec ∧ c.code = cc) {q : Nat} {x y : UInt64} (hK : KK G s) (hA : aD G q x H) (hS : va_S A H0 H locs) (hq : A q) (d : decode cc pc = .ok (.dastore, 1))
    (k : ∀ (H1 : Heap) (locs1 : List Loc), aD G q y H1 → (∀ a, a ≠ q → H1[a]? = H[a]?) → va_S A H0 H1 locs1 → W p l e R s m args below meth c H1 locs1 cells slots Q (F0 m (pc + 1) ls rest)) : W p l e R s m args below meth c H locs cells slots Q (F0 m pc ls (.double y :: .int (iI 0) :: .ref q :: rest)) := by
  have hc0 : (iI 0).toNatClampNeg = 0 := by decide
  refine W.dast E.1 E.2 hA (hK.w4 1 (fun _ => .double x)) (fun q => by cases q) (by show ¬ (iI 0 < 0 ∨ (arrV _ _ _).slots.size ≤ _); rw [arrV_size, hc0]; decide) rfl rfl d fun H1 e z oq => ?_
  refine k H1 _ ?_ oq (hS.put z oq hq)
  show H1[q]? = some _
  rw [e, hc0, arrV_store]
  exact congrArg some (arrV_cg _ (fun j hj => by rw [show j = 0 by omega]; simp [updV]))
theorem z_daload (E : p.tables.exec = Jvm.exec ∧ c.code = cc) {q : Nat} {x : UInt64} (hK : KK G s) (hA : aD G q x H) (d : decode cc pc = .ok (.daload, 1))
    (k : W p l e R s m args below meth c H locs cells slots Q (F0 m (pc + 1) ls (.double x :: rest))) : W p l e R s m args below meth c H locs cells slots Q (F0 m pc ls (.int (iI 0) :: .ref q :: rest)) := by
  have hc0 : (iI 0).toNatClampNeg = 0 := by decide
  refine W.dald (v := .double x) E.1 E.2 hA (hK.w4 1 (fun _ => .double x)) (fun q => by cases q) (by show ¬ (iI 0 < 0 ∨ (arrV _ _ _).slots.size ≤ _); rw [arrV_size, hc0]; decide) (by rw [hc0]; exact arrV_read _ _ (by decide)) rfl rfl d k
end ZDA
/-- the class's object and the row of one long -/
def LQ (G : GG) (o : Nat → Nat) (ν σ : Int → Int) (π : Nat → Int → Int) (δ τ ω : Int → Int) (q : Nat) (f : Int → Int) (H : Heap) : Prop := QT G o ν σ π δ τ ω H ∧ aL G q 1 f H
def LQD (G : GG) (o : Nat → Nat) (ν σ : Int → Int) (π : Nat → Int → Int) (δ τ ω : Int → Int) (q : Nat) (x : UInt64) (H : Heap) : Prop := QT G o ν σ π δ τ ω H ∧ aD G q x H
