/-! what a throw needs of the machine; rows of throws, and of calls that throw -/
def SXL : List (Nat × String) := [(45, "the text buffer is full"), (125, "no such number of the tree"), (160, "no such number of a folder"), (170, "the folder has no children"), (177, "not the name of a new folder"), (183, "there are 40 folders"), (189, "the folder is the root or not empty"), (241, "no such number of a file"), (251, "there are 60 files"), (284, "the project has no files"), (300, "the hard limit is below the soft one"), (306, "a gift needs the hard limit"), (322, "the time would exceed 9999"), (336, "no hard limit above 0"), (338, "both projects are the same"), (345, "the gift is refused"), (364, "no such number of a gift"), (368, "the used amount would leave its range"), (395, "no such byte"), (404, "there is no change to undo"), (418, "no such folder"), (421, "no such file"), (424, "no such gift"), (426, "it is refused"), (428, "a value out of its range")]
abbrev xI : String := "java/lang/IndexOutOfBoundsException"
abbrev xA : String := "java/lang/IllegalArgumentException"
abbrev xS : String := "java/lang/IllegalStateException"
abbrev xN : String := "java/util/NoSuchElementException"
def CXL : List String := [xI, xA, xS, xN]
def WXL : List Cond := [Cond.castable xI xI, Cond.castable xA xA, Cond.castable xS xS, Cond.castable xN xN, Cond.declares (Bundle.initS "java/lang/RuntimeException"), Cond.declares (Bundle.initS "java/lang/Exception"), Cond.declares (Bundle.initS Bundle.tN)]
abbrev FF0 : Nat → Prop := fun _ => False
def XS (U : State) : Prop := (∀ x ∈ SXL, ∃ sa : Nat, vk_R RX7 x.1 x.2 sa U) ∧ (∀ w ∈ WXL, w.before #[] U = true) ∧ (∀ E ∈ CXL, ∀ F ∈ CXL, E ≠ F → va_Nc E F U)
def KX (A : Nat → Prop) (U : State) (H : Heap) : Prop := vx_Zq Bundle.tN "UNASSIGNED_STACK" Bundle.steD A U H ∧ vx_Zq Bundle.tN "SUPPRESSED_SENTINEL" Bundle.listD A U H ∧ XS U
theorem XS.warm {s U : State} (hW : s.WarmedH U.vm) (h : XS s) : XS U := by
  refine ⟨fun x hx => ?_, fun E hE => ?_, fun E hE F hF hn => va_Nc.moved hW.alike (h.2.2 E hE F hF hn)⟩
  · obtain ⟨sa, q⟩ := h.1 x hx
    exact ⟨sa, vk_R.warm hW q⟩
  · have fa : WXL.all (fun w => w.faceAtom && w.onTables) = true := by decide +kernel
    have ff := List.all_eq_true.mp fa E hE
    rw [Bool.and_eq_true] at ff
    exact va_tabs (u := s.setVm U.vm) ff.2 rfl (Cond.faceAtom_setVm (args := #[]) hW.alike E ff.1 (h.2.1 E hE))
theorem XS.same {s U : State} (hv : s.vm = U.vm) (h : XS s) : XS U := by
  refine ⟨fun x hx => ?_, fun E hE => va_tabs (List.all_eq_true.mp (show WXL.all Cond.onTables = true by decide +kernel) E hE) hv (h.2.1 E hE), fun E hE F hF hn => va_Nc.moved (by rw [hv]; exact Vm.Alike.refl U.vm) (h.2.2 E hE F hF hn)⟩
  obtain ⟨sa, q⟩ := h.1 x hx
  exact ⟨sa, vk_R.same hv.symm q⟩
theorem KX.warm {A : Nat → Prop} {s U : State} {H : Heap} (hW : s.WarmedH U.vm) (h : KX A s H) : KX A U H := ⟨h.1.moved hW.alike, h.2.1.moved hW.alike, h.2.2.warm hW⟩
theorem KX.calling {A : Nat → Prop} {U : State} {g : JFrame} {mk : MethodId} {a : Array Value} {H : Heap} (h : KX A U H) : KX A (U.calling g mk a) H :=
  ⟨vx_Zq.moved (u := U) (U := U.calling g mk a) (Vm.Alike.refl U.vm) h.1, vx_Zq.moved (u := U) (U := U.calling g mk a) (Vm.Alike.refl U.vm) h.2.1, XS.same (s := U) rfl h.2.2⟩
theorem KX.kept {A : Nat → Prop} {U : State} {H H1 : Heap} (h : KX A U H) (hq : ∀ a : Nat, a < H.size → ¬ A a → H1[a]? = H[a]?) : KX A U H1 := ⟨h.1.kept hq, h.2.1.kept hq, h.2.2⟩
theorem KX.narrow {A B : Nat → Prop} {U : State} {H : Heap} (h : KX A U H) (hAB : ∀ q, B q → A q) : KX B U H := ⟨h.1.narrow hAB, h.2.1.narrow hAB, h.2.2⟩
def XCe (E0 : String) : String → State → State → Prop := vx_X (fun _ : Unit => True) (fun E _ _ => E = E0) FF0
theorem z_metX {l : Launch} {G : GG} {y : MethodName} {ws ws' : List Cond} {rm : Room} {av : List Value} {P : Heap → Prop} {XC : String → State → State → Prop} {mc ms : Nat} {free : Addr → Prop} {cc : ByteArray} {maxL : Nat} {ret : Option FieldType}
    (hy : plainName y.cls = true) (hw : ws = Cond.code y cc maxL ret :: ws') (hlen : (lg_sl av).length ≤ maxL)
    (body : ∀ (p : Program) (e : Env) (s : State) (m : MethodId) (below : List Frame) (meth : Method) (c : Code), (p.tables.exec = Jvm.exec ∧ c.code = cc) → c.maxLocals = maxL → s.vm.findClass y.cls = some m.cls → (∀ w ∈ ws, w.before av.toArray s = true) → meth.locks = false → (∀ x ∈ c.exceptionTable.toList, False) → P s.heap → KK G s → KX FF0 s s.heap → ∀ ls, lv_has ls maxL (lv_args 0 av) →
      W p l e rm s m av.toArray below meth c s.heap [] 0 0 (vx_MQ below (fun _ _ _ _ => False) XC av.toArray s mc ms free) (F0 m 0 ls [])) : vx_Met l y ws rm (va_Pc av (fun U => P U.heap ∧ KK G U ∧ KX FF0 U U.heap)) (fun _ _ _ _ => False) XC mc ms free := by
  refine vx_ofW (cc := cc) (maxL := maxL) (ret := ret) hy hw ?_
  intro p e s m args below meth c s₁ B hml ht hv
  obtain ⟨rfl, hP, hK, hX⟩ := hv
  have hl := lv_entry av (n := maxL) hlen
  rw [lg_entry_eq]
  exact body p e s m below meth c ⟨B.exec, B.bytes⟩ hml (findClass_of_methodNamed B.named) (atoms_spec (ws := ws) B.pre) B.notSynchronized ht hP hK hX _ hl
theorem z_preVX {s : State} {H : Heap} {C : String} {b : Addr} {As : List Value} {G : GG} {P : Heap → Prop} (hr : ∃ cell : Cell, H[b]? = some cell ∧ cell.vm.isStatics = false ∧ s.vm.findClass C = some cell.cls) (hP : P H) (hK : KK G s) (hX : KX FF0 s H) : PreV s H C b (va_Pc (Value.ref b :: As) (fun U => P U.heap ∧ KK G U ∧ KX FF0 U U.heap)) As :=
  ⟨fun a U g mk q => ⟨q.1, q.2.1, KK.calling q.2.2.1, KX.calling q.2.2.2⟩, hr, fun U hU hW => ⟨rfl, by rw [hU]; exact hP, KK.warm hW hK, by rw [hU]; exact KX.warm hW hX⟩⟩
theorem z_preSX {s : State} {H : Heap} {As : List Value} {G : GG} {P : Heap → Prop} (hP : P H) (hK : KK G s) (hX : KX FF0 s H) : PreS s H (va_Pc As (fun U => P U.heap ∧ KK G U ∧ KX FF0 U U.heap)) As :=
  ⟨fun a U g mk q => ⟨q.1, q.2.1, KK.calling q.2.2.1, KX.calling q.2.2.2⟩, fun U hU hW => ⟨rfl, by rw [hU]; exact hP, KK.warm hW hK, by rw [hU]; exact KX.warm hW hX⟩⟩
section ZX
variable {p : Program} {l : Launch} {e : Env} {R : Room} {s : State} {m : MethodId} {args : Array Value} {below : List Frame} {meth : Method} {c : Code} {cc : ByteArray} {pc : Nat} {ls : Array Slot} {rest st0 : List Value} {G : GG} {Qc : Array Value → State → Outcome → State → Prop}
/-- a call that throws, with no handler here: it goes on -/
theorem z_badRun {E0 E1 : String} {a : Array Value} (hr : vx_Run p l e R s m args below meth c s.heap [] 0 0 1 6 (F0 m pc ls st0) rest ((fun _ _ _ _ => False : Array Value → State → Outcome → State → Prop) a) (XCe E1) FF0) (hE : E1 = E0) (ht : ∀ x ∈ c.exceptionTable.toList, False) (hlocks : meth.locks = false) :
    W p l e R s m args below meth c s.heap [] 0 0 (vx_MQ below Qc (XCe E0) args s 1 6 FF0) (F0 m pc ls st0) := by
  intro T hT X
  rcases hr T hT X with ⟨v, st₀, t, T', L, h0, X', hL, e1, e2, hq, st⟩ | ⟨q, st₀, t, T', L, E, ce, h0, X', hL, e1, e2, ⟨u, hp, hb, hF⟩, hce, hcv, hcl, st⟩
  · exact hq.elim
  · have k := vx_out (p := p) (l := l) (e := e) (R := R) (s := s) (m := m) (args := args) (below := below) (meth := meth) (c := c) (H := T'.heap) (locs := [] ++ L) (cells := 0 + 1) (slots := 0 + 6) (mc := 1) (ms := 6) (free := FF0) (Qc := Qc) (XC := XCe E0) (pc := pc) (ls := ls) (rest := rest) (E := E) (ce := ce) (q := q) (fun x hx => (ht x hx).elim) hlocks (by rw [e1]; exact hce) hcv hcl
      (fun t1 ht1 _ => by
        refine ⟨(), trivial, ?_, ?_⟩
        · have hb : E = E1 := hb
          rw [hb]; exact hE
        · obtain ⟨hz, hk⟩ := hF
          rw [h0] at hz hk
          refine ⟨?_, fun q9 h1 h2 => ?_⟩
          · rw [ht1, e1]; exact hz
          · rw [ht1, e1]; exact hk q9 h1 h2) (fun z hz => hL z (by simpa using hz)) (Nat.le_refl _) (Nat.le_refl _)
    obtain ⟨t2, a1, b1⟩ := k T' rfl X'
    exact ⟨t2, st.trans a1, b1⟩
theorem z_badV (E : p.tables.exec = Jvm.exec ∧ c.code = cc) {nL : Nat} (hml : c.maxLocals = nL) {own : String} (hown : s.vm.findClass own = some m.cls) {Ts : List Cond} (hts : ∀ w ∈ Ts, w.before args s = true) {y : MethodName} {ws : List Cond} {rm : Room} {bytes : ByteArray} {maxL n index : Nat} {ret : Option FieldType} {P : Heap → Prop} {As : List Value} {C : String} {b : Addr} {E0 E1 : String}
    (hM : vx_Met l y ws rm (va_Pc (.ref b :: As) (fun U => P U.heap ∧ KK G U ∧ KX FF0 U U.heap)) (fun _ _ _ _ => False) (XCe E1) 1 6 FF0) (cw : CallW R s args own C index y bytes maxL ret ws rm 1 6 n) (hv : ∃ cell : Cell, s.heap[b]? = some cell ∧ cell.vm.isStatics = false ∧ s.vm.findClass C = some cell.cls) (hP : P s.heap) (hK : KK G s) (hX : KX FF0 s s.heap) (hn : As.length = n) (hsz : ls.size = nL) (hst : st0 = As.reverse ++ .ref b :: rest)
    (d : decode cc pc = .ok (.invokevirtual index, 3)) (hf : 0 + 1 ≤ R.cells ∧ 0 + 6 ≤ R.slots) (hW : (rest.map fun v => v.category).sum ≤ 8) (hE : E1 = E0) (ht : ∀ x ∈ c.exceptionTable.toList, False) (hlocks : meth.locks = false) :
    W p l e R s m args below meth c s.heap [] 0 0 (vx_MQ below Qc (XCe E0) args s 1 6 FF0) (F0 m pc ls st0) :=
  z_badRun (a := (Value.ref b :: As).toArray) (vx_runV ⟨E.1, E.2, hml, hown, hts⟩ hM cw (z_preVX hv hP hK hX) rfl hn hsz hst (lv_room hW) d hf) hE ht hlocks
theorem z_badS (E : p.tables.exec = Jvm.exec ∧ c.code = cc) {nL : Nat} (hml : c.maxLocals = nL) {own : String} (hown : s.vm.findClass own = some m.cls) {Ts : List Cond} (hts : ∀ w ∈ Ts, w.before args s = true) {y : MethodName} {ws : List Cond} {rm : Room} {bytes : ByteArray} {maxL n index : Nat} {ret : Option FieldType} {P : Heap → Prop} {As : List Value} {E0 E1 : String}
    (hM : vx_Met l y ws rm (va_Pc As (fun U => P U.heap ∧ KK G U ∧ KX FF0 U U.heap)) (fun _ _ _ _ => False) (XCe E1) 1 6 FF0) (cw : CallB R s args own index y bytes maxL ret ws rm 1 6 n ∧ (Cond.static y).before args s = true) (hP : P s.heap) (hK : KK G s) (hX : KX FF0 s s.heap) (hn : As.length = n) (hsz : ls.size = nL) (hst : st0 = As.reverse ++ rest)
    (d : decode cc pc = .ok (.invokestatic index, 3)) (hf : 0 + 1 ≤ R.cells ∧ 0 + 6 ≤ R.slots) (hW : (rest.map fun v => v.category).sum ≤ 8) (hE : E1 = E0) (ht : ∀ x ∈ c.exceptionTable.toList, False) (hlocks : meth.locks = false) :
    W p l e R s m args below meth c s.heap [] 0 0 (vx_MQ below Qc (XCe E0) args s 1 6 FF0) (F0 m pc ls st0) :=
  z_badRun (a := As.toArray) (vx_runS ⟨E.1, E.2, hml, hown, hts⟩ hM cw (z_preSX hP hK hX) rfl hn hsz hst (lv_room hW) d hf) hE ht hlocks
theorem vg_xI : ∀ w ∈ Cond.classLink RX7 393 "java/lang/IndexOutOfBoundsException" :: Cond.initialized "java/lang/IndexOutOfBoundsException" :: (vx_atS RX7 397 "java/lang/IndexOutOfBoundsException" ["java/lang/RuntimeException", "java/lang/Exception"]), vx_ot w = true := by
  have h : (Cond.classLink RX7 393 "java/lang/IndexOutOfBoundsException" :: Cond.initialized "java/lang/IndexOutOfBoundsException" :: (vx_atS RX7 397 "java/lang/IndexOutOfBoundsException" ["java/lang/RuntimeException", "java/lang/Exception"])).all vx_ot = true := by decide +kernel
  exact List.all_eq_true.mp h
theorem vb_xI : ∀ w ∈ (vx_atS RX7 397 "java/lang/IndexOutOfBoundsException" ["java/lang/RuntimeException", "java/lang/Exception"]).filter (fun w => !goodWord w), w ∈ WXL := by
  have h : ((vx_atS RX7 397 "java/lang/IndexOutOfBoundsException" ["java/lang/RuntimeException", "java/lang/Exception"]).filter (fun w => !goodWord w)).all (fun w => decide (w ∈ WXL)) = true := by decide +kernel
  exact fun w hw => of_decide_eq_true (List.all_eq_true.mp h w hw)
theorem z_thrS_xI (E : p.tables.exec = Jvm.exec ∧ c.code = cc) (hst : l.stackTraces = false) (hown : s.vm.findClass RX7 = some m.cls) {is : Nat} {text : String} (hk : (Cond.classLink RX7 393 "java/lang/IndexOutOfBoundsException").before args s = true) (hini : (Cond.initialized "java/lang/IndexOutOfBoundsException").before args s = true) (hat : ∀ w ∈ (vx_atS RX7 397 "java/lang/IndexOutOfBoundsException" ["java/lang/RuntimeException", "java/lang/Exception"]).filter goodWord, w.before args s = true) (hX : KX FF0 s s.heap) (hi : (is, text) ∈ SXL) (hsize : ls.size = c.maxLocals)
    (d0 : decode cc pc = .ok (.new 393, 3)) (d3 : decode cc (pc + 3) = .ok (.dup, 1)) (d4 : decode cc (pc + 4) = .ok (.ldc is, 2)) (d6 : decode cc (pc + 6) = .ok (.invokespecial 397, 3)) (d9 : decode cc (pc + 9) = .ok (.athrow, 1)) (ht : ∀ x ∈ c.exceptionTable.toList, False)
    (hRf : 5 < R.frames) (hRl : (rest.map fun v => v.category).sum + 82 ≤ R.locals) (hRc : 0 + 1 ≤ R.cells) (hRs : 0 + 6 ≤ R.slots) (hlocks : meth.locks = false) {E0 : String} (hE : "java/lang/IndexOutOfBoundsException" = E0) :
    W p l e R s m args below meth c s.heap [] 0 0 (vx_MQ below Qc (XCe E0) args s 1 6 FF0) (F0 m pc ls rest) := by
  obtain ⟨sa, hs⟩ := hX.2.2.1 _ hi
  have hc : ∀ w ∈ WXL, w.before args s = true := fun w hw => va_tabs (u := s) (List.all_eq_true.mp (show WXL.all Cond.onTables = true by decide +kernel) w hw) rfl (hX.2.2.2.1 w hw)
  exact vx_throwS (names := ["java/lang/RuntimeException", "java/lang/Exception"]) (mc := 1) (ms := 6) (A := FF0) E.1 E.2 hst hown (by decide) (by decide) hk hini hs (vx_hat hat vb_xI hc) vg_xI hX.1 hX.2.1 va_S.rf hsize d0 d3 d4 d6 d9 (fun x hx => (ht x hx).elim) hRf hRl hRc hRs hlocks (fun t _ hz hk9 => ⟨(), trivial, hE, hz, fun q h1 _ => hk9 q h1⟩) (fun z hz => absurd hz List.not_mem_nil) (Nat.le_refl _) (Nat.le_refl _)
theorem z_thrW_xI (E : p.tables.exec = Jvm.exec ∧ c.code = cc) (hst : l.stackTraces = false) (hown : s.vm.findClass RX7 = some m.cls) {is : Nat} {text : String} (hk : (Cond.classLink RX7 393 "java/lang/IndexOutOfBoundsException").before args s = true) (hini : (Cond.initialized "java/lang/IndexOutOfBoundsException").before args s = true) (hat : ∀ w ∈ (vx_atS RX7 397 "java/lang/IndexOutOfBoundsException" ["java/lang/RuntimeException", "java/lang/Exception"]).filter goodWord, w.before args s = true) (hX : KX FF0 s s.heap) (hi : (is, text) ∈ SXL) (hsize : ls.size = c.maxLocals)
    (d0 : decode cc pc = .ok (.new 393, 3)) (d3 : decode cc (pc + 3) = .ok (.dup, 1)) (d4 : decode cc (pc + 4) = .ok (.ldc_w is, 3)) (d6 : decode cc (pc + 7) = .ok (.invokespecial 397, 3)) (d9 : decode cc (pc + 10) = .ok (.athrow, 1)) (ht : ∀ x ∈ c.exceptionTable.toList, False)
    (hRf : 5 < R.frames) (hRl : (rest.map fun v => v.category).sum + 82 ≤ R.locals) (hRc : 0 + 1 ≤ R.cells) (hRs : 0 + 6 ≤ R.slots) (hlocks : meth.locks = false) {E0 : String} (hE : "java/lang/IndexOutOfBoundsException" = E0) :
    W p l e R s m args below meth c s.heap [] 0 0 (vx_MQ below Qc (XCe E0) args s 1 6 FF0) (F0 m pc ls rest) := by
  obtain ⟨sa, hs⟩ := hX.2.2.1 _ hi
  have hc : ∀ w ∈ WXL, w.before args s = true := fun w hw => va_tabs (u := s) (List.all_eq_true.mp (show WXL.all Cond.onTables = true by decide +kernel) w hw) rfl (hX.2.2.2.1 w hw)
  exact vx_throwSW (names := ["java/lang/RuntimeException", "java/lang/Exception"]) (mc := 1) (ms := 6) (A := FF0) E.1 E.2 hst hown (by decide) (by decide) hk hini hs (vx_hat hat vb_xI hc) vg_xI hX.1 hX.2.1 va_S.rf hsize d0 d3 d4 d6 d9 (fun x hx => (ht x hx).elim) hRf hRl hRc hRs hlocks (fun t _ hz hk9 => ⟨(), trivial, hE, hz, fun q h1 _ => hk9 q h1⟩) (fun z hz => absurd hz List.not_mem_nil) (Nat.le_refl _) (Nat.le_refl _)
theorem vg_xA : ∀ w ∈ Cond.classLink RX7 123 "java/lang/IllegalArgumentException" :: Cond.initialized "java/lang/IllegalArgumentException" :: (vx_atS RX7 127 "java/lang/IllegalArgumentException" ["java/lang/RuntimeException", "java/lang/Exception"]), vx_ot w = true := by
  have h : (Cond.classLink RX7 123 "java/lang/IllegalArgumentException" :: Cond.initialized "java/lang/IllegalArgumentException" :: (vx_atS RX7 127 "java/lang/IllegalArgumentException" ["java/lang/RuntimeException", "java/lang/Exception"])).all vx_ot = true := by decide +kernel
  exact List.all_eq_true.mp h
theorem vb_xA : ∀ w ∈ (vx_atS RX7 127 "java/lang/IllegalArgumentException" ["java/lang/RuntimeException", "java/lang/Exception"]).filter (fun w => !goodWord w), w ∈ WXL := by
  have h : ((vx_atS RX7 127 "java/lang/IllegalArgumentException" ["java/lang/RuntimeException", "java/lang/Exception"]).filter (fun w => !goodWord w)).all (fun w => decide (w ∈ WXL)) = true := by decide +kernel
  exact fun w hw => of_decide_eq_true (List.all_eq_true.mp h w hw)
theorem z_thrS_xA (E : p.tables.exec = Jvm.exec ∧ c.code = cc) (hst : l.stackTraces = false) (hown : s.vm.findClass RX7 = some m.cls) {is : Nat} {text : String} (hk : (Cond.classLink RX7 123 "java/lang/IllegalArgumentException").before args s = true) (hini : (Cond.initialized "java/lang/IllegalArgumentException").before args s = true) (hat : ∀ w ∈ (vx_atS RX7 127 "java/lang/IllegalArgumentException" ["java/lang/RuntimeException", "java/lang/Exception"]).filter goodWord, w.before args s = true) (hX : KX FF0 s s.heap) (hi : (is, text) ∈ SXL) (hsize : ls.size = c.maxLocals)
    (d0 : decode cc pc = .ok (.new 123, 3)) (d3 : decode cc (pc + 3) = .ok (.dup, 1)) (d4 : decode cc (pc + 4) = .ok (.ldc is, 2)) (d6 : decode cc (pc + 6) = .ok (.invokespecial 127, 3)) (d9 : decode cc (pc + 9) = .ok (.athrow, 1)) (ht : ∀ x ∈ c.exceptionTable.toList, False)
    (hRf : 5 < R.frames) (hRl : (rest.map fun v => v.category).sum + 82 ≤ R.locals) (hRc : 0 + 1 ≤ R.cells) (hRs : 0 + 6 ≤ R.slots) (hlocks : meth.locks = false) {E0 : String} (hE : "java/lang/IllegalArgumentException" = E0) :
    W p l e R s m args below meth c s.heap [] 0 0 (vx_MQ below Qc (XCe E0) args s 1 6 FF0) (F0 m pc ls rest) := by
  obtain ⟨sa, hs⟩ := hX.2.2.1 _ hi
  have hc : ∀ w ∈ WXL, w.before args s = true := fun w hw => va_tabs (u := s) (List.all_eq_true.mp (show WXL.all Cond.onTables = true by decide +kernel) w hw) rfl (hX.2.2.2.1 w hw)
  exact vx_throwS (names := ["java/lang/RuntimeException", "java/lang/Exception"]) (mc := 1) (ms := 6) (A := FF0) E.1 E.2 hst hown (by decide) (by decide) hk hini hs (vx_hat hat vb_xA hc) vg_xA hX.1 hX.2.1 va_S.rf hsize d0 d3 d4 d6 d9 (fun x hx => (ht x hx).elim) hRf hRl hRc hRs hlocks (fun t _ hz hk9 => ⟨(), trivial, hE, hz, fun q h1 _ => hk9 q h1⟩) (fun z hz => absurd hz List.not_mem_nil) (Nat.le_refl _) (Nat.le_refl _)
theorem z_thrW_xA (E : p.tables.exec = Jvm.exec ∧ c.code = cc) (hst : l.stackTraces = false) (hown : s.vm.findClass RX7 = some m.cls) {is : Nat} {text : String} (hk : (Cond.classLink RX7 123 "java/lang/IllegalArgumentException").before args s = true) (hini : (Cond.initialized "java/lang/IllegalArgumentException").before args s = true) (hat : ∀ w ∈ (vx_atS RX7 127 "java/lang/IllegalArgumentException" ["java/lang/RuntimeException", "java/lang/Exception"]).filter goodWord, w.before args s = true) (hX : KX FF0 s s.heap) (hi : (is, text) ∈ SXL) (hsize : ls.size = c.maxLocals)
    (d0 : decode cc pc = .ok (.new 123, 3)) (d3 : decode cc (pc + 3) = .ok (.dup, 1)) (d4 : decode cc (pc + 4) = .ok (.ldc_w is, 3)) (d6 : decode cc (pc + 7) = .ok (.invokespecial 127, 3)) (d9 : decode cc (pc + 10) = .ok (.athrow, 1)) (ht : ∀ x ∈ c.exceptionTable.toList, False)
    (hRf : 5 < R.frames) (hRl : (rest.map fun v => v.category).sum + 82 ≤ R.locals) (hRc : 0 + 1 ≤ R.cells) (hRs : 0 + 6 ≤ R.slots) (hlocks : meth.locks = false) {E0 : String} (hE : "java/lang/IllegalArgumentException" = E0) :
    W p l e R s m args below meth c s.heap [] 0 0 (vx_MQ below Qc (XCe E0) args s 1 6 FF0) (F0 m pc ls rest) := by
  obtain ⟨sa, hs⟩ := hX.2.2.1 _ hi
  have hc : ∀ w ∈ WXL, w.before args s = true := fun w hw => va_tabs (u := s) (List.all_eq_true.mp (show WXL.all Cond.onTables = true by decide +kernel) w hw) rfl (hX.2.2.2.1 w hw)
  exact vx_throwSW (names := ["java/lang/RuntimeException", "java/lang/Exception"]) (mc := 1) (ms := 6) (A := FF0) E.1 E.2 hst hown (by decide) (by decide) hk hini hs (vx_hat hat vb_xA hc) vg_xA hX.1 hX.2.1 va_S.rf hsize d0 d3 d4 d6 d9 (fun x hx => (ht x hx).elim) hRf hRl hRc hRs hlocks (fun t _ hz hk9 => ⟨(), trivial, hE, hz, fun q h1 _ => hk9 q h1⟩) (fun z hz => absurd hz List.not_mem_nil) (Nat.le_refl _) (Nat.le_refl _)
theorem vg_xS : ∀ w ∈ Cond.classLink RX7 43 "java/lang/IllegalStateException" :: Cond.initialized "java/lang/IllegalStateException" :: (vx_atS RX7 47 "java/lang/IllegalStateException" ["java/lang/RuntimeException", "java/lang/Exception"]), vx_ot w = true := by
  have h : (Cond.classLink RX7 43 "java/lang/IllegalStateException" :: Cond.initialized "java/lang/IllegalStateException" :: (vx_atS RX7 47 "java/lang/IllegalStateException" ["java/lang/RuntimeException", "java/lang/Exception"])).all vx_ot = true := by decide +kernel
  exact List.all_eq_true.mp h
theorem vb_xS : ∀ w ∈ (vx_atS RX7 47 "java/lang/IllegalStateException" ["java/lang/RuntimeException", "java/lang/Exception"]).filter (fun w => !goodWord w), w ∈ WXL := by
  have h : ((vx_atS RX7 47 "java/lang/IllegalStateException" ["java/lang/RuntimeException", "java/lang/Exception"]).filter (fun w => !goodWord w)).all (fun w => decide (w ∈ WXL)) = true := by decide +kernel
  exact fun w hw => of_decide_eq_true (List.all_eq_true.mp h w hw)
theorem z_thrS_xS (E : p.tables.exec = Jvm.exec ∧ c.code = cc) (hst : l.stackTraces = false) (hown : s.vm.findClass RX7 = some m.cls) {is : Nat} {text : String} (hk : (Cond.classLink RX7 43 "java/lang/IllegalStateException").before args s = true) (hini : (Cond.initialized "java/lang/IllegalStateException").before args s = true) (hat : ∀ w ∈ (vx_atS RX7 47 "java/lang/IllegalStateException" ["java/lang/RuntimeException", "java/lang/Exception"]).filter goodWord, w.before args s = true) (hX : KX FF0 s s.heap) (hi : (is, text) ∈ SXL) (hsize : ls.size = c.maxLocals)
    (d0 : decode cc pc = .ok (.new 43, 3)) (d3 : decode cc (pc + 3) = .ok (.dup, 1)) (d4 : decode cc (pc + 4) = .ok (.ldc is, 2)) (d6 : decode cc (pc + 6) = .ok (.invokespecial 47, 3)) (d9 : decode cc (pc + 9) = .ok (.athrow, 1)) (ht : ∀ x ∈ c.exceptionTable.toList, False)
    (hRf : 5 < R.frames) (hRl : (rest.map fun v => v.category).sum + 82 ≤ R.locals) (hRc : 0 + 1 ≤ R.cells) (hRs : 0 + 6 ≤ R.slots) (hlocks : meth.locks = false) {E0 : String} (hE : "java/lang/IllegalStateException" = E0) :
    W p l e R s m args below meth c s.heap [] 0 0 (vx_MQ below Qc (XCe E0) args s 1 6 FF0) (F0 m pc ls rest) := by
  obtain ⟨sa, hs⟩ := hX.2.2.1 _ hi
  have hc : ∀ w ∈ WXL, w.before args s = true := fun w hw => va_tabs (u := s) (List.all_eq_true.mp (show WXL.all Cond.onTables = true by decide +kernel) w hw) rfl (hX.2.2.2.1 w hw)
  exact vx_throwS (names := ["java/lang/RuntimeException", "java/lang/Exception"]) (mc := 1) (ms := 6) (A := FF0) E.1 E.2 hst hown (by decide) (by decide) hk hini hs (vx_hat hat vb_xS hc) vg_xS hX.1 hX.2.1 va_S.rf hsize d0 d3 d4 d6 d9 (fun x hx => (ht x hx).elim) hRf hRl hRc hRs hlocks (fun t _ hz hk9 => ⟨(), trivial, hE, hz, fun q h1 _ => hk9 q h1⟩) (fun z hz => absurd hz List.not_mem_nil) (Nat.le_refl _) (Nat.le_refl _)
theorem z_thrW_xS (E : p.tables.exec = Jvm.exec ∧ c.code = cc) (hst : l.stackTraces = false) (hown : s.vm.findClass RX7 = some m.cls) {is : Nat} {text : String} (hk : (Cond.classLink RX7 43 "java/lang/IllegalStateException").before args s = true) (hini : (Cond.initialized "java/lang/IllegalStateException").before args s = true) (hat : ∀ w ∈ (vx_atS RX7 47 "java/lang/IllegalStateException" ["java/lang/RuntimeException", "java/lang/Exception"]).filter goodWord, w.before args s = true) (hX : KX FF0 s s.heap) (hi : (is, text) ∈ SXL) (hsize : ls.size = c.maxLocals)
    (d0 : decode cc pc = .ok (.new 43, 3)) (d3 : decode cc (pc + 3) = .ok (.dup, 1)) (d4 : decode cc (pc + 4) = .ok (.ldc_w is, 3)) (d6 : decode cc (pc + 7) = .ok (.invokespecial 47, 3)) (d9 : decode cc (pc + 10) = .ok (.athrow, 1)) (ht : ∀ x ∈ c.exceptionTable.toList, False)
    (hRf : 5 < R.frames) (hRl : (rest.map fun v => v.category).sum + 82 ≤ R.locals) (hRc : 0 + 1 ≤ R.cells) (hRs : 0 + 6 ≤ R.slots) (hlocks : meth.locks = false) {E0 : String} (hE : "java/lang/IllegalStateException" = E0) :
    W p l e R s m args below meth c s.heap [] 0 0 (vx_MQ below Qc (XCe E0) args s 1 6 FF0) (F0 m pc ls rest) := by
  obtain ⟨sa, hs⟩ := hX.2.2.1 _ hi
  have hc : ∀ w ∈ WXL, w.before args s = true := fun w hw => va_tabs (u := s) (List.all_eq_true.mp (show WXL.all Cond.onTables = true by decide +kernel) w hw) rfl (hX.2.2.2.1 w hw)
  exact vx_throwSW (names := ["java/lang/RuntimeException", "java/lang/Exception"]) (mc := 1) (ms := 6) (A := FF0) E.1 E.2 hst hown (by decide) (by decide) hk hini hs (vx_hat hat vb_xS hc) vg_xS hX.1 hX.2.1 va_S.rf hsize d0 d3 d4 d6 d9 (fun x hx => (ht x hx).elim) hRf hRl hRc hRs hlocks (fun t _ hz hk9 => ⟨(), trivial, hE, hz, fun q h1 _ => hk9 q h1⟩) (fun z hz => absurd hz List.not_mem_nil) (Nat.le_refl _) (Nat.le_refl _)
theorem vg_xN : ∀ w ∈ Cond.classLink RX7 168 "java/util/NoSuchElementException" :: Cond.initialized "java/util/NoSuchElementException" :: (vx_atN), vx_ot w = true := by
  have h : (Cond.classLink RX7 168 "java/util/NoSuchElementException" :: Cond.initialized "java/util/NoSuchElementException" :: (vx_atN)).all vx_ot = true := by decide +kernel
  exact List.all_eq_true.mp h
theorem vb_xN : ∀ w ∈ (vx_atN).filter (fun w => !goodWord w), w ∈ WXL := by
  have h : ((vx_atN).filter (fun w => !goodWord w)).all (fun w => decide (w ∈ WXL)) = true := by decide +kernel
  exact fun w hw => of_decide_eq_true (List.all_eq_true.mp h w hw)
theorem z_thrS_xN (E : p.tables.exec = Jvm.exec ∧ c.code = cc) (hst : l.stackTraces = false) (hown : s.vm.findClass RX7 = some m.cls) {is : Nat} {text : String} (hk : (Cond.classLink RX7 168 "java/util/NoSuchElementException").before args s = true) (hini : (Cond.initialized "java/util/NoSuchElementException").before args s = true) (hat : ∀ w ∈ (vx_atN).filter goodWord, w.before args s = true) (hX : KX FF0 s s.heap) (hi : (is, text) ∈ SXL) (hsize : ls.size = c.maxLocals)
    (d0 : decode cc pc = .ok (.new 168, 3)) (d3 : decode cc (pc + 3) = .ok (.dup, 1)) (d4 : decode cc (pc + 4) = .ok (.ldc is, 2)) (d6 : decode cc (pc + 6) = .ok (.invokespecial 172, 3)) (d9 : decode cc (pc + 9) = .ok (.athrow, 1)) (ht : ∀ x ∈ c.exceptionTable.toList, False)
    (hRf : 5 < R.frames) (hRl : (rest.map fun v => v.category).sum + 82 ≤ R.locals) (hRc : 0 + 1 ≤ R.cells) (hRs : 0 + 6 ≤ R.slots) (hlocks : meth.locks = false) {E0 : String} (hE : "java/util/NoSuchElementException" = E0) :
    W p l e R s m args below meth c s.heap [] 0 0 (vx_MQ below Qc (XCe E0) args s 1 6 FF0) (F0 m pc ls rest) := by
  obtain ⟨sa, hs⟩ := hX.2.2.1 _ hi
  have hc : ∀ w ∈ WXL, w.before args s = true := fun w hw => va_tabs (u := s) (List.all_eq_true.mp (show WXL.all Cond.onTables = true by decide +kernel) w hw) rfl (hX.2.2.2.1 w hw)
  exact nx_throwS (mc := 1) (ms := 6) (A := FF0) E.1 E.2 hst hown hk hini hs (vx_hat hat vb_xN hc) vg_xN hX.1 hX.2.1 va_S.rf hsize d0 d3 d4 d6 d9 (fun x hx => (ht x hx).elim) hRf hRl hRc hRs hlocks (fun t _ hz hk9 => ⟨(), trivial, hE, hz, fun q h1 _ => hk9 q h1⟩) (fun z hz => absurd hz List.not_mem_nil) (Nat.le_refl _) (Nat.le_refl _)
theorem z_thrW_xN (E : p.tables.exec = Jvm.exec ∧ c.code = cc) (hst : l.stackTraces = false) (hown : s.vm.findClass RX7 = some m.cls) {is : Nat} {text : String} (hk : (Cond.classLink RX7 168 "java/util/NoSuchElementException").before args s = true) (hini : (Cond.initialized "java/util/NoSuchElementException").before args s = true) (hat : ∀ w ∈ (vx_atN).filter goodWord, w.before args s = true) (hX : KX FF0 s s.heap) (hi : (is, text) ∈ SXL) (hsize : ls.size = c.maxLocals)
    (d0 : decode cc pc = .ok (.new 168, 3)) (d3 : decode cc (pc + 3) = .ok (.dup, 1)) (d4 : decode cc (pc + 4) = .ok (.ldc_w is, 3)) (d6 : decode cc (pc + 7) = .ok (.invokespecial 172, 3)) (d9 : decode cc (pc + 10) = .ok (.athrow, 1)) (ht : ∀ x ∈ c.exceptionTable.toList, False)
    (hRf : 5 < R.frames) (hRl : (rest.map fun v => v.category).sum + 82 ≤ R.locals) (hRc : 0 + 1 ≤ R.cells) (hRs : 0 + 6 ≤ R.slots) (hlocks : meth.locks = false) {E0 : String} (hE : "java/util/NoSuchElementException" = E0) :
    W p l e R s m args below meth c s.heap [] 0 0 (vx_MQ below Qc (XCe E0) args s 1 6 FF0) (F0 m pc ls rest) := by
  obtain ⟨sa, hs⟩ := hX.2.2.1 _ hi
  have hc : ∀ w ∈ WXL, w.before args s = true := fun w hw => va_tabs (u := s) (List.all_eq_true.mp (show WXL.all Cond.onTables = true by decide +kernel) w hw) rfl (hX.2.2.2.1 w hw)
  exact nx_throwW (mc := 1) (ms := 6) (A := FF0) E.1 E.2 hst hown hk hini hs (vx_hat hat vb_xN hc) vg_xN hX.1 hX.2.1 va_S.rf hsize d0 d3 d4 d6 d9 (fun x hx => (ht x hx).elim) hRf hRl hRc hRs hlocks (fun t _ hz hk9 => ⟨(), trivial, hE, hz, fun q h1 _ => hk9 q h1⟩) (fun z hz => absurd hz List.not_mem_nil) (Nat.le_refl _) (Nat.le_refl _)
end ZX
