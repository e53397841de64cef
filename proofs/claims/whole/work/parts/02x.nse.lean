/-! a throw of NoSuchElementException, whose constructor of a text hands it on by its constant 13 (the library's law, Stand.ctorThrowS, knows 7 alone; this one stands on the same laws of the library) -/

def nxX : String := "java/util/NoSuchElementException"

def nxY : String := "java/lang/RuntimeException"
def nxR : ByteArray := ⟨#[0x2a, 0x2b, 0xb7, 0x00, 0x0d, 0xb1]⟩
/-- the words of such a throw in the class QuotaTree -/
def nxW : List Cond := (Bundle.ownAtoms "QuotaTree" 172 nxX [nxY, "java/lang/Exception"]).filter (fun w => decide (w ≠ .code (Bundle.initS nxX) Bundle.six 2 none) && decide (w ≠ .methodLink nxX 7 (Bundle.initS nxY))) ++ [.code (Bundle.initS nxX) nxR 2 none, .methodLink nxX 13 (Bundle.initS nxY)]
def vx_atN : List Cond := nxW.filter vx_no
section NXC
variable {p : Program} {l : Launch} {e : Env} {R : Room} {s : State} {m : MethodId} {args : Array Value} {below : List Frame} {meth : Method} {c : Code} {T0 : State} {locs : List Loc} {cells slots : Nat}
set_option maxRecDepth 20000 in
theorem nx_sub1 : ∀ w ∈ Bundle.throwableAtoms, w ∈ nxW := by decide +kernel
set_option maxRecDepth 20000 in
theorem nx_sub2 : ∀ w ∈ Bundle.throwableSAtoms, w ∈ nxW := by decide +kernel
set_option maxRecDepth 20000 in
theorem nx_sub3 : ∀ w ∈ Bundle.passSAtoms nxX nxY 13 nxR, w ∈ nxW := by decide +kernel
set_option maxRecDepth 20000 in
theorem nx_sub4 : ∀ w ∈ Bundle.chainSAtoms nxY ["java/lang/Exception"], w ∈ nxW := by decide +kernel
/-- the words of its own, of its layout -/
def nxL : List Cond := [.methodLink "QuotaTree" 172 (Bundle.initS nxX), .instantiable nxX 6, .castable nxX nxX, .selects nxX Bundle.tFill0 Bundle.tFill0, .selects nxX Bundle.tFill Bundle.tFill, .lays nxX Bundle.tN "cause" "Ljava/lang/Throwable;", .lays nxX Bundle.tN "stackTrace" Bundle.steD, .lays nxX Bundle.tN "suppressedExceptions" Bundle.listD, .lays nxX Bundle.tN "detailMessage" "Ljava/lang/String;", .isRef (.static Bundle.tN "UNASSIGNED_STACK" Bundle.steD), .isRef (.static Bundle.tN "SUPPRESSED_SENTINEL" Bundle.listD), .fieldLink Bundle.tN 198 Bundle.tN "backtrace" "Ljava/lang/Object;", .lays Bundle.tN Bundle.tN "backtrace" "Ljava/lang/Object;", .lays nxX Bundle.tN "backtrace" "Ljava/lang/Object;"]
set_option maxRecDepth 20000 in
theorem nx_sub5 : ∀ w ∈ nxL, w ∈ nxW := by decide +kernel
theorem nx_d : decode nxR 0 = .ok (.aload_n 0, 1) ∧ decode nxR 1 = .ok (.aload_n 1, 1) ∧ decode nxR 2 = .ok (.invokespecial 13, 3) ∧ decode nxR 5 = .ok (.return_, 1) := by decide +kernel
set_option maxHeartbeats 1000000 in
theorem nx_ctor (X : Stand p l e R s m args below meth c T0 [] cells slots) (hexec : p.tables.exec = Jvm.exec) (htr : e.platform.stackTraces = false) (hown : s.vm.findClass "QuotaTree" = some m.cls) (h : ∀ w ∈ nxW, w.before args s = true)
    {a : Addr} {cX : ClassId} {kX : Class} (hfX : s.vm.findClass nxX = some cX) (hkX : s.vm.classes[cX]? = some kX) (hcell : T0.heap[a]? = some (freshCell cX kX)) (hnew : s.heap.size ≤ a) {msg : Value} (hmsg : msg.isRef = true)
    {g : JFrame} (hg : g.method = m) (hsize : g.locals.size = c.maxLocals) (hlocked : g.locked = none) (hent : g.entered = []) {rest : List Value} (hstack : g.stack = msg :: .ref a :: .ref a :: rest)
    (d6 : decode c.code g.pc = .ok (.invokespecial 172, 3)) (d9 : decode c.code (g.pc + 3) = .ok (.athrow, 1)) (hout : ∀ x ∈ c.exceptionTable.toList, covers x (g.pc + 3) = false)
    (hRf : 5 < R.frames) (hRl : 2 * g.monitorRoom + ((Value.ref a :: rest).map fun v => v.category).sum + 81 ≤ R.locals) (hlocks : meth.locks = false) :
    ∃ U : State, Steps p.tables e below (T0.setTop g) U ∧ U.status = .running ∧ Ended U below (.threw a) ∧ s.WarmedH U.vm ∧ s.sameButNew ({ U with vm := s.vm } : State) [] cells slots ∧ ∃ ce : Cell, U.heap[a]? = some ce ∧ ce.vm = .none ∧ s.vm.findClass nxX = some ce.cls := by
  have howns : e.platform.frameOwnsMonitors = true := by rw [X.admits.platform]
  have hfin : e.platform.finalization = false := by rw [X.admits.platform]
  have hpl : e.platform.magicAccessors = ({} : Platform).magicAccessors := by rw [X.admits.platform]
  have own : ∀ {w : Cond}, w ∈ nxL → w.holds args s none s [] = true := fun hw => h _ (nx_sub5 _ hw)
  -- Throwable, its first constructor, the chain up to it
  obtain ⟨T, Z0, L, -, Y⟩ := ThrowableC.of_atoms (args := args) howns hfin hpl (fun w hw => h w (nx_sub1 w hw))
  obtain ⟨Z, M, LZ, LM, hZ⟩ := Init0T.ofS_atoms (args := args) hpl L Y (fun w hw => h w (nx_sub2 w hw))
  obtain ⟨P0, L0, hP0, hup⟩ := PassC.ofS_atoms (args := args) (s := s) (X := nxX) (Y := nxY) hpl (by decide) (by decide) nx_d.1 nx_d.2.1 nx_d.2.2.1 nx_d.2.2.2 (fun w hw => h w (nx_sub3 w hw))
  obtain ⟨P1, Ps, hlen, L1, hLs, hP1, hsup, hon⟩ := Bundle.chainS (args := args) hpl hZ ["java/lang/Exception"] nxY (by decide) (by decide) (fun w hw => h w (nx_sub4 w hw))
  have hlen : Ps.length = 1 := hlen
  have hto : P0.sup = P1.m := Option.some.inj (hup.symm.trans hP1)
  have hcX : cX = P0.m.cls := Option.some.inj (hfX.symm.trans (findClass_of_methodNamed hP0))
  subst hcX
  obtain ⟨c1, k1, hc1, hk1, hord, -, -, hn6⟩ := Cond.instantiable_spec (own (w := .instantiable nxX 6) (List.mem_of_getElem? (i := 1) rfl))
  cases Option.some.inj (hc1.symm.trans hfX)
  cases Option.some.inj (hk1.symm.trans hkX)
  -- what a call on it selects
  have hsel : ∀ {y : MethodName} {t : MethodId}, Cond.selects nxX y y ∈ nxL → s.methodNamed? y = some t → (y.cls ≠ "java/lang/invoke/MethodHandle" ∧ y.cls ≠ "java/lang/invoke/VarHandle") → selectMethod e.platform s.vm P0.m.cls t = .method t := by
    intro y t hw hy hyn
    obtain ⟨c2, r2, m2, q1, q2, q3, q4, -⟩ := Cond.selects_spec (own hw)
    cases Option.some.inj (q1.symm.trans hfX)
    cases Option.some.inj (q2.symm.trans (State.methodFound?_of_named hy hyn))
    cases Option.some.inj (q3.symm.trans hy)
    rw [Launch.admits_selectMethod X.admits]
    exact q4
  -- the two statics of Throwable
  obtain ⟨cS, hcS, hiS⟩ := Y.statics
  obtain ⟨u0, hu0⟩ := Cond.staticRefV Y.unassigned L.unassignedStatic L.statics hcS hiS (own (w := .isRef (.static Bundle.tN "UNASSIGNED_STACK" Bundle.steD)) (List.mem_of_getElem? (i := 9) rfl))
  obtain ⟨u1, hu1⟩ := Cond.staticRefV Y.sentinel L.sentinelStatic L.statics hcS hiS (own (w := .isRef (.static Bundle.tN "SUPPRESSED_SENTINEL" Bundle.listD)) (List.mem_of_getElem? (i := 10) rfl))
  obtain ⟨cS2, hcS2, heS, -, hkeep⟩ := X.same.2.2.2.2.2 T.aS cS hcS
  have hcS3 : T0.heap[T.aS]? = some cS2 := hcS2
  have hkS : cS2.vm ≠ .unknown := fun hu => by rw [heS] at hu; rw [hu] at hiS; cases hiS
  have hneS : T.aS ≠ a := Nat.ne_of_lt (Nat.lt_of_lt_of_le (Array.getElem?_eq_some_iff.mp hcS).1 hnew)
  -- its fields
  obtain ⟨b1, b2, fB, b4, b5, b6, b7, -, b9, b10, b11⟩ := Cond.ownField (t := .object "java/lang/Object") Y.found L.cls (by decide +kernel) (own (w := .fieldLink Bundle.tN 198 Bundle.tN "backtrace" "Ljava/lang/Object;") (List.mem_of_getElem? (i := 11) rfl)) (own (w := .lays Bundle.tN Bundle.tN "backtrace" "Ljava/lang/Object;") (List.mem_of_getElem? (i := 12) rfl)) e.platform hpl
  obtain ⟨iM, fM⟩ := Y.msg
  obtain ⟨tC, nC, dC, eC⟩ := Cond.laysAt hfX hkX Y.cause (own (w := .lays nxX Bundle.tN "cause" "Ljava/lang/Throwable;") (List.mem_of_getElem? (i := 5) rfl))
  obtain ⟨tS, nS, dS, eS⟩ := Cond.laysAt hfX hkX Y.stack (own (w := .lays nxX Bundle.tN "stackTrace" Bundle.steD) (List.mem_of_getElem? (i := 6) rfl))
  obtain ⟨tP, nP, dP, eP⟩ := Cond.laysAt hfX hkX Y.supp (own (w := .lays nxX Bundle.tN "suppressedExceptions" Bundle.listD) (List.mem_of_getElem? (i := 7) rfl))
  obtain ⟨tM, nM, dM, eM⟩ := Cond.laysAt hfX hkX fM (own (w := .lays nxX Bundle.tN "detailMessage" "Ljava/lang/String;") (List.mem_of_getElem? (i := 8) rfl))
  obtain ⟨tB, nB, dB, eB⟩ := Cond.laysAt hfX hkX b11 (own (w := .lays nxX Bundle.tN "backtrace" "Ljava/lang/Object;") (List.mem_of_getElem? (i := 13) rfl))
  have a1 := Cond.laysApart dB dC eB eC (by rw [b9, Y.causeName]; decide)
  have a2 := Cond.laysApart dB dS eB eS (by rw [b9, Y.stackName]; decide)
  have a3 := Cond.laysApart dB dP eB eP (by rw [b9, Y.suppName]; decide)
  have hskip : SkipFacts T e.platform s (fun u => u) u0 ((preparedCellV T.toThrowableT (freshCell P0.m.cls kX) a u0 u1).withEntry T0.cur) := by
    refine ⟨{ ci198 := b1, i198 := b2, fBack := fB }, ⟨b4, b5, b6, b7⟩, ?_, fun _ _ => rfl⟩
    have z := fresh_default (c := P0.m.cls) tB
    rw [b10] at z
    simpa [preparedCellV, Cell.setSlot, Cell.withEntry, Array.getElem?_setIfInBounds, a1, a2, a3, a1.symm, a2.symm, a3.symm, defaultValue] using z
  -- the constructor entered, run, and the throw
  obtain ⟨tm, mC, cC, kC, vm1, hnC, -, -, -, -, -, -, -, hW1, st1⟩ := Steps.initColdS (tb := p.tables) (e := e) (below := below) (s := s) (U := T0) X.here hexec X.warmed hpl hown (t := Bundle.initS nxX) rfl rfl (by decide)
    (own (w := .methodLink "QuotaTree" 172 (Bundle.initS nxX)) (List.mem_of_getElem? (i := 0) rfl)) (h (.instanceMethod (Bundle.initS nxX)) (nx_sub3 _ (by decide +kernel))) (bytes := nxR) (maxL := 2) (h (.code (Bundle.initS nxX) nxR 2 none) (nx_sub3 _ (by decide +kernel))) hg hstack d6
  cases Option.some.inj (hnC.symm.trans hP0)
  have X1 := X.noted hW1
  obtain ⟨vm2, X2, st2⟩ := X1.ctorMessageOffV hexec (g := { g with stack := .ref a :: rest }) hg hsize T L Z LZ M LM (P0 :: P1 :: Ps)
    (fun P hP => by
      rcases List.mem_cons.mp hP with rfl | hP
      · exact L0
      · rcases List.mem_cons.mp hP with rfl | hP
        · exact L1
        · exact hLs P hP) ⟨hto, hsup, hon⟩ hmsg (cell := freshCell P0.m.cls kX) (cellS := cS2) hcell (fun _ => by simp) (by simp) rfl rfl (hsel (List.mem_of_getElem? (i := 3) rfl) Y.fill0 (by decide)) (hsel (List.mem_of_getElem? (i := 4) rfl) Y.fill (by decide)) hcS3 hneS hkS
    (by rw [hkeep _ List.not_mem_nil]; exact hu0) (by rw [hkeep _ List.not_mem_nil]; exact hu1)
    (Takes.of_laid hkX hord tC (by rw [Y.causeType]; rfl)) (Takes.of_laid hkX hord tS (by rw [Y.stackType]; exact fits_refV_array _ u0)) (Takes.of_laid hkX hord tP (by rw [Y.suppType]; exact fits_refV_object _ u1)) (Takes.of_laid hkX hord tM (by rw [Y.msgType]; exact fits_refV_object _ ⟨msg, hmsg⟩))
    Y.objLocals hskip htr [] d6 (by simp only [List.length_cons, hlen]; omega) (by simp only [List.length_cons, hlen]; exact hRl)
  obtain ⟨hwalk, hrun, hended, hWU, hsame⟩ := X2.athrowLeaves hexec (g := { g with stack := .ref a :: rest, pc := g.pc + 3 }) hg hlocked hent hout (a := a) (rest := rest) rfl d9
  have hlt : a < ((T0.setVm vm1).setVm vm2).heap.size := (Array.getElem?_eq_some_iff.mp hcell).1
  refine ⟨_, st1 _ (fun acts => ?_), hrun, hended, hWU, hsame.weaken (fun y hy hlt2 => ?_) (Nat.le_refl _) (Nat.le_refl _), _, heapAt_setCell_self (s := (T0.setVm vm1).setVm vm2) (plainBareV T.toThrowableT (freshCell P0.m.cls kX) a u0 u1 msg) hlt, rfl, hfX⟩
  · rw [doInvoke_state]
    exact st2 _ hwalk
  · have hb : y.base = a := by
      simp only [List.nil_append, List.mem_cons, List.not_mem_nil, or_false] at hy
      rcases hy with rfl | rfl | rfl | rfl | rfl <;> rfl
    exact absurd hlt2 (by rw [hb]; exact Nat.not_lt.mpr hnew)
/-! the throw itself -/
set_option maxHeartbeats 1000000 in
theorem nx_throwS {H : Heap} {ls : Array Slot} {rest : List Value} {Q : Array Value → State → Outcome → State → Prop} {XC : String → State → State → Prop} {free : Addr → Prop} {cc : ByteArray} {pc is mc ms sa : Nat} {text : String} {A : Nat → Prop} (hexec : p.tables.exec = Jvm.exec) (hb : c.code = cc) (hl : l.stackTraces = false)
    (hown : s.vm.findClass "QuotaTree" = some m.cls) (hk : (Cond.classLink "QuotaTree" 168 nxX).before args s = true) (hini : (Cond.initialized nxX).before args s = true) (hstr : vk_R "QuotaTree" is text sa s) (hat : ∀ w ∈ vx_atN, w.before args s = true)
    (hgood : ∀ w ∈ Cond.classLink "QuotaTree" 168 nxX :: Cond.initialized nxX :: vx_atN, vx_ot w = true) (hU : vx_Zq Bundle.tN "UNASSIGNED_STACK" Bundle.steD A s s.heap) (hN : vx_Zq Bundle.tN "SUPPRESSED_SENTINEL" Bundle.listD A s s.heap) (hS : va_S A s.heap H locs) (hsize : ls.size = c.maxLocals)
    (d0 : decode cc pc = .ok (.new 168, 3)) (d3 : decode cc (pc + 3) = .ok (.dup, 1)) (d4 : decode cc (pc + 4) = .ok (.ldc is, 2)) (d6 : decode cc (pc + 6) = .ok (.invokespecial 172, 3)) (d9 : decode cc (pc + 9) = .ok (.athrow, 1)) (hout : ∀ x ∈ c.exceptionTable.toList, covers x (pc + 9) = false)
    (hRf : 5 < R.frames) (hRl : (rest.map fun v => v.category).sum + 82 ≤ R.locals) (hRc : cells + 1 ≤ R.cells) (hRs : slots + 6 ≤ R.slots) (hlocks : meth.locks = false)
    (hx : ∀ t : State, s.vm.Alike t.vm → H.size ≤ t.heap.size → (∀ q : Nat, q < H.size → t.heap[q]? = H[q]?) → XC nxX s t) (hf : ∀ z ∈ locs, free z.base) (hc : cells + 1 ≤ mc) (hs : slots + 6 ≤ ms) :
    W p l e R s m args below meth c H locs cells slots (vx_MQ below Q XC args s mc ms free) (F0 m pc ls rest) := by
  intro T hT X
  have htr : e.platform.stackTraces = false := by rw [show e.platform.stackTraces = l.stackTraces by rw [X.admits.platform]]; exact hl
  -- from here on, as if the method began at this heap
  have Y := vx_rebase X (R' := { frames := R.frames, locals := R.locals, cells := 1, slots := 6 }) (Nat.le_refl _) (Nat.le_refl _) hRc hRs
  generalize hs0 : (T.setVm s.vm).setFrames (.invoking m args :: below) = s0 at Y
  have v0 : s0.vm = s.vm := by rw [← hs0]; rfl
  have p0 : s0.heap = H := by rw [← hs0]; exact hT
  have w0 : s.WarmedH s0.vm := by rw [v0]; exact State.WarmedH.refl s
  have at0 : ∀ w ∈ vx_atN, w.before args s0 = true := fun w hw => vx_ot_at w0 v0.symm (hgood w (List.mem_cons_of_mem _ (List.mem_cons_of_mem _ hw))) (hat w hw)
  have U0 : vx_Zq Bundle.tN "UNASSIGNED_STACK" Bundle.steD A s0 s0.heap := by rw [p0]; exact (hU.kept hS.2.1).moved w0.alike
  have N0 : vx_Zq Bundle.tN "SUPPRESSED_SENTINEL" Bundle.listD A s0 s0.heap := by rw [p0]; exact (hN.kept hS.2.1).moved w0.alike
  have all0 : ∀ w ∈ nxW, w.before args s0 = true := vx_own at0 (vx_isRefq U0.1) (vx_isRefq N0.1) U0.2.word N0.2.word
  have own0 : s0.vm.findClass "QuotaTree" = some m.cls := by rw [v0]; exact hown
  obtain ⟨vm1, cX, kX, fX, gX, -, -, X1, st1⟩ := Y.newCold hexec (own := "QuotaTree") (C := nxX) (index := 168) (n := 6) own0 (vx_ot_at w0 v0.symm (hgood _ List.mem_cons_self) hk) (all0 _ (nx_sub5 (.instantiable nxX 6) (List.mem_of_getElem? (i := 1) rfl))) (vx_ot_at w0 v0.symm (hgood _ (List.mem_cons_of_mem _ List.mem_cons_self)) hini)
    (g := F0 m pc ls rest) rfl (by rw [hb]; exact d0) (Nat.le_refl _) (Nat.le_refl _)
  generalize hT1 : (T.setVm vm1).pushCell { cls := cX, slots := kX.instanceTypes.map defaultValue, vm := .none } = T1 at X1 st1
  have hfr : T1.heap[T.heap.size]? = some (freshCell cX kX) := by rw [← hT1]; exact State.heap_pushCell_size _ _
  have cat1 : (Value.ref T.heap.size).category = 1 := rfl
  have d3c : decode c.code (pc + 3) = .ok (.dup, 1) := by rw [hb]; exact d3
  have d4c : decode c.code (pc + 4) = .ok (.ldc is, 2) := by rw [hb]; exact d4
  have str0 : vk_R "QuotaTree" is text sa s0 := vk_R.warm w0 hstr
  obtain ⟨U, go, hrun, hend, hW, hsame, ce, hce, hcv, hcl⟩ := nx_ctor X1 hexec htr own0 all0 fX gX hfr (by rw [p0, hT]; exact Nat.le_refl _) (msg := .ref sa) rfl
    (g := { method := m, pc := pc + 6, locals := ls, stack := .ref sa :: .ref T.heap.size :: .ref T.heap.size :: rest, locked := none }) rfl hsize rfl rfl (rest := rest) rfl (by rw [hb]; exact d6) (by rw [hb]; exact d9) hout hRf (by simp only [List.map_cons, List.sum_cons, cat1]; omega) hlocks
  obtain ⟨f1, f2⟩ := vx_frame hsame
  rw [p0] at f1 f2
  have hWs : s.WarmedH U.vm := State.WarmedH.trans w0 hW
  rw [v0] at hcl
  have hall : s.sameButNew ({ U with vm := s.vm } : State) locs mc ms := by
    rw [← hs0] at hsame
    obtain ⟨e1, e2⟩ := hsame
    rw [State.setFrames_setFrames] at e1
    have z : (T.setVm s.vm).sameButNew ({ U with vm := s.vm } : State) [] (0 + 1) (0 + 6) := ⟨e1, e2⟩
    have z2 := X.same.trans z
    rw [List.append_nil] at z2
    exact z2.mono hc hs
  refine ⟨U, ?_, .threw T.heap.size, hrun, hend, Or.inr ⟨T.heap.size, rfl, nxX, ce, locs, hx U hWs.alike f1 (fun q hq => f2 q hq (fun z hz => nomatch hz)), hce, hcv, hcl, hWs, hall, hf⟩⟩
  refine st1 _ ?_
  show Steps p.tables e below (T1.setTop { method := m, pc := pc + 3, locals := ls, stack := .ref T.heap.size :: rest, locked := none }) _
  jvm_step X1.here [X1.here.top, hexec, d3c, Value.category]
  exact X1.ldcString hexec (own := "QuotaTree") (text := text) (index := is) (a := sa) own0 str0.1 str0.2 (g := { method := m, pc := pc + 4, locals := ls, stack := .ref T.heap.size :: .ref T.heap.size :: rest, locked := none }) rfl d4c _ go
set_option maxHeartbeats 1000000 in
theorem nx_throwW {H : Heap} {ls : Array Slot} {rest : List Value} {Q : Array Value → State → Outcome → State → Prop} {XC : String → State → State → Prop} {free : Addr → Prop} {cc : ByteArray} {pc is mc ms sa : Nat} {text : String} {A : Nat → Prop} (hexec : p.tables.exec = Jvm.exec) (hb : c.code = cc) (hl : l.stackTraces = false)
    (hown : s.vm.findClass "QuotaTree" = some m.cls) (hk : (Cond.classLink "QuotaTree" 168 nxX).before args s = true) (hini : (Cond.initialized nxX).before args s = true) (hstr : vk_R "QuotaTree" is text sa s) (hat : ∀ w ∈ vx_atN, w.before args s = true)
    (hgood : ∀ w ∈ Cond.classLink "QuotaTree" 168 nxX :: Cond.initialized nxX :: vx_atN, vx_ot w = true) (hU : vx_Zq Bundle.tN "UNASSIGNED_STACK" Bundle.steD A s s.heap) (hN : vx_Zq Bundle.tN "SUPPRESSED_SENTINEL" Bundle.listD A s s.heap) (hS : va_S A s.heap H locs) (hsize : ls.size = c.maxLocals)
    (d0 : decode cc pc = .ok (.new 168, 3)) (d3 : decode cc (pc + 3) = .ok (.dup, 1)) (d4 : decode cc (pc + 4) = .ok (.ldc_w is, 3)) (d6 : decode cc (pc + 7) = .ok (.invokespecial 172, 3)) (d9 : decode cc (pc + 10) = .ok (.athrow, 1)) (hout : ∀ x ∈ c.exceptionTable.toList, covers x (pc + 10) = false)
    (hRf : 5 < R.frames) (hRl : (rest.map fun v => v.category).sum + 82 ≤ R.locals) (hRc : cells + 1 ≤ R.cells) (hRs : slots + 6 ≤ R.slots) (hlocks : meth.locks = false)
    (hx : ∀ t : State, s.vm.Alike t.vm → H.size ≤ t.heap.size → (∀ q : Nat, q < H.size → t.heap[q]? = H[q]?) → XC nxX s t) (hf : ∀ z ∈ locs, free z.base) (hc : cells + 1 ≤ mc) (hs : slots + 6 ≤ ms) :
    W p l e R s m args below meth c H locs cells slots (vx_MQ below Q XC args s mc ms free) (F0 m pc ls rest) := by
  intro T hT X
  have htr : e.platform.stackTraces = false := by rw [show e.platform.stackTraces = l.stackTraces by rw [X.admits.platform]]; exact hl
  -- from here on, as if the method began at this heap
  have Y := vx_rebase X (R' := { frames := R.frames, locals := R.locals, cells := 1, slots := 6 }) (Nat.le_refl _) (Nat.le_refl _) hRc hRs
  generalize hs0 : (T.setVm s.vm).setFrames (.invoking m args :: below) = s0 at Y
  have v0 : s0.vm = s.vm := by rw [← hs0]; rfl
  have p0 : s0.heap = H := by rw [← hs0]; exact hT
  have w0 : s.WarmedH s0.vm := by rw [v0]; exact State.WarmedH.refl s
  have at0 : ∀ w ∈ vx_atN, w.before args s0 = true := fun w hw => vx_ot_at w0 v0.symm (hgood w (List.mem_cons_of_mem _ (List.mem_cons_of_mem _ hw))) (hat w hw)
  have U0 : vx_Zq Bundle.tN "UNASSIGNED_STACK" Bundle.steD A s0 s0.heap := by rw [p0]; exact (hU.kept hS.2.1).moved w0.alike
  have N0 : vx_Zq Bundle.tN "SUPPRESSED_SENTINEL" Bundle.listD A s0 s0.heap := by rw [p0]; exact (hN.kept hS.2.1).moved w0.alike
  have all0 : ∀ w ∈ nxW, w.before args s0 = true := vx_own at0 (vx_isRefq U0.1) (vx_isRefq N0.1) U0.2.word N0.2.word
  have own0 : s0.vm.findClass "QuotaTree" = some m.cls := by rw [v0]; exact hown
  obtain ⟨vm1, cX, kX, fX, gX, -, -, X1, st1⟩ := Y.newCold hexec (own := "QuotaTree") (C := nxX) (index := 168) (n := 6) own0 (vx_ot_at w0 v0.symm (hgood _ List.mem_cons_self) hk) (all0 _ (nx_sub5 (.instantiable nxX 6) (List.mem_of_getElem? (i := 1) rfl))) (vx_ot_at w0 v0.symm (hgood _ (List.mem_cons_of_mem _ List.mem_cons_self)) hini)
    (g := F0 m pc ls rest) rfl (by rw [hb]; exact d0) (Nat.le_refl _) (Nat.le_refl _)
  generalize hT1 : (T.setVm vm1).pushCell { cls := cX, slots := kX.instanceTypes.map defaultValue, vm := .none } = T1 at X1 st1
  have hfr : T1.heap[T.heap.size]? = some (freshCell cX kX) := by rw [← hT1]; exact State.heap_pushCell_size _ _
  have cat1 : (Value.ref T.heap.size).category = 1 := rfl
  have d3c : decode c.code (pc + 3) = .ok (.dup, 1) := by rw [hb]; exact d3
  have d4c : decode c.code (pc + 4) = .ok (.ldc_w is, 3) := by rw [hb]; exact d4
  have str0 : vk_R "QuotaTree" is text sa s0 := vk_R.warm w0 hstr
  obtain ⟨U, go, hrun, hend, hW, hsame, ce, hce, hcv, hcl⟩ := nx_ctor X1 hexec htr own0 all0 fX gX hfr (by rw [p0, hT]; exact Nat.le_refl _) (msg := .ref sa) rfl
    (g := { method := m, pc := pc + 7, locals := ls, stack := .ref sa :: .ref T.heap.size :: .ref T.heap.size :: rest, locked := none }) rfl hsize rfl rfl (rest := rest) rfl (by rw [hb]; exact d6) (by rw [hb]; exact d9) hout hRf (by simp only [List.map_cons, List.sum_cons, cat1]; omega) hlocks
  obtain ⟨f1, f2⟩ := vx_frame hsame
  rw [p0] at f1 f2
  have hWs : s.WarmedH U.vm := State.WarmedH.trans w0 hW
  rw [v0] at hcl
  have hall : s.sameButNew ({ U with vm := s.vm } : State) locs mc ms := by
    rw [← hs0] at hsame
    obtain ⟨e1, e2⟩ := hsame
    rw [State.setFrames_setFrames] at e1
    have z : (T.setVm s.vm).sameButNew ({ U with vm := s.vm } : State) [] (0 + 1) (0 + 6) := ⟨e1, e2⟩
    have z2 := X.same.trans z
    rw [List.append_nil] at z2
    exact z2.mono hc hs
  refine ⟨U, ?_, .threw T.heap.size, hrun, hend, Or.inr ⟨T.heap.size, rfl, nxX, ce, locs, hx U hWs.alike f1 (fun q hq => f2 q hq (fun z hz => nomatch hz)), hce, hcv, hcl, hWs, hall, hf⟩⟩
  refine st1 _ ?_
  show Steps p.tables e below (T1.setTop { method := m, pc := pc + 3, locals := ls, stack := .ref T.heap.size :: rest, locked := none }) _
  jvm_step X1.here [X1.here.top, hexec, d3c, Value.category]
  exact X1.ldcStringW hexec (own := "QuotaTree") (text := text) (index := is) (a := sa) own0 str0.1 str0.2 (g := { method := m, pc := pc + 4, locals := ls, stack := .ref T.heap.size :: .ref T.heap.size :: rest, locked := none }) rfl d4c _ go
end NXC
