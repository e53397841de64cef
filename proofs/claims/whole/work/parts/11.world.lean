/-! cells of the heap as predicates; rows that read and write them -/
abbrev GG : Type := va_G × (Nat → ClassId)
def zT (G : GG) : List (ClassId × FieldType) := [(G.2 0, .byte), (G.2 1, .int), (G.2 2, .long), (G.2 3, .object "QuotaTree$State"), (G.2 4, .double)]
/-- the links to a nest mate's private members -/
def NWd (U : State) : Prop := va_Nw (.methodLinkNest RX7 11 yX6_init "QuotaTree") U ∧ va_Nw (.methodLinkNest RX7 22 yX1_init "QuotaTree") U ∧ va_Nw (.methodLinkNest RX0 51 yX7_accountOf "QuotaTree") U ∧ va_Nw (.methodLinkNest RX5 103 yX7_accountOf "QuotaTree") U ∧ va_Nw (.methodLinkNest RX5 11 yX6_init "QuotaTree") U ∧ va_Nw (.methodLinkNest RX6 20 yX2_init "QuotaTree") U ∧ va_Nw (.methodLinkNest RX6 34 yX4_init "QuotaTree") U ∧ va_Nw (.methodLinkNest RX6 98 yX7_accountOf "QuotaTree") U ∧ va_Nw (.fieldLinkNest RX5 22 RX1 "bytes" "[B" "QuotaTree") U
theorem NWd.warm {s U : State} (hW : s.WarmedH U.vm) (h : NWd s) : NWd U := by
  obtain ⟨h1, h2, h3, h4, h5, h6, h7, h8, h9⟩ := h
  exact ⟨h1.warmM hW, h2.warmM hW, h3.warmM hW, h4.warmM hW, h5.warmM hW, h6.warmM hW, h7.warmM hW, h8.warmM hW, h9.warmF hW⟩
theorem NWd.same {u U : State} (hv : u.vm = U.vm) (h : NWd u) : NWd U := by
  obtain ⟨h1, h2, h3, h4, h5, h6, h7, h8, h9⟩ := h
  exact ⟨h1.same rfl hv, h2.same rfl hv, h3.same rfl hv, h4.same rfl hv, h5.same rfl hv, h6.same rfl hv, h7.same rfl hv, h8.same rfl hv, h9.same rfl hv⟩
def KK (G : GG) (U : State) : Prop := va_K G.1 vwCl (zT G) U ∧ NWd U
theorem KK.warm {G : GG} {s U : State} (hW : s.WarmedH U.vm) (h : KK G s) : KK G U := ⟨va_K.moved hW.alike h.1, h.2.warm hW⟩
theorem KK.calling {G : GG} {U : State} {g : JFrame} {mk : MethodId} {a : Array Value} (h : KK G U) : KK G (U.calling g mk a) := ⟨va_K.moved (u := U) (U := U.calling g mk a) (Vm.Alike.refl U.vm) h.1, h.2.same rfl⟩
def oB (G : GG) (ci q : Nat) (fs : List Value) (H : Heap) : Prop := va_at G.1 vwCl (q, .inr (ci, fs)) H
def aL (G : GG) (q n : Nat) (f : Int → Int) (H : Heap) : Prop := H[q]? = some (vp_cell (G.2 2) (n, .inr (.inl (fL f))))
def aI (G : GG) (q n : Nat) (f : Int → Int) (H : Heap) : Prop := H[q]? = some (vp_cell (G.2 1) (n, .inl (fI f)))
def aB (G : GG) (q n : Nat) (f : Int → Int) (H : Heap) : Prop := H[q]? = some (vp_cell (G.2 0) (n, .inl (fI f)))
def aS (G : GG) (q n : Nat) (f : Nat → Nat) (H : Heap) : Prop := H[q]? = some (vp_cell (G.2 3) (n, .inr (.inr (.inr (.inr (fun k => some (f k)))))))
theorem va1 {D : va_G} {cl : List vw_C} {x : Nat × va_E} {H : Heap} (h : va_at D cl x H) : va_P D cl [x] H := by
  intro k q hk
  have hz : k < 1 := (List.getElem?_eq_some_iff.mp hk).1
  rw [show k = 0 by omega] at hk
  cases hk
  exact h
theorem oB.lt {G : GG} {ci q : Nat} {fs : List Value} {H : Heap} (h : oB G ci q fs H) : q < H.size := va_at.lt (q := (q, .inr (ci, fs))) h
theorem aL.lt {G : GG} {q n : Nat} {f : Int → Int} {H : Heap} (h : aL G q n f H) : q < H.size := (Array.getElem?_eq_some_iff.mp h).1
theorem aI.lt {G : GG} {q n : Nat} {f : Int → Int} {H : Heap} (h : aI G q n f H) : q < H.size := (Array.getElem?_eq_some_iff.mp h).1
theorem aB.lt {G : GG} {q n : Nat} {f : Int → Int} {H : Heap} (h : aB G q n f H) : q < H.size := (Array.getElem?_eq_some_iff.mp h).1
theorem aS.lt {G : GG} {q n : Nat} {f : Nat → Nat} {H : Heap} (h : aS G q n f H) : q < H.size := (Array.getElem?_eq_some_iff.mp h).1
theorem oB.kp {G : GG} {ci q : Nat} {fs : List Value} {H H1 : Heap} (h : oB G ci q fs H) (k : H1[q]? = H[q]?) : oB G ci q fs H1 := va_at.kept (q := (q, .inr (ci, fs))) h k
theorem aL.kp {G : GG} {q n : Nat} {f : Int → Int} {H H1 : Heap} (h : aL G q n f H) (k : H1[q]? = H[q]?) : aL G q n f H1 := k.trans h
theorem aI.kp {G : GG} {q n : Nat} {f : Int → Int} {H H1 : Heap} (h : aI G q n f H) (k : H1[q]? = H[q]?) : aI G q n f H1 := k.trans h
theorem aB.kp {G : GG} {q n : Nat} {f : Int → Int} {H H1 : Heap} (h : aB G q n f H) (k : H1[q]? = H[q]?) : aB G q n f H1 := k.trans h
theorem aS.kp {G : GG} {q n : Nat} {f : Nat → Nat} {H H1 : Heap} (h : aS G q n f H) (k : H1[q]? = H[q]?) : aS G q n f H1 := k.trans h
theorem KK.w0 {G : GG} {U : State} (h : KK G U) : ArrOfT U (G.2 0) .byte := (h.1.2 0 _ rfl).1
theorem KK.w1 {G : GG} {U : State} (h : KK G U) : ArrOfT U (G.2 1) .int := (h.1.2 1 _ rfl).1
theorem KK.w2 {G : GG} {U : State} (h : KK G U) : ArrOfT U (G.2 2) .long := (h.1.2 2 _ rfl).1
theorem KK.w3 {G : GG} {U : State} (h : KK G U) : ArrOfT U (G.2 3) (.object "QuotaTree$State") := (h.1.2 3 _ rfl).1
theorem KK.w4 {G : GG} {U : State} (h : KK G U) : ArrOfT U (G.2 4) .double := (h.1.2 4 _ rfl).1
/-- the receiver of a call -/
theorem oB.recv {G : GG} {s : State} {ci q : Nat} {fs : List Value} {H : Heap} {r : vw_C} (hK : KK G s) (h : oB G ci q fs H) (hc : vwCl[ci]? = some r) : ∃ cell : Cell, H[q]? = some cell ∧ cell.vm.isStatics = false ∧ s.vm.findClass r.1 = some cell.cls := va_recv hK.1 (va1 h) (q0 := 0) hc rfl
/-- addresses apart -/
def Ij (o : Nat → Nat) (n : Nat) : Prop := ∀ i j, i < n → j < n → o i = o j → i = j
theorem Ij.ne {o : Nat → Nat} {n : Nat} (h : Ij o n) (i j : Nat) (hi : i < n) (hj : j < n) (hn : i ≠ j) : o i ≠ o j := fun q => hn (h i j hi hj q)
def Ax (o : Nat → Nat) (n : Nat) : Nat → Prop := fun q => ∃ k, k < n ∧ q = o k
theorem Ax.at {o : Nat → Nat} {n : Nat} (k : Nat) (h : k < n) : Ax o n (o k) := ⟨k, h, rfl⟩
section CROWS
variable {p : Program} {l : Launch} {e : Env} {R : Room} {s : State} {m : MethodId} {args : Array Value} {below : List Frame} {meth : Method} {c : Code} {H : Heap} {locs : List Loc} {cells slots : Nat} {Q : State → Prop} {cc : ByteArray} {pc : Nat} {ls : Array Slot} {rest : List Value} {G : GG} {A : Nat → Prop} {H0 : Heap}
theorem z_laload (E : p.tables.exec = Jvm.exec ∧ c.code = cc) {q n : Nat} {f : Int → Int} {i : Int} (hK : KK G s) (hA : aL G q n f H) (hi : 0 ≤ i ∧ i < (n : Int)) (hn : n < 2147483648) (d : decode cc pc = .ok (.laload, 1))
    (k : W p l e R s m args below meth c H locs cells slots Q (F0 m (pc + 1) ls (.long (iL (f i)) :: rest))) : W p l e R s m args below meth c H locs cells slots Q (F0 m pc ls (.int (iI i) :: .ref q :: rest)) := by
  have hin := iI_in hi.1 hi.2 hn
  have hlt : (iI i).toNatClampNeg < n := Nat.not_le.mp fun q => hin (Or.inr q)
  refine W.lald (v := .long (fL f (iI i).toNatClampNeg)) E.1 E.2 hA (hK.w2 n (fun j => .long (fL f j))) (fun q => by cases q) (by show ¬ (iI i < 0 ∨ (arrV _ _ _).slots.size ≤ _); rw [arrV_size]; exact hin) (by show (arrV _ _ _).slots[_]? = _; rw [arrV_read _ _ hlt]) rfl rfl d ?_
  rw [fL_at f hi.1 (by omega)]
  exact k
theorem z_iaload (E : p.tables.exec = Jvm.exec ∧ c.code = cc) {q n : Nat} {f : Int → Int} {i : Int} (hK : KK G s) (hA : aI G q n f H) (hi : 0 ≤ i ∧ i < (n : Int)) (hn : n < 2147483648) (d : decode cc pc = .ok (.iaload, 1))
    (k : W p l e R s m args below meth c H locs cells slots Q (F0 m (pc + 1) ls (.int (iI (f i)) :: rest))) : W p l e R s m args below meth c H locs cells slots Q (F0 m pc ls (.int (iI i) :: .ref q :: rest)) := by
  have hin := iI_in hi.1 hi.2 hn
  have hlt : (iI i).toNatClampNeg < n := Nat.not_le.mp fun q => hin (Or.inr q)
  refine W.iald (v := .int (fI f (iI i).toNatClampNeg)) E.1 E.2 hA (hK.w1 n (fun j => .int (fI f j))) (fun q => by cases q) (by show ¬ (iI i < 0 ∨ (arrV _ _ _).slots.size ≤ _); rw [arrV_size]; exact hin) (by show (arrV _ _ _).slots[_]? = _; rw [arrV_read _ _ hlt]) rfl rfl d ?_
  rw [fI_at f hi.1 (by omega)]
  exact k
theorem z_baload (E : p.tables.exec = Jvm.exec ∧ c.code = cc) {q n : Nat} {f : Int → Int} {i : Int} (hK : KK G s) (hA : aB G q n f H) (hi : 0 ≤ i ∧ i < (n : Int)) (hn : n < 2147483648) (d : decode cc pc = .ok (.baload, 1))
    (k : W p l e R s m args below meth c H locs cells slots Q (F0 m (pc + 1) ls (.int (iI (f i)) :: rest))) : W p l e R s m args below meth c H locs cells slots Q (F0 m pc ls (.int (iI i) :: .ref q :: rest)) := by
  have hin := iI_in hi.1 hi.2 hn
  have hlt : (iI i).toNatClampNeg < n := Nat.not_le.mp fun q => hin (Or.inr q)
  refine W.bald (v := .int (fI f (iI i).toNatClampNeg)) E.1 E.2 hA (hK.w0 n (fun j => .int (fI f j))) (fun q => by cases q) (by show ¬ (iI i < 0 ∨ (arrV _ _ _).slots.size ≤ _); rw [arrV_size]; exact hin) (by show (arrV _ _ _).slots[_]? = _; rw [arrV_read _ _ hlt]) rfl rfl d ?_
  rw [fI_at f hi.1 (by omega)]
  exact k
theorem z_laloadE (E : p.tables.exec = Jvm.exec ∧ c.code = cc) {q n : Nat} {f : Int → Int} {i v : Int} (hK : KK G s) (hA : aL G q n f H) (hi : 0 ≤ i ∧ i < (n : Int)) (hn : n < 2147483648) (hv : f i = v) (d : decode cc pc = .ok (.laload, 1))
    (k : W p l e R s m args below meth c H locs cells slots Q (F0 m (pc + 1) ls (.long (iL v) :: rest))) : W p l e R s m args below meth c H locs cells slots Q (F0 m pc ls (.int (iI i) :: .ref q :: rest)) := z_laload E hK hA hi hn d (by rw [hv]; exact k)
theorem z_ialoadE (E : p.tables.exec = Jvm.exec ∧ c.code = cc) {q n : Nat} {f : Int → Int} {i v : Int} (hK : KK G s) (hA : aI G q n f H) (hi : 0 ≤ i ∧ i < (n : Int)) (hn : n < 2147483648) (hv : f i = v) (d : decode cc pc = .ok (.iaload, 1))
    (k : W p l e R s m args below meth c H locs cells slots Q (F0 m (pc + 1) ls (.int (iI v) :: rest))) : W p l e R s m args below meth c H locs cells slots Q (F0 m pc ls (.int (iI i) :: .ref q :: rest)) := z_iaload E hK hA hi hn d (by rw [hv]; exact k)
theorem z_baloadE (E : p.tables.exec = Jvm.exec ∧ c.code = cc) {q n : Nat} {f : Int → Int} {i v : Int} (hK : KK G s) (hA : aB G q n f H) (hi : 0 ≤ i ∧ i < (n : Int)) (hn : n < 2147483648) (hv : f i = v) (d : decode cc pc = .ok (.baload, 1))
    (k : W p l e R s m args below meth c H locs cells slots Q (F0 m (pc + 1) ls (.int (iI v) :: rest))) : W p l e R s m args below meth c H locs cells slots Q (F0 m pc ls (.int (iI i) :: .ref q :: rest)) := z_baload E hK hA hi hn d (by rw [hv]; exact k)
theorem z_lastore (E : p.tables.exec = Jvm.exec ∧ c.code = cc) {q n : Nat} {f : Int → Int} {i v : Int} (hK : KK G s) (hA : aL G q n f H) (hS : va_S A H0 H locs) (hq : A q) (hi : 0 ≤ i ∧ i < (n : Int)) (hn : n < 2147483648) (d : decode cc pc = .ok (.lastore, 1))
    (k : ∀ (H1 : Heap) (locs1 : List Loc), aL G q n (zu f i v) H1 → (∀ a, a ≠ q → H1[a]? = H[a]?) → va_S A H0 H1 locs1 → W p l e R s m args below meth c H1 locs1 cells slots Q (F0 m (pc + 1) ls rest)) : W p l e R s m args below meth c H locs cells slots Q (F0 m pc ls (.long (iL v) :: .int (iI i) :: .ref q :: rest)) := by
  have hin := iI_in hi.1 hi.2 hn
  refine W.last E.1 E.2 hA (hK.w2 n (fun j => .long (fL f j))) (fun q => by cases q) (by show ¬ (iI i < 0 ∨ (arrV _ _ _).slots.size ≤ _); rw [arrV_size]; exact hin) rfl rfl d fun H1 e z oq => ?_
  refine k H1 _ ?_ oq (hS.put z oq hq)
  show H1[q]? = some (vp_cell _ _)
  rw [e, ← fL_up f v hi.1 (by omega), vp_cell_l, vp_cell_l, arrV_store]
  congr 2
  funext j
  by_cases hj : j = (iI i).toNatClampNeg
  · subst hj; simp [updV, vp_updL]
  · simp [updV, vp_updL, hj]
theorem z_iastore (E : p.tables.exec = Jvm.exec ∧ c.code = cc) {q n : Nat} {f : Int → Int} {i v : Int} (hK : KK G s) (hA : aI G q n f H) (hS : va_S A H0 H locs) (hq : A q) (hi : 0 ≤ i ∧ i < (n : Int)) (hn : n < 2147483648) (d : decode cc pc = .ok (.iastore, 1))
    (k : ∀ (H1 : Heap) (locs1 : List Loc), aI G q n (zu f i v) H1 → (∀ a, a ≠ q → H1[a]? = H[a]?) → va_S A H0 H1 locs1 → W p l e R s m args below meth c H1 locs1 cells slots Q (F0 m (pc + 1) ls rest)) : W p l e R s m args below meth c H locs cells slots Q (F0 m pc ls (.int (iI v) :: .int (iI i) :: .ref q :: rest)) := by
  have hin := iI_in hi.1 hi.2 hn
  refine W.iast E.1 E.2 hA (hK.w1 n (fun j => .int (fI f j))) (fun q => by cases q) (by show ¬ (iI i < 0 ∨ (arrV _ _ _).slots.size ≤ _); rw [arrV_size]; exact hin) rfl rfl d fun H1 e z oq => ?_
  refine k H1 _ ?_ oq (hS.put z oq hq)
  show H1[q]? = some (vp_cell _ _)
  rw [e, ← fI_up f v hi.1 (by omega), vp_cell_i, vp_cell_i, arrV_store]
  congr 2
  funext j
  by_cases hj : j = (iI i).toNatClampNeg
  · subst hj; simp [updV, upd]
  · simp [updV, upd, hj]
theorem g0_0 (E : p.tables.exec = Jvm.exec ∧ c.code = cc) {own : String} {index q : Nat} {Ts : List Cond} {x0 : Value} {x1 : Value} {x2 : Value} {x3 : Value} (hts : ∀ w ∈ Ts, w.before args s = true) (hin : ∀ w ∈ wsX00, w ∈ Ts) (hown : s.vm.findClass own = some m.cls) (hK : KK G s) (hO : oB G 0 q [x0, x1, x2, x3] H) (hl : (Cond.fieldLink own index "QuotaTree$Accounts" "amount" "[I").before args s = true) (d : decode cc pc = .ok (.getfield index, 3))
    (k : W p l e R s m args below meth c H locs cells slots Q (F0 m (pc + 3) ls (x0 :: rest))) : W p l e R s m args below meth c H locs cells slots Q (F0 m pc ls (.ref q :: rest)) := va_get E.1 E.2 hts hin hown hK.1 (va1 hO) 0 rfl (C := RX0) (T := TX0) (N := 4) rfl 0 (by decide) hl (fun _ h9 => h9) rfl d k
theorem g0_1 (E : p.tables.exec = Jvm.exec ∧ c.code = cc) {own : String} {index q : Nat} {Ts : List Cond} {x0 : Value} {x1 : Value} {x2 : Value} {x3 : Value} (hts : ∀ w ∈ Ts, w.before args s = true) (hin : ∀ w ∈ wsX00, w ∈ Ts) (hown : s.vm.findClass own = some m.cls) (hK : KK G s) (hO : oB G 0 q [x0, x1, x2, x3] H) (hl : (Cond.fieldLink own index "QuotaTree$Accounts" "soft" "[I").before args s = true) (d : decode cc pc = .ok (.getfield index, 3))
    (k : W p l e R s m args below meth c H locs cells slots Q (F0 m (pc + 3) ls (x1 :: rest))) : W p l e R s m args below meth c H locs cells slots Q (F0 m pc ls (.ref q :: rest)) := va_get E.1 E.2 hts hin hown hK.1 (va1 hO) 0 rfl (C := RX0) (T := TX0) (N := 4) rfl 1 (by decide) hl (fun _ h9 => h9) rfl d k
theorem g0_2 (E : p.tables.exec = Jvm.exec ∧ c.code = cc) {own : String} {index q : Nat} {Ts : List Cond} {x0 : Value} {x1 : Value} {x2 : Value} {x3 : Value} (hts : ∀ w ∈ Ts, w.before args s = true) (hin : ∀ w ∈ wsX00, w ∈ Ts) (hown : s.vm.findClass own = some m.cls) (hK : KK G s) (hO : oB G 0 q [x0, x1, x2, x3] H) (hl : (Cond.fieldLink own index "QuotaTree$Accounts" "hard" "[I").before args s = true) (d : decode cc pc = .ok (.getfield index, 3))
    (k : W p l e R s m args below meth c H locs cells slots Q (F0 m (pc + 3) ls (x2 :: rest))) : W p l e R s m args below meth c H locs cells slots Q (F0 m pc ls (.ref q :: rest)) := va_get E.1 E.2 hts hin hown hK.1 (va1 hO) 0 rfl (C := RX0) (T := TX0) (N := 4) rfl 2 (by decide) hl (fun _ h9 => h9) rfl d k
theorem g0_3 (E : p.tables.exec = Jvm.exec ∧ c.code = cc) {own : String} {index q : Nat} {Ts : List Cond} {x0 : Value} {x1 : Value} {x2 : Value} {x3 : Value} (hts : ∀ w ∈ Ts, w.before args s = true) (hin : ∀ w ∈ wsX00, w ∈ Ts) (hown : s.vm.findClass own = some m.cls) (hK : KK G s) (hO : oB G 0 q [x0, x1, x2, x3] H) (hl : (Cond.fieldLink own index "QuotaTree$Accounts" "clock" "[I").before args s = true) (d : decode cc pc = .ok (.getfield index, 3))
    (k : W p l e R s m args below meth c H locs cells slots Q (F0 m (pc + 3) ls (x3 :: rest))) : W p l e R s m args below meth c H locs cells slots Q (F0 m pc ls (.ref q :: rest)) := va_get E.1 E.2 hts hin hown hK.1 (va1 hO) 0 rfl (C := RX0) (T := TX0) (N := 4) rfl 3 (by decide) hl (fun _ h9 => h9) rfl d k
theorem g1_0 (E : p.tables.exec = Jvm.exec ∧ c.code = cc) {own : String} {index q : Nat} {Ts : List Cond} {x0 : Value} {x1 : Int32} (hts : ∀ w ∈ Ts, w.before args s = true) (hin : ∀ w ∈ wsX10, w ∈ Ts) (hown : s.vm.findClass own = some m.cls) (hK : KK G s) (hO : oB G 1 q [x0, .int x1] H) (hl : (Cond.fieldLink own index "QuotaTree$Bytes" "bytes" "[B").before args s = true) (d : decode cc pc = .ok (.getfield index, 3))
    (k : W p l e R s m args below meth c H locs cells slots Q (F0 m (pc + 3) ls (x0 :: rest))) : W p l e R s m args below meth c H locs cells slots Q (F0 m pc ls (.ref q :: rest)) := va_get E.1 E.2 hts hin hown hK.1 (va1 hO) 0 rfl (C := RX1) (T := TX1) (N := 2) rfl 0 (by decide) hl (fun _ h9 => h9) rfl d k
theorem g1_1 (E : p.tables.exec = Jvm.exec ∧ c.code = cc) {own : String} {index q : Nat} {Ts : List Cond} {x0 : Value} {x1 : Int32} (hts : ∀ w ∈ Ts, w.before args s = true) (hin : ∀ w ∈ wsX10, w ∈ Ts) (hown : s.vm.findClass own = some m.cls) (hK : KK G s) (hO : oB G 1 q [x0, .int x1] H) (hl : (Cond.fieldLink own index "QuotaTree$Bytes" "length" "I").before args s = true) (d : decode cc pc = .ok (.getfield index, 3))
    (k : W p l e R s m args below meth c H locs cells slots Q (F0 m (pc + 3) ls (.int x1 :: rest))) : W p l e R s m args below meth c H locs cells slots Q (F0 m pc ls (.ref q :: rest)) := va_get E.1 E.2 hts hin hown hK.1 (va1 hO) 0 rfl (C := RX1) (T := TX1) (N := 2) rfl 1 (by decide) hl (fun _ h9 => h9) rfl d k
theorem p1_1 (E : p.tables.exec = Jvm.exec ∧ c.code = cc) {own : String} {index q : Nat} {Ts : List Cond} {x0 : Value} {x1 : Int32} {y : Int32} (hts : ∀ w ∈ Ts, w.before args s = true) (hin : ∀ w ∈ wsX10, w ∈ Ts) (hown : s.vm.findClass own = some m.cls) (hK : KK G s) (hO : oB G 1 q [x0, .int x1] H) (hS : va_S A H0 H locs) (hq : A q) (hl : (Cond.fieldLink own index "QuotaTree$Bytes" "length" "I").before args s = true) (d : decode cc pc = .ok (.putfield index, 3))
    (k : ∀ (H1 : Heap) (locs1 : List Loc), oB G 1 q [x0, .int y] H1 → (∀ a, a ≠ q → H1[a]? = H[a]?) → va_S A H0 H1 locs1 → W p l e R s m args below meth c H1 locs1 cells slots Q (F0 m (pc + 3) ls rest)) : W p l e R s m args below meth c H locs cells slots Q (F0 m pc ls (.int y :: .ref q :: rest)) := by
  have hap := va_apart (own := own) hts hin tyX1 tyX1_ok nmX1 hK.1 (ci := 1) rfl
  obtain ⟨r, h1, cell, q1, q2, q3, q4⟩ := hO
  have hr : r = (RX1, TX1, 2) := Option.some.inj (h1.symm.trans rfl)
  subst hr
  obtain ⟨hSl, hfc, kC, hkC, hkind⟩ := hK.1.1 1 _ rfl
  obtain ⟨cf, kf, fi, f, hi, hsl⟩ := hSl 1 (by decide)
  have hlay := hts _ (hin _ (u_in_lay (T := TX1) (C := RX1) (N := 2) (k := 1) (by decide)))
  unfold u_lay at hlay
  rw [if_neg (by decide)] at hlay
  have hst := (u_facts hfc hkC (u_lays hts hin (k := 1) (by decide)) hi).1
  have h6 := u_store hfc hkC hkind hlay hi (ty := .int) (v := .int y) (by decide) rfl rfl
  refine W.putK E.1 E.2 (f := f) ⟨hown, hl, ⟨_, _, _, hi⟩, hst⟩ (by rw [q2]; exact h6) q1 q3 (by rw [hsl]; exact k2_hasslot (q4 1 (by decide))) rfl rfl d fun H' e1 e2 e3 => ?_
  rw [hsl] at e1 ⊢
  refine k H' _ ?_ e3 (hS.put e2 e3 hq)
  exact ⟨_, rfl, t_OB.to (V := updV (vp_V [x0, .int x1]) 1 (.int y)) ⟨_, e1, q2, q3, t_set q4 hap (by decide) _⟩ (fun j _ => vp_updV_set (fs := [x0, .int x1]) (Nat.le_of_ble_eq_true rfl) _ j)⟩
theorem g2_0 (E : p.tables.exec = Jvm.exec ∧ c.code = cc) {own : String} {index q : Nat} {Ts : List Cond} {x0 : Value} {x1 : Value} {x2 : Int32} (hts : ∀ w ∈ Ts, w.before args s = true) (hin : ∀ w ∈ wsX20, w ∈ Ts) (hown : s.vm.findClass own = some m.cls) (hK : KK G s) (hO : oB G 2 q [x0, x1, .int x2] H) (hl : (Cond.fieldLink own index "QuotaTree$Files" "place" "[I").before args s = true) (d : decode cc pc = .ok (.getfield index, 3))
    (k : W p l e R s m args below meth c H locs cells slots Q (F0 m (pc + 3) ls (x0 :: rest))) : W p l e R s m args below meth c H locs cells slots Q (F0 m pc ls (.ref q :: rest)) := va_get E.1 E.2 hts hin hown hK.1 (va1 hO) 0 rfl (C := RX2) (T := TX2) (N := 3) rfl 0 (by decide) hl (fun _ h9 => h9) rfl d k
theorem g2_1 (E : p.tables.exec = Jvm.exec ∧ c.code = cc) {own : String} {index q : Nat} {Ts : List Cond} {x0 : Value} {x1 : Value} {x2 : Int32} (hts : ∀ w ∈ Ts, w.before args s = true) (hin : ∀ w ∈ wsX20, w ∈ Ts) (hown : s.vm.findClass own = some m.cls) (hK : KK G s) (hO : oB G 2 q [x0, x1, .int x2] H) (hl : (Cond.fieldLink own index "QuotaTree$Files" "size" "[I").before args s = true) (d : decode cc pc = .ok (.getfield index, 3))
    (k : W p l e R s m args below meth c H locs cells slots Q (F0 m (pc + 3) ls (x1 :: rest))) : W p l e R s m args below meth c H locs cells slots Q (F0 m pc ls (.ref q :: rest)) := va_get E.1 E.2 hts hin hown hK.1 (va1 hO) 0 rfl (C := RX2) (T := TX2) (N := 3) rfl 1 (by decide) hl (fun _ h9 => h9) rfl d k
theorem g2_2 (E : p.tables.exec = Jvm.exec ∧ c.code = cc) {own : String} {index q : Nat} {Ts : List Cond} {x0 : Value} {x1 : Value} {x2 : Int32} (hts : ∀ w ∈ Ts, w.before args s = true) (hin : ∀ w ∈ wsX20, w ∈ Ts) (hown : s.vm.findClass own = some m.cls) (hK : KK G s) (hO : oB G 2 q [x0, x1, .int x2] H) (hl : (Cond.fieldLink own index "QuotaTree$Files" "total" "I").before args s = true) (d : decode cc pc = .ok (.getfield index, 3))
    (k : W p l e R s m args below meth c H locs cells slots Q (F0 m (pc + 3) ls (.int x2 :: rest))) : W p l e R s m args below meth c H locs cells slots Q (F0 m pc ls (.ref q :: rest)) := va_get E.1 E.2 hts hin hown hK.1 (va1 hO) 0 rfl (C := RX2) (T := TX2) (N := 3) rfl 2 (by decide) hl (fun _ h9 => h9) rfl d k
theorem p2_2 (E : p.tables.exec = Jvm.exec ∧ c.code = cc) {own : String} {index q : Nat} {Ts : List Cond} {x0 : Value} {x1 : Value} {x2 : Int32} {y : Int32} (hts : ∀ w ∈ Ts, w.before args s = true) (hin : ∀ w ∈ wsX20, w ∈ Ts) (hown : s.vm.findClass own = some m.cls) (hK : KK G s) (hO : oB G 2 q [x0, x1, .int x2] H) (hS : va_S A H0 H locs) (hq : A q) (hl : (Cond.fieldLink own index "QuotaTree$Files" "total" "I").before args s = true) (d : decode cc pc = .ok (.putfield index, 3))
    (k : ∀ (H1 : Heap) (locs1 : List Loc), oB G 2 q [x0, x1, .int y] H1 → (∀ a, a ≠ q → H1[a]? = H[a]?) → va_S A H0 H1 locs1 → W p l e R s m args below meth c H1 locs1 cells slots Q (F0 m (pc + 3) ls rest)) : W p l e R s m args below meth c H locs cells slots Q (F0 m pc ls (.int y :: .ref q :: rest)) := by
  have hap := va_apart (own := own) hts hin tyX2 tyX2_ok nmX2 hK.1 (ci := 2) rfl
  obtain ⟨r, h1, cell, q1, q2, q3, q4⟩ := hO
  have hr : r = (RX2, TX2, 3) := Option.some.inj (h1.symm.trans rfl)
  subst hr
  obtain ⟨hSl, hfc, kC, hkC, hkind⟩ := hK.1.1 2 _ rfl
  obtain ⟨cf, kf, fi, f, hi, hsl⟩ := hSl 2 (by decide)
  have hlay := hts _ (hin _ (u_in_lay (T := TX2) (C := RX2) (N := 3) (k := 2) (by decide)))
  unfold u_lay at hlay
  rw [if_neg (by decide)] at hlay
  have hst := (u_facts hfc hkC (u_lays hts hin (k := 2) (by decide)) hi).1
  have h6 := u_store hfc hkC hkind hlay hi (ty := .int) (v := .int y) (by decide) rfl rfl
  refine W.putK E.1 E.2 (f := f) ⟨hown, hl, ⟨_, _, _, hi⟩, hst⟩ (by rw [q2]; exact h6) q1 q3 (by rw [hsl]; exact k2_hasslot (q4 2 (by decide))) rfl rfl d fun H' e1 e2 e3 => ?_
  rw [hsl] at e1 ⊢
  refine k H' _ ?_ e3 (hS.put e2 e3 hq)
  exact ⟨_, rfl, t_OB.to (V := updV (vp_V [x0, x1, .int x2]) 2 (.int y)) ⟨_, e1, q2, q3, t_set q4 hap (by decide) _⟩ (fun j _ => vp_updV_set (fs := [x0, x1, .int x2]) (Nat.le_of_ble_eq_true rfl) _ j)⟩
theorem g3_0 (E : p.tables.exec = Jvm.exec ∧ c.code = cc) {own : String} {index q : Nat} {Ts : List Cond} {x0 : Value} {x1 : Value} {x2 : Value} {x3 : Int32} (hts : ∀ w ∈ Ts, w.before args s = true) (hin : ∀ w ∈ wsX30, w ∈ Ts) (hown : s.vm.findClass own = some m.cls) (hK : KK G s) (hO : oB G 3 q [x0, x1, x2, .int x3] H) (hl : (Cond.fieldLink own index "QuotaTree$Folders" "parent" "[I").before args s = true) (d : decode cc pc = .ok (.getfield index, 3))
    (k : W p l e R s m args below meth c H locs cells slots Q (F0 m (pc + 3) ls (x0 :: rest))) : W p l e R s m args below meth c H locs cells slots Q (F0 m pc ls (.ref q :: rest)) := va_get E.1 E.2 hts hin hown hK.1 (va1 hO) 0 rfl (C := RX3) (T := TX3) (N := 4) rfl 0 (by decide) hl (fun _ h9 => h9) rfl d k
theorem g3_1 (E : p.tables.exec = Jvm.exec ∧ c.code = cc) {own : String} {index q : Nat} {Ts : List Cond} {x0 : Value} {x1 : Value} {x2 : Value} {x3 : Int32} (hts : ∀ w ∈ Ts, w.before args s = true) (hin : ∀ w ∈ wsX30, w ∈ Ts) (hown : s.vm.findClass own = some m.cls) (hK : KK G s) (hO : oB G 3 q [x0, x1, x2, .int x3] H) (hl : (Cond.fieldLink own index "QuotaTree$Folders" "name" "[J").before args s = true) (d : decode cc pc = .ok (.getfield index, 3))
    (k : W p l e R s m args below meth c H locs cells slots Q (F0 m (pc + 3) ls (x1 :: rest))) : W p l e R s m args below meth c H locs cells slots Q (F0 m pc ls (.ref q :: rest)) := va_get E.1 E.2 hts hin hown hK.1 (va1 hO) 0 rfl (C := RX3) (T := TX3) (N := 4) rfl 1 (by decide) hl (fun _ h9 => h9) rfl d k
theorem g3_2 (E : p.tables.exec = Jvm.exec ∧ c.code = cc) {own : String} {index q : Nat} {Ts : List Cond} {x0 : Value} {x1 : Value} {x2 : Value} {x3 : Int32} (hts : ∀ w ∈ Ts, w.before args s = true) (hin : ∀ w ∈ wsX30, w ∈ Ts) (hown : s.vm.findClass own = some m.cls) (hK : KK G s) (hO : oB G 3 q [x0, x1, x2, .int x3] H) (hl : (Cond.fieldLink own index "QuotaTree$Folders" "tag" "[I").before args s = true) (d : decode cc pc = .ok (.getfield index, 3))
    (k : W p l e R s m args below meth c H locs cells slots Q (F0 m (pc + 3) ls (x2 :: rest))) : W p l e R s m args below meth c H locs cells slots Q (F0 m pc ls (.ref q :: rest)) := va_get E.1 E.2 hts hin hown hK.1 (va1 hO) 0 rfl (C := RX3) (T := TX3) (N := 4) rfl 2 (by decide) hl (fun _ h9 => h9) rfl d k
theorem g3_3 (E : p.tables.exec = Jvm.exec ∧ c.code = cc) {own : String} {index q : Nat} {Ts : List Cond} {x0 : Value} {x1 : Value} {x2 : Value} {x3 : Int32} (hts : ∀ w ∈ Ts, w.before args s = true) (hin : ∀ w ∈ wsX30, w ∈ Ts) (hown : s.vm.findClass own = some m.cls) (hK : KK G s) (hO : oB G 3 q [x0, x1, x2, .int x3] H) (hl : (Cond.fieldLink own index "QuotaTree$Folders" "total" "I").before args s = true) (d : decode cc pc = .ok (.getfield index, 3))
    (k : W p l e R s m args below meth c H locs cells slots Q (F0 m (pc + 3) ls (.int x3 :: rest))) : W p l e R s m args below meth c H locs cells slots Q (F0 m pc ls (.ref q :: rest)) := va_get E.1 E.2 hts hin hown hK.1 (va1 hO) 0 rfl (C := RX3) (T := TX3) (N := 4) rfl 3 (by decide) hl (fun _ h9 => h9) rfl d k
theorem p3_3 (E : p.tables.exec = Jvm.exec ∧ c.code = cc) {own : String} {index q : Nat} {Ts : List Cond} {x0 : Value} {x1 : Value} {x2 : Value} {x3 : Int32} {y : Int32} (hts : ∀ w ∈ Ts, w.before args s = true) (hin : ∀ w ∈ wsX30, w ∈ Ts) (hown : s.vm.findClass own = some m.cls) (hK : KK G s) (hO : oB G 3 q [x0, x1, x2, .int x3] H) (hS : va_S A H0 H locs) (hq : A q) (hl : (Cond.fieldLink own index "QuotaTree$Folders" "total" "I").before args s = true) (d : decode cc pc = .ok (.putfield index, 3))
    (k : ∀ (H1 : Heap) (locs1 : List Loc), oB G 3 q [x0, x1, x2, .int y] H1 → (∀ a, a ≠ q → H1[a]? = H[a]?) → va_S A H0 H1 locs1 → W p l e R s m args below meth c H1 locs1 cells slots Q (F0 m (pc + 3) ls rest)) : W p l e R s m args below meth c H locs cells slots Q (F0 m pc ls (.int y :: .ref q :: rest)) := by
  have hap := va_apart (own := own) hts hin tyX3 tyX3_ok nmX3 hK.1 (ci := 3) rfl
  obtain ⟨r, h1, cell, q1, q2, q3, q4⟩ := hO
  have hr : r = (RX3, TX3, 4) := Option.some.inj (h1.symm.trans rfl)
  subst hr
  obtain ⟨hSl, hfc, kC, hkC, hkind⟩ := hK.1.1 3 _ rfl
  obtain ⟨cf, kf, fi, f, hi, hsl⟩ := hSl 3 (by decide)
  have hlay := hts _ (hin _ (u_in_lay (T := TX3) (C := RX3) (N := 4) (k := 3) (by decide)))
  unfold u_lay at hlay
  rw [if_neg (by decide)] at hlay
  have hst := (u_facts hfc hkC (u_lays hts hin (k := 3) (by decide)) hi).1
  have h6 := u_store hfc hkC hkind hlay hi (ty := .int) (v := .int y) (by decide) rfl rfl
  refine W.putK E.1 E.2 (f := f) ⟨hown, hl, ⟨_, _, _, hi⟩, hst⟩ (by rw [q2]; exact h6) q1 q3 (by rw [hsl]; exact k2_hasslot (q4 3 (by decide))) rfl rfl d fun H' e1 e2 e3 => ?_
  rw [hsl] at e1 ⊢
  refine k H' _ ?_ e3 (hS.put e2 e3 hq)
  exact ⟨_, rfl, t_OB.to (V := updV (vp_V [x0, x1, x2, .int x3]) 3 (.int y)) ⟨_, e1, q2, q3, t_set q4 hap (by decide) _⟩ (fun j _ => vp_updV_set (fs := [x0, x1, x2, .int x3]) (Nat.le_of_ble_eq_true rfl) _ j)⟩
theorem g4_0 (E : p.tables.exec = Jvm.exec ∧ c.code = cc) {own : String} {index q : Nat} {Ts : List Cond} {x0 : Value} {x1 : Value} {x2 : Value} {x3 : Value} {x4 : Int32} (hts : ∀ w ∈ Ts, w.before args s = true) (hin : ∀ w ∈ wsX40, w ∈ Ts) (hown : s.vm.findClass own = some m.cls) (hK : KK G s) (hO : oB G 4 q [x0, x1, x2, x3, .int x4] H) (hl : (Cond.fieldLink own index "QuotaTree$Gifts" "giver" "[I").before args s = true) (d : decode cc pc = .ok (.getfield index, 3))
    (k : W p l e R s m args below meth c H locs cells slots Q (F0 m (pc + 3) ls (x0 :: rest))) : W p l e R s m args below meth c H locs cells slots Q (F0 m pc ls (.ref q :: rest)) := va_get E.1 E.2 hts hin hown hK.1 (va1 hO) 0 rfl (C := RX4) (T := TX4) (N := 5) rfl 0 (by decide) hl (fun _ h9 => h9) rfl d k
theorem g4_1 (E : p.tables.exec = Jvm.exec ∧ c.code = cc) {own : String} {index q : Nat} {Ts : List Cond} {x0 : Value} {x1 : Value} {x2 : Value} {x3 : Value} {x4 : Int32} (hts : ∀ w ∈ Ts, w.before args s = true) (hin : ∀ w ∈ wsX40, w ∈ Ts) (hown : s.vm.findClass own = some m.cls) (hK : KK G s) (hO : oB G 4 q [x0, x1, x2, x3, .int x4] H) (hl : (Cond.fieldLink own index "QuotaTree$Gifts" "getter" "[I").before args s = true) (d : decode cc pc = .ok (.getfield index, 3))
    (k : W p l e R s m args below meth c H locs cells slots Q (F0 m (pc + 3) ls (x1 :: rest))) : W p l e R s m args below meth c H locs cells slots Q (F0 m pc ls (.ref q :: rest)) := va_get E.1 E.2 hts hin hown hK.1 (va1 hO) 0 rfl (C := RX4) (T := TX4) (N := 5) rfl 1 (by decide) hl (fun _ h9 => h9) rfl d k
theorem g4_2 (E : p.tables.exec = Jvm.exec ∧ c.code = cc) {own : String} {index q : Nat} {Ts : List Cond} {x0 : Value} {x1 : Value} {x2 : Value} {x3 : Value} {x4 : Int32} (hts : ∀ w ∈ Ts, w.before args s = true) (hin : ∀ w ∈ wsX40, w ∈ Ts) (hown : s.vm.findClass own = some m.cls) (hK : KK G s) (hO : oB G 4 q [x0, x1, x2, x3, .int x4] H) (hl : (Cond.fieldLink own index "QuotaTree$Gifts" "blocks" "[I").before args s = true) (d : decode cc pc = .ok (.getfield index, 3))
    (k : W p l e R s m args below meth c H locs cells slots Q (F0 m (pc + 3) ls (x2 :: rest))) : W p l e R s m args below meth c H locs cells slots Q (F0 m pc ls (.ref q :: rest)) := va_get E.1 E.2 hts hin hown hK.1 (va1 hO) 0 rfl (C := RX4) (T := TX4) (N := 5) rfl 2 (by decide) hl (fun _ h9 => h9) rfl d k
theorem g4_3 (E : p.tables.exec = Jvm.exec ∧ c.code = cc) {own : String} {index q : Nat} {Ts : List Cond} {x0 : Value} {x1 : Value} {x2 : Value} {x3 : Value} {x4 : Int32} (hts : ∀ w ∈ Ts, w.before args s = true) (hin : ∀ w ∈ wsX40, w ∈ Ts) (hown : s.vm.findClass own = some m.cls) (hK : KK G s) (hO : oB G 4 q [x0, x1, x2, x3, .int x4] H) (hl : (Cond.fieldLink own index "QuotaTree$Gifts" "end" "[I").before args s = true) (d : decode cc pc = .ok (.getfield index, 3))
    (k : W p l e R s m args below meth c H locs cells slots Q (F0 m (pc + 3) ls (x3 :: rest))) : W p l e R s m args below meth c H locs cells slots Q (F0 m pc ls (.ref q :: rest)) := va_get E.1 E.2 hts hin hown hK.1 (va1 hO) 0 rfl (C := RX4) (T := TX4) (N := 5) rfl 3 (by decide) hl (fun _ h9 => h9) rfl d k
theorem g4_4 (E : p.tables.exec = Jvm.exec ∧ c.code = cc) {own : String} {index q : Nat} {Ts : List Cond} {x0 : Value} {x1 : Value} {x2 : Value} {x3 : Value} {x4 : Int32} (hts : ∀ w ∈ Ts, w.before args s = true) (hin : ∀ w ∈ wsX40, w ∈ Ts) (hown : s.vm.findClass own = some m.cls) (hK : KK G s) (hO : oB G 4 q [x0, x1, x2, x3, .int x4] H) (hl : (Cond.fieldLink own index "QuotaTree$Gifts" "total" "I").before args s = true) (d : decode cc pc = .ok (.getfield index, 3))
    (k : W p l e R s m args below meth c H locs cells slots Q (F0 m (pc + 3) ls (.int x4 :: rest))) : W p l e R s m args below meth c H locs cells slots Q (F0 m pc ls (.ref q :: rest)) := va_get E.1 E.2 hts hin hown hK.1 (va1 hO) 0 rfl (C := RX4) (T := TX4) (N := 5) rfl 4 (by decide) hl (fun _ h9 => h9) rfl d k
theorem p4_4 (E : p.tables.exec = Jvm.exec ∧ c.code = cc) {own : String} {index q : Nat} {Ts : List Cond} {x0 : Value} {x1 : Value} {x2 : Value} {x3 : Value} {x4 : Int32} {y : Int32} (hts : ∀ w ∈ Ts, w.before args s = true) (hin : ∀ w ∈ wsX40, w ∈ Ts) (hown : s.vm.findClass own = some m.cls) (hK : KK G s) (hO : oB G 4 q [x0, x1, x2, x3, .int x4] H) (hS : va_S A H0 H locs) (hq : A q) (hl : (Cond.fieldLink own index "QuotaTree$Gifts" "total" "I").before args s = true) (d : decode cc pc = .ok (.putfield index, 3))
    (k : ∀ (H1 : Heap) (locs1 : List Loc), oB G 4 q [x0, x1, x2, x3, .int y] H1 → (∀ a, a ≠ q → H1[a]? = H[a]?) → va_S A H0 H1 locs1 → W p l e R s m args below meth c H1 locs1 cells slots Q (F0 m (pc + 3) ls rest)) : W p l e R s m args below meth c H locs cells slots Q (F0 m pc ls (.int y :: .ref q :: rest)) := by
  have hap := va_apart (own := own) hts hin tyX4 tyX4_ok nmX4 hK.1 (ci := 4) rfl
  obtain ⟨r, h1, cell, q1, q2, q3, q4⟩ := hO
  have hr : r = (RX4, TX4, 5) := Option.some.inj (h1.symm.trans rfl)
  subst hr
  obtain ⟨hSl, hfc, kC, hkC, hkind⟩ := hK.1.1 4 _ rfl
  obtain ⟨cf, kf, fi, f, hi, hsl⟩ := hSl 4 (by decide)
  have hlay := hts _ (hin _ (u_in_lay (T := TX4) (C := RX4) (N := 5) (k := 4) (by decide)))
  unfold u_lay at hlay
  rw [if_neg (by decide)] at hlay
  have hst := (u_facts hfc hkC (u_lays hts hin (k := 4) (by decide)) hi).1
  have h6 := u_store hfc hkC hkind hlay hi (ty := .int) (v := .int y) (by decide) rfl rfl
  refine W.putK E.1 E.2 (f := f) ⟨hown, hl, ⟨_, _, _, hi⟩, hst⟩ (by rw [q2]; exact h6) q1 q3 (by rw [hsl]; exact k2_hasslot (q4 4 (by decide))) rfl rfl d fun H' e1 e2 e3 => ?_
  rw [hsl] at e1 ⊢
  refine k H' _ ?_ e3 (hS.put e2 e3 hq)
  exact ⟨_, rfl, t_OB.to (V := updV (vp_V [x0, x1, x2, x3, .int x4]) 4 (.int y)) ⟨_, e1, q2, q3, t_set q4 hap (by decide) _⟩ (fun j _ => vp_updV_set (fs := [x0, x1, x2, x3, .int x4]) (Nat.le_of_ble_eq_true rfl) _ j)⟩
theorem g5_0 (E : p.tables.exec = Jvm.exec ∧ c.code = cc) {own : String} {index q : Nat} {Ts : List Cond} {x0 : Value} {x1 : Int32} {x2 : Int32} {x3 : Value} {x4 : Int32} {x5 : Int32} {x6 : Int32} (hts : ∀ w ∈ Ts, w.before args s = true) (hin : ∀ w ∈ wsX50, w ∈ Ts) (hown : s.vm.findClass own = some m.cls) (hK : KK G s) (hO : oB G 5 q [x0, .int x1, .int x2, x3, .int x4, .int x5, .int x6] H) (hl : (Cond.fieldLink own index "QuotaTree$Reader" "draft" "LQuotaTree$State;").before args s = true) (d : decode cc pc = .ok (.getfield index, 3))
    (k : W p l e R s m args below meth c H locs cells slots Q (F0 m (pc + 3) ls (x0 :: rest))) : W p l e R s m args below meth c H locs cells slots Q (F0 m pc ls (.ref q :: rest)) := va_get E.1 E.2 hts hin hown hK.1 (va1 hO) 0 rfl (C := RX5) (T := TX5) (N := 7) rfl 0 (by decide) hl (fun _ h9 => h9) rfl d k
theorem g5_1 (E : p.tables.exec = Jvm.exec ∧ c.code = cc) {own : String} {index q : Nat} {Ts : List Cond} {x0 : Value} {x1 : Int32} {x2 : Int32} {x3 : Value} {x4 : Int32} {x5 : Int32} {x6 : Int32} (hts : ∀ w ∈ Ts, w.before args s = true) (hin : ∀ w ∈ wsX50, w ∈ Ts) (hown : s.vm.findClass own = some m.cls) (hK : KK G s) (hO : oB G 5 q [x0, .int x1, .int x2, x3, .int x4, .int x5, .int x6] H) (hl : (Cond.fieldLink own index "QuotaTree$Reader" "error" "I").before args s = true) (d : decode cc pc = .ok (.getfield index, 3))
    (k : W p l e R s m args below meth c H locs cells slots Q (F0 m (pc + 3) ls (.int x1 :: rest))) : W p l e R s m args below meth c H locs cells slots Q (F0 m pc ls (.ref q :: rest)) := va_get E.1 E.2 hts hin hown hK.1 (va1 hO) 0 rfl (C := RX5) (T := TX5) (N := 7) rfl 1 (by decide) hl (fun _ h9 => h9) rfl d k
theorem p5_1 (E : p.tables.exec = Jvm.exec ∧ c.code = cc) {own : String} {index q : Nat} {Ts : List Cond} {x0 : Value} {x1 : Int32} {x2 : Int32} {x3 : Value} {x4 : Int32} {x5 : Int32} {x6 : Int32} {y : Int32} (hts : ∀ w ∈ Ts, w.before args s = true) (hin : ∀ w ∈ wsX50, w ∈ Ts) (hown : s.vm.findClass own = some m.cls) (hK : KK G s) (hO : oB G 5 q [x0, .int x1, .int x2, x3, .int x4, .int x5, .int x6] H) (hS : va_S A H0 H locs) (hq : A q) (hl : (Cond.fieldLink own index "QuotaTree$Reader" "error" "I").before args s = true) (d : decode cc pc = .ok (.putfield index, 3))
    (k : ∀ (H1 : Heap) (locs1 : List Loc), oB G 5 q [x0, .int y, .int x2, x3, .int x4, .int x5, .int x6] H1 → (∀ a, a ≠ q → H1[a]? = H[a]?) → va_S A H0 H1 locs1 → W p l e R s m args below meth c H1 locs1 cells slots Q (F0 m (pc + 3) ls rest)) : W p l e R s m args below meth c H locs cells slots Q (F0 m pc ls (.int y :: .ref q :: rest)) := by
  have hap := va_apart (own := own) hts hin tyX5 tyX5_ok nmX5 hK.1 (ci := 5) rfl
  obtain ⟨r, h1, cell, q1, q2, q3, q4⟩ := hO
  have hr : r = (RX5, TX5, 7) := Option.some.inj (h1.symm.trans rfl)
  subst hr
  obtain ⟨hSl, hfc, kC, hkC, hkind⟩ := hK.1.1 5 _ rfl
  obtain ⟨cf, kf, fi, f, hi, hsl⟩ := hSl 1 (by decide)
  have hlay := hts _ (hin _ (u_in_lay (T := TX5) (C := RX5) (N := 7) (k := 1) (by decide)))
  unfold u_lay at hlay
  rw [if_neg (by decide)] at hlay
  have hst := (u_facts hfc hkC (u_lays hts hin (k := 1) (by decide)) hi).1
  have h6 := u_store hfc hkC hkind hlay hi (ty := .int) (v := .int y) (by decide) rfl rfl
  refine W.putK E.1 E.2 (f := f) ⟨hown, hl, ⟨_, _, _, hi⟩, hst⟩ (by rw [q2]; exact h6) q1 q3 (by rw [hsl]; exact k2_hasslot (q4 1 (by decide))) rfl rfl d fun H' e1 e2 e3 => ?_
  rw [hsl] at e1 ⊢
  refine k H' _ ?_ e3 (hS.put e2 e3 hq)
  exact ⟨_, rfl, t_OB.to (V := updV (vp_V [x0, .int x1, .int x2, x3, .int x4, .int x5, .int x6]) 1 (.int y)) ⟨_, e1, q2, q3, t_set q4 hap (by decide) _⟩ (fun j _ => vp_updV_set (fs := [x0, .int x1, .int x2, x3, .int x4, .int x5, .int x6]) (Nat.le_of_ble_eq_true rfl) _ j)⟩
theorem g5_2 (E : p.tables.exec = Jvm.exec ∧ c.code = cc) {own : String} {index q : Nat} {Ts : List Cond} {x0 : Value} {x1 : Int32} {x2 : Int32} {x3 : Value} {x4 : Int32} {x5 : Int32} {x6 : Int32} (hts : ∀ w ∈ Ts, w.before args s = true) (hin : ∀ w ∈ wsX50, w ∈ Ts) (hown : s.vm.findClass own = some m.cls) (hK : KK G s) (hO : oB G 5 q [x0, .int x1, .int x2, x3, .int x4, .int x5, .int x6] H) (hl : (Cond.fieldLink own index "QuotaTree$Reader" "errorAt" "I").before args s = true) (d : decode cc pc = .ok (.getfield index, 3))
    (k : W p l e R s m args below meth c H locs cells slots Q (F0 m (pc + 3) ls (.int x2 :: rest))) : W p l e R s m args below meth c H locs cells slots Q (F0 m pc ls (.ref q :: rest)) := va_get E.1 E.2 hts hin hown hK.1 (va1 hO) 0 rfl (C := RX5) (T := TX5) (N := 7) rfl 2 (by decide) hl (fun _ h9 => h9) rfl d k
theorem p5_2 (E : p.tables.exec = Jvm.exec ∧ c.code = cc) {own : String} {index q : Nat} {Ts : List Cond} {x0 : Value} {x1 : Int32} {x2 : Int32} {x3 : Value} {x4 : Int32} {x5 : Int32} {x6 : Int32} {y : Int32} (hts : ∀ w ∈ Ts, w.before args s = true) (hin : ∀ w ∈ wsX50, w ∈ Ts) (hown : s.vm.findClass own = some m.cls) (hK : KK G s) (hO : oB G 5 q [x0, .int x1, .int x2, x3, .int x4, .int x5, .int x6] H) (hS : va_S A H0 H locs) (hq : A q) (hl : (Cond.fieldLink own index "QuotaTree$Reader" "errorAt" "I").before args s = true) (d : decode cc pc = .ok (.putfield index, 3))
    (k : ∀ (H1 : Heap) (locs1 : List Loc), oB G 5 q [x0, .int x1, .int y, x3, .int x4, .int x5, .int x6] H1 → (∀ a, a ≠ q → H1[a]? = H[a]?) → va_S A H0 H1 locs1 → W p l e R s m args below meth c H1 locs1 cells slots Q (F0 m (pc + 3) ls rest)) : W p l e R s m args below meth c H locs cells slots Q (F0 m pc ls (.int y :: .ref q :: rest)) := by
  have hap := va_apart (own := own) hts hin tyX5 tyX5_ok nmX5 hK.1 (ci := 5) rfl
  obtain ⟨r, h1, cell, q1, q2, q3, q4⟩ := hO
  have hr : r = (RX5, TX5, 7) := Option.some.inj (h1.symm.trans rfl)
  subst hr
  obtain ⟨hSl, hfc, kC, hkC, hkind⟩ := hK.1.1 5 _ rfl
  obtain ⟨cf, kf, fi, f, hi, hsl⟩ := hSl 2 (by decide)
  have hlay := hts _ (hin _ (u_in_lay (T := TX5) (C := RX5) (N := 7) (k := 2) (by decide)))
  unfold u_lay at hlay
  rw [if_neg (by decide)] at hlay
  have hst := (u_facts hfc hkC (u_lays hts hin (k := 2) (by decide)) hi).1
  have h6 := u_store hfc hkC hkind hlay hi (ty := .int) (v := .int y) (by decide) rfl rfl
  refine W.putK E.1 E.2 (f := f) ⟨hown, hl, ⟨_, _, _, hi⟩, hst⟩ (by rw [q2]; exact h6) q1 q3 (by rw [hsl]; exact k2_hasslot (q4 2 (by decide))) rfl rfl d fun H' e1 e2 e3 => ?_
  rw [hsl] at e1 ⊢
  refine k H' _ ?_ e3 (hS.put e2 e3 hq)
  exact ⟨_, rfl, t_OB.to (V := updV (vp_V [x0, .int x1, .int x2, x3, .int x4, .int x5, .int x6]) 2 (.int y)) ⟨_, e1, q2, q3, t_set q4 hap (by decide) _⟩ (fun j _ => vp_updV_set (fs := [x0, .int x1, .int x2, x3, .int x4, .int x5, .int x6]) (Nat.le_of_ble_eq_true rfl) _ j)⟩
theorem g5_3 (E : p.tables.exec = Jvm.exec ∧ c.code = cc) {own : String} {index q : Nat} {Ts : List Cond} {x0 : Value} {x1 : Int32} {x2 : Int32} {x3 : Value} {x4 : Int32} {x5 : Int32} {x6 : Int32} (hts : ∀ w ∈ Ts, w.before args s = true) (hin : ∀ w ∈ wsX50, w ∈ Ts) (hown : s.vm.findClass own = some m.cls) (hK : KK G s) (hO : oB G 5 q [x0, .int x1, .int x2, x3, .int x4, .int x5, .int x6] H) (hl : (Cond.fieldLink own index "QuotaTree$Reader" "bytes" "[B").before args s = true) (d : decode cc pc = .ok (.getfield index, 3))
    (k : W p l e R s m args below meth c H locs cells slots Q (F0 m (pc + 3) ls (x3 :: rest))) : W p l e R s m args below meth c H locs cells slots Q (F0 m pc ls (.ref q :: rest)) := va_get E.1 E.2 hts hin hown hK.1 (va1 hO) 0 rfl (C := RX5) (T := TX5) (N := 7) rfl 3 (by decide) hl (fun _ h9 => h9) rfl d k
theorem g5_4 (E : p.tables.exec = Jvm.exec ∧ c.code = cc) {own : String} {index q : Nat} {Ts : List Cond} {x0 : Value} {x1 : Int32} {x2 : Int32} {x3 : Value} {x4 : Int32} {x5 : Int32} {x6 : Int32} (hts : ∀ w ∈ Ts, w.before args s = true) (hin : ∀ w ∈ wsX50, w ∈ Ts) (hown : s.vm.findClass own = some m.cls) (hK : KK G s) (hO : oB G 5 q [x0, .int x1, .int x2, x3, .int x4, .int x5, .int x6] H) (hl : (Cond.fieldLink own index "QuotaTree$Reader" "length" "I").before args s = true) (d : decode cc pc = .ok (.getfield index, 3))
    (k : W p l e R s m args below meth c H locs cells slots Q (F0 m (pc + 3) ls (.int x4 :: rest))) : W p l e R s m args below meth c H locs cells slots Q (F0 m pc ls (.ref q :: rest)) := va_get E.1 E.2 hts hin hown hK.1 (va1 hO) 0 rfl (C := RX5) (T := TX5) (N := 7) rfl 4 (by decide) hl (fun _ h9 => h9) rfl d k
theorem p5_4 (E : p.tables.exec = Jvm.exec ∧ c.code = cc) {own : String} {index q : Nat} {Ts : List Cond} {x0 : Value} {x1 : Int32} {x2 : Int32} {x3 : Value} {x4 : Int32} {x5 : Int32} {x6 : Int32} {y : Int32} (hts : ∀ w ∈ Ts, w.before args s = true) (hin : ∀ w ∈ wsX50, w ∈ Ts) (hown : s.vm.findClass own = some m.cls) (hK : KK G s) (hO : oB G 5 q [x0, .int x1, .int x2, x3, .int x4, .int x5, .int x6] H) (hS : va_S A H0 H locs) (hq : A q) (hl : (Cond.fieldLink own index "QuotaTree$Reader" "length" "I").before args s = true) (d : decode cc pc = .ok (.putfield index, 3))
    (k : ∀ (H1 : Heap) (locs1 : List Loc), oB G 5 q [x0, .int x1, .int x2, x3, .int y, .int x5, .int x6] H1 → (∀ a, a ≠ q → H1[a]? = H[a]?) → va_S A H0 H1 locs1 → W p l e R s m args below meth c H1 locs1 cells slots Q (F0 m (pc + 3) ls rest)) : W p l e R s m args below meth c H locs cells slots Q (F0 m pc ls (.int y :: .ref q :: rest)) := by
  have hap := va_apart (own := own) hts hin tyX5 tyX5_ok nmX5 hK.1 (ci := 5) rfl
  obtain ⟨r, h1, cell, q1, q2, q3, q4⟩ := hO
  have hr : r = (RX5, TX5, 7) := Option.some.inj (h1.symm.trans rfl)
  subst hr
  obtain ⟨hSl, hfc, kC, hkC, hkind⟩ := hK.1.1 5 _ rfl
  obtain ⟨cf, kf, fi, f, hi, hsl⟩ := hSl 4 (by decide)
  have hlay := hts _ (hin _ (u_in_lay (T := TX5) (C := RX5) (N := 7) (k := 4) (by decide)))
  unfold u_lay at hlay
  rw [if_neg (by decide)] at hlay
  have hst := (u_facts hfc hkC (u_lays hts hin (k := 4) (by decide)) hi).1
  have h6 := u_store hfc hkC hkind hlay hi (ty := .int) (v := .int y) (by decide) rfl rfl
  refine W.putK E.1 E.2 (f := f) ⟨hown, hl, ⟨_, _, _, hi⟩, hst⟩ (by rw [q2]; exact h6) q1 q3 (by rw [hsl]; exact k2_hasslot (q4 4 (by decide))) rfl rfl d fun H' e1 e2 e3 => ?_
  rw [hsl] at e1 ⊢
  refine k H' _ ?_ e3 (hS.put e2 e3 hq)
  exact ⟨_, rfl, t_OB.to (V := updV (vp_V [x0, .int x1, .int x2, x3, .int x4, .int x5, .int x6]) 4 (.int y)) ⟨_, e1, q2, q3, t_set q4 hap (by decide) _⟩ (fun j _ => vp_updV_set (fs := [x0, .int x1, .int x2, x3, .int x4, .int x5, .int x6]) (Nat.le_of_ble_eq_true rfl) _ j)⟩
theorem g5_5 (E : p.tables.exec = Jvm.exec ∧ c.code = cc) {own : String} {index q : Nat} {Ts : List Cond} {x0 : Value} {x1 : Int32} {x2 : Int32} {x3 : Value} {x4 : Int32} {x5 : Int32} {x6 : Int32} (hts : ∀ w ∈ Ts, w.before args s = true) (hin : ∀ w ∈ wsX50, w ∈ Ts) (hown : s.vm.findClass own = some m.cls) (hK : KK G s) (hO : oB G 5 q [x0, .int x1, .int x2, x3, .int x4, .int x5, .int x6] H) (hl : (Cond.fieldLink own index "QuotaTree$Reader" "at" "I").before args s = true) (d : decode cc pc = .ok (.getfield index, 3))
    (k : W p l e R s m args below meth c H locs cells slots Q (F0 m (pc + 3) ls (.int x5 :: rest))) : W p l e R s m args below meth c H locs cells slots Q (F0 m pc ls (.ref q :: rest)) := va_get E.1 E.2 hts hin hown hK.1 (va1 hO) 0 rfl (C := RX5) (T := TX5) (N := 7) rfl 5 (by decide) hl (fun _ h9 => h9) rfl d k
theorem p5_5 (E : p.tables.exec = Jvm.exec ∧ c.code = cc) {own : String} {index q : Nat} {Ts : List Cond} {x0 : Value} {x1 : Int32} {x2 : Int32} {x3 : Value} {x4 : Int32} {x5 : Int32} {x6 : Int32} {y : Int32} (hts : ∀ w ∈ Ts, w.before args s = true) (hin : ∀ w ∈ wsX50, w ∈ Ts) (hown : s.vm.findClass own = some m.cls) (hK : KK G s) (hO : oB G 5 q [x0, .int x1, .int x2, x3, .int x4, .int x5, .int x6] H) (hS : va_S A H0 H locs) (hq : A q) (hl : (Cond.fieldLink own index "QuotaTree$Reader" "at" "I").before args s = true) (d : decode cc pc = .ok (.putfield index, 3))
    (k : ∀ (H1 : Heap) (locs1 : List Loc), oB G 5 q [x0, .int x1, .int x2, x3, .int x4, .int y, .int x6] H1 → (∀ a, a ≠ q → H1[a]? = H[a]?) → va_S A H0 H1 locs1 → W p l e R s m args below meth c H1 locs1 cells slots Q (F0 m (pc + 3) ls rest)) : W p l e R s m args below meth c H locs cells slots Q (F0 m pc ls (.int y :: .ref q :: rest)) := by
  have hap := va_apart (own := own) hts hin tyX5 tyX5_ok nmX5 hK.1 (ci := 5) rfl
  obtain ⟨r, h1, cell, q1, q2, q3, q4⟩ := hO
  have hr : r = (RX5, TX5, 7) := Option.some.inj (h1.symm.trans rfl)
  subst hr
  obtain ⟨hSl, hfc, kC, hkC, hkind⟩ := hK.1.1 5 _ rfl
  obtain ⟨cf, kf, fi, f, hi, hsl⟩ := hSl 5 (by decide)
  have hlay := hts _ (hin _ (u_in_lay (T := TX5) (C := RX5) (N := 7) (k := 5) (by decide)))
  unfold u_lay at hlay
  rw [if_neg (by decide)] at hlay
  have hst := (u_facts hfc hkC (u_lays hts hin (k := 5) (by decide)) hi).1
  have h6 := u_store hfc hkC hkind hlay hi (ty := .int) (v := .int y) (by decide) rfl rfl
  refine W.putK E.1 E.2 (f := f) ⟨hown, hl, ⟨_, _, _, hi⟩, hst⟩ (by rw [q2]; exact h6) q1 q3 (by rw [hsl]; exact k2_hasslot (q4 5 (by decide))) rfl rfl d fun H' e1 e2 e3 => ?_
  rw [hsl] at e1 ⊢
  refine k H' _ ?_ e3 (hS.put e2 e3 hq)
  exact ⟨_, rfl, t_OB.to (V := updV (vp_V [x0, .int x1, .int x2, x3, .int x4, .int x5, .int x6]) 5 (.int y)) ⟨_, e1, q2, q3, t_set q4 hap (by decide) _⟩ (fun j _ => vp_updV_set (fs := [x0, .int x1, .int x2, x3, .int x4, .int x5, .int x6]) (Nat.le_of_ble_eq_true rfl) _ j)⟩
theorem g5_6 (E : p.tables.exec = Jvm.exec ∧ c.code = cc) {own : String} {index q : Nat} {Ts : List Cond} {x0 : Value} {x1 : Int32} {x2 : Int32} {x3 : Value} {x4 : Int32} {x5 : Int32} {x6 : Int32} (hts : ∀ w ∈ Ts, w.before args s = true) (hin : ∀ w ∈ wsX50, w ∈ Ts) (hown : s.vm.findClass own = some m.cls) (hK : KK G s) (hO : oB G 5 q [x0, .int x1, .int x2, x3, .int x4, .int x5, .int x6] H) (hl : (Cond.fieldLink own index "QuotaTree$Reader" "tokenAt" "I").before args s = true) (d : decode cc pc = .ok (.getfield index, 3))
    (k : W p l e R s m args below meth c H locs cells slots Q (F0 m (pc + 3) ls (.int x6 :: rest))) : W p l e R s m args below meth c H locs cells slots Q (F0 m pc ls (.ref q :: rest)) := va_get E.1 E.2 hts hin hown hK.1 (va1 hO) 0 rfl (C := RX5) (T := TX5) (N := 7) rfl 6 (by decide) hl (fun _ h9 => h9) rfl d k
theorem p5_6 (E : p.tables.exec = Jvm.exec ∧ c.code = cc) {own : String} {index q : Nat} {Ts : List Cond} {x0 : Value} {x1 : Int32} {x2 : Int32} {x3 : Value} {x4 : Int32} {x5 : Int32} {x6 : Int32} {y : Int32} (hts : ∀ w ∈ Ts, w.before args s = true) (hin : ∀ w ∈ wsX50, w ∈ Ts) (hown : s.vm.findClass own = some m.cls) (hK : KK G s) (hO : oB G 5 q [x0, .int x1, .int x2, x3, .int x4, .int x5, .int x6] H) (hS : va_S A H0 H locs) (hq : A q) (hl : (Cond.fieldLink own index "QuotaTree$Reader" "tokenAt" "I").before args s = true) (d : decode cc pc = .ok (.putfield index, 3))
    (k : ∀ (H1 : Heap) (locs1 : List Loc), oB G 5 q [x0, .int x1, .int x2, x3, .int x4, .int x5, .int y] H1 → (∀ a, a ≠ q → H1[a]? = H[a]?) → va_S A H0 H1 locs1 → W p l e R s m args below meth c H1 locs1 cells slots Q (F0 m (pc + 3) ls rest)) : W p l e R s m args below meth c H locs cells slots Q (F0 m pc ls (.int y :: .ref q :: rest)) := by
  have hap := va_apart (own := own) hts hin tyX5 tyX5_ok nmX5 hK.1 (ci := 5) rfl
  obtain ⟨r, h1, cell, q1, q2, q3, q4⟩ := hO
  have hr : r = (RX5, TX5, 7) := Option.some.inj (h1.symm.trans rfl)
  subst hr
  obtain ⟨hSl, hfc, kC, hkC, hkind⟩ := hK.1.1 5 _ rfl
  obtain ⟨cf, kf, fi, f, hi, hsl⟩ := hSl 6 (by decide)
  have hlay := hts _ (hin _ (u_in_lay (T := TX5) (C := RX5) (N := 7) (k := 6) (by decide)))
  unfold u_lay at hlay
  rw [if_neg (by decide)] at hlay
  have hst := (u_facts hfc hkC (u_lays hts hin (k := 6) (by decide)) hi).1
  have h6 := u_store hfc hkC hkind hlay hi (ty := .int) (v := .int y) (by decide) rfl rfl
  refine W.putK E.1 E.2 (f := f) ⟨hown, hl, ⟨_, _, _, hi⟩, hst⟩ (by rw [q2]; exact h6) q1 q3 (by rw [hsl]; exact k2_hasslot (q4 6 (by decide))) rfl rfl d fun H' e1 e2 e3 => ?_
  rw [hsl] at e1 ⊢
  refine k H' _ ?_ e3 (hS.put e2 e3 hq)
  exact ⟨_, rfl, t_OB.to (V := updV (vp_V [x0, .int x1, .int x2, x3, .int x4, .int x5, .int x6]) 6 (.int y)) ⟨_, e1, q2, q3, t_set q4 hap (by decide) _⟩ (fun j _ => vp_updV_set (fs := [x0, .int x1, .int x2, x3, .int x4, .int x5, .int x6]) (Nat.le_of_ble_eq_true rfl) _ j)⟩
theorem g6_0 (E : p.tables.exec = Jvm.exec ∧ c.code = cc) {own : String} {index q : Nat} {Ts : List Cond} {x0 : Value} {x1 : Value} {x2 : Value} {x3 : Value} {x4 : Int32} {x5 : Int32} (hts : ∀ w ∈ Ts, w.before args s = true) (hin : ∀ w ∈ wsX60, w ∈ Ts) (hown : s.vm.findClass own = some m.cls) (hK : KK G s) (hO : oB G 6 q [x0, x1, x2, x3, .int x4, .int x5] H) (hl : (Cond.fieldLink own index "QuotaTree$State" "folders" "LQuotaTree$Folders;").before args s = true) (d : decode cc pc = .ok (.getfield index, 3))
    (k : W p l e R s m args below meth c H locs cells slots Q (F0 m (pc + 3) ls (x0 :: rest))) : W p l e R s m args below meth c H locs cells slots Q (F0 m pc ls (.ref q :: rest)) := va_get E.1 E.2 hts hin hown hK.1 (va1 hO) 0 rfl (C := RX6) (T := TX6) (N := 6) rfl 0 (by decide) hl (fun _ h9 => h9) rfl d k
theorem g6_1 (E : p.tables.exec = Jvm.exec ∧ c.code = cc) {own : String} {index q : Nat} {Ts : List Cond} {x0 : Value} {x1 : Value} {x2 : Value} {x3 : Value} {x4 : Int32} {x5 : Int32} (hts : ∀ w ∈ Ts, w.before args s = true) (hin : ∀ w ∈ wsX60, w ∈ Ts) (hown : s.vm.findClass own = some m.cls) (hK : KK G s) (hO : oB G 6 q [x0, x1, x2, x3, .int x4, .int x5] H) (hl : (Cond.fieldLink own index "QuotaTree$State" "files" "LQuotaTree$Files;").before args s = true) (d : decode cc pc = .ok (.getfield index, 3))
    (k : W p l e R s m args below meth c H locs cells slots Q (F0 m (pc + 3) ls (x1 :: rest))) : W p l e R s m args below meth c H locs cells slots Q (F0 m pc ls (.ref q :: rest)) := va_get E.1 E.2 hts hin hown hK.1 (va1 hO) 0 rfl (C := RX6) (T := TX6) (N := 6) rfl 1 (by decide) hl (fun _ h9 => h9) rfl d k
theorem g6_2 (E : p.tables.exec = Jvm.exec ∧ c.code = cc) {own : String} {index q : Nat} {Ts : List Cond} {x0 : Value} {x1 : Value} {x2 : Value} {x3 : Value} {x4 : Int32} {x5 : Int32} (hts : ∀ w ∈ Ts, w.before args s = true) (hin : ∀ w ∈ wsX60, w ∈ Ts) (hown : s.vm.findClass own = some m.cls) (hK : KK G s) (hO : oB G 6 q [x0, x1, x2, x3, .int x4, .int x5] H) (hl : (Cond.fieldLink own index "QuotaTree$State" "accounts" "LQuotaTree$Accounts;").before args s = true) (d : decode cc pc = .ok (.getfield index, 3))
    (k : W p l e R s m args below meth c H locs cells slots Q (F0 m (pc + 3) ls (x2 :: rest))) : W p l e R s m args below meth c H locs cells slots Q (F0 m pc ls (.ref q :: rest)) := va_get E.1 E.2 hts hin hown hK.1 (va1 hO) 0 rfl (C := RX6) (T := TX6) (N := 6) rfl 2 (by decide) hl (fun _ h9 => h9) rfl d k
theorem g6_3 (E : p.tables.exec = Jvm.exec ∧ c.code = cc) {own : String} {index q : Nat} {Ts : List Cond} {x0 : Value} {x1 : Value} {x2 : Value} {x3 : Value} {x4 : Int32} {x5 : Int32} (hts : ∀ w ∈ Ts, w.before args s = true) (hin : ∀ w ∈ wsX60, w ∈ Ts) (hown : s.vm.findClass own = some m.cls) (hK : KK G s) (hO : oB G 6 q [x0, x1, x2, x3, .int x4, .int x5] H) (hl : (Cond.fieldLink own index "QuotaTree$State" "gifts" "LQuotaTree$Gifts;").before args s = true) (d : decode cc pc = .ok (.getfield index, 3))
    (k : W p l e R s m args below meth c H locs cells slots Q (F0 m (pc + 3) ls (x3 :: rest))) : W p l e R s m args below meth c H locs cells slots Q (F0 m pc ls (.ref q :: rest)) := va_get E.1 E.2 hts hin hown hK.1 (va1 hO) 0 rfl (C := RX6) (T := TX6) (N := 6) rfl 3 (by decide) hl (fun _ h9 => h9) rfl d k
theorem g6_4 (E : p.tables.exec = Jvm.exec ∧ c.code = cc) {own : String} {index q : Nat} {Ts : List Cond} {x0 : Value} {x1 : Value} {x2 : Value} {x3 : Value} {x4 : Int32} {x5 : Int32} (hts : ∀ w ∈ Ts, w.before args s = true) (hin : ∀ w ∈ wsX60, w ∈ Ts) (hown : s.vm.findClass own = some m.cls) (hK : KK G s) (hO : oB G 6 q [x0, x1, x2, x3, .int x4, .int x5] H) (hl : (Cond.fieldLink own index "QuotaTree$State" "time" "I").before args s = true) (d : decode cc pc = .ok (.getfield index, 3))
    (k : W p l e R s m args below meth c H locs cells slots Q (F0 m (pc + 3) ls (.int x4 :: rest))) : W p l e R s m args below meth c H locs cells slots Q (F0 m pc ls (.ref q :: rest)) := va_get E.1 E.2 hts hin hown hK.1 (va1 hO) 0 rfl (C := RX6) (T := TX6) (N := 6) rfl 4 (by decide) hl (fun _ h9 => h9) rfl d k
theorem p6_4 (E : p.tables.exec = Jvm.exec ∧ c.code = cc) {own : String} {index q : Nat} {Ts : List Cond} {x0 : Value} {x1 : Value} {x2 : Value} {x3 : Value} {x4 : Int32} {x5 : Int32} {y : Int32} (hts : ∀ w ∈ Ts, w.before args s = true) (hin : ∀ w ∈ wsX60, w ∈ Ts) (hown : s.vm.findClass own = some m.cls) (hK : KK G s) (hO : oB G 6 q [x0, x1, x2, x3, .int x4, .int x5] H) (hS : va_S A H0 H locs) (hq : A q) (hl : (Cond.fieldLink own index "QuotaTree$State" "time" "I").before args s = true) (d : decode cc pc = .ok (.putfield index, 3))
    (k : ∀ (H1 : Heap) (locs1 : List Loc), oB G 6 q [x0, x1, x2, x3, .int y, .int x5] H1 → (∀ a, a ≠ q → H1[a]? = H[a]?) → va_S A H0 H1 locs1 → W p l e R s m args below meth c H1 locs1 cells slots Q (F0 m (pc + 3) ls rest)) : W p l e R s m args below meth c H locs cells slots Q (F0 m pc ls (.int y :: .ref q :: rest)) := by
  have hap := va_apart (own := own) hts hin tyX6 tyX6_ok nmX6 hK.1 (ci := 6) rfl
  obtain ⟨r, h1, cell, q1, q2, q3, q4⟩ := hO
  have hr : r = (RX6, TX6, 6) := Option.some.inj (h1.symm.trans rfl)
  subst hr
  obtain ⟨hSl, hfc, kC, hkC, hkind⟩ := hK.1.1 6 _ rfl
  obtain ⟨cf, kf, fi, f, hi, hsl⟩ := hSl 4 (by decide)
  have hlay := hts _ (hin _ (u_in_lay (T := TX6) (C := RX6) (N := 6) (k := 4) (by decide)))
  unfold u_lay at hlay
  rw [if_neg (by decide)] at hlay
  have hst := (u_facts hfc hkC (u_lays hts hin (k := 4) (by decide)) hi).1
  have h6 := u_store hfc hkC hkind hlay hi (ty := .int) (v := .int y) (by decide) rfl rfl
  refine W.putK E.1 E.2 (f := f) ⟨hown, hl, ⟨_, _, _, hi⟩, hst⟩ (by rw [q2]; exact h6) q1 q3 (by rw [hsl]; exact k2_hasslot (q4 4 (by decide))) rfl rfl d fun H' e1 e2 e3 => ?_
  rw [hsl] at e1 ⊢
  refine k H' _ ?_ e3 (hS.put e2 e3 hq)
  exact ⟨_, rfl, t_OB.to (V := updV (vp_V [x0, x1, x2, x3, .int x4, .int x5]) 4 (.int y)) ⟨_, e1, q2, q3, t_set q4 hap (by decide) _⟩ (fun j _ => vp_updV_set (fs := [x0, x1, x2, x3, .int x4, .int x5]) (Nat.le_of_ble_eq_true rfl) _ j)⟩
theorem g6_5 (E : p.tables.exec = Jvm.exec ∧ c.code = cc) {own : String} {index q : Nat} {Ts : List Cond} {x0 : Value} {x1 : Value} {x2 : Value} {x3 : Value} {x4 : Int32} {x5 : Int32} (hts : ∀ w ∈ Ts, w.before args s = true) (hin : ∀ w ∈ wsX60, w ∈ Ts) (hown : s.vm.findClass own = some m.cls) (hK : KK G s) (hO : oB G 6 q [x0, x1, x2, x3, .int x4, .int x5] H) (hl : (Cond.fieldLink own index "QuotaTree$State" "grace" "I").before args s = true) (d : decode cc pc = .ok (.getfield index, 3))
    (k : W p l e R s m args below meth c H locs cells slots Q (F0 m (pc + 3) ls (.int x5 :: rest))) : W p l e R s m args below meth c H locs cells slots Q (F0 m pc ls (.ref q :: rest)) := va_get E.1 E.2 hts hin hown hK.1 (va1 hO) 0 rfl (C := RX6) (T := TX6) (N := 6) rfl 5 (by decide) hl (fun _ h9 => h9) rfl d k
theorem p6_5 (E : p.tables.exec = Jvm.exec ∧ c.code = cc) {own : String} {index q : Nat} {Ts : List Cond} {x0 : Value} {x1 : Value} {x2 : Value} {x3 : Value} {x4 : Int32} {x5 : Int32} {y : Int32} (hts : ∀ w ∈ Ts, w.before args s = true) (hin : ∀ w ∈ wsX60, w ∈ Ts) (hown : s.vm.findClass own = some m.cls) (hK : KK G s) (hO : oB G 6 q [x0, x1, x2, x3, .int x4, .int x5] H) (hS : va_S A H0 H locs) (hq : A q) (hl : (Cond.fieldLink own index "QuotaTree$State" "grace" "I").before args s = true) (d : decode cc pc = .ok (.putfield index, 3))
    (k : ∀ (H1 : Heap) (locs1 : List Loc), oB G 6 q [x0, x1, x2, x3, .int x4, .int y] H1 → (∀ a, a ≠ q → H1[a]? = H[a]?) → va_S A H0 H1 locs1 → W p l e R s m args below meth c H1 locs1 cells slots Q (F0 m (pc + 3) ls rest)) : W p l e R s m args below meth c H locs cells slots Q (F0 m pc ls (.int y :: .ref q :: rest)) := by
  have hap := va_apart (own := own) hts hin tyX6 tyX6_ok nmX6 hK.1 (ci := 6) rfl
  obtain ⟨r, h1, cell, q1, q2, q3, q4⟩ := hO
  have hr : r = (RX6, TX6, 6) := Option.some.inj (h1.symm.trans rfl)
  subst hr
  obtain ⟨hSl, hfc, kC, hkC, hkind⟩ := hK.1.1 6 _ rfl
  obtain ⟨cf, kf, fi, f, hi, hsl⟩ := hSl 5 (by decide)
  have hlay := hts _ (hin _ (u_in_lay (T := TX6) (C := RX6) (N := 6) (k := 5) (by decide)))
  unfold u_lay at hlay
  rw [if_neg (by decide)] at hlay
  have hst := (u_facts hfc hkC (u_lays hts hin (k := 5) (by decide)) hi).1
  have h6 := u_store hfc hkC hkind hlay hi (ty := .int) (v := .int y) (by decide) rfl rfl
  refine W.putK E.1 E.2 (f := f) ⟨hown, hl, ⟨_, _, _, hi⟩, hst⟩ (by rw [q2]; exact h6) q1 q3 (by rw [hsl]; exact k2_hasslot (q4 5 (by decide))) rfl rfl d fun H' e1 e2 e3 => ?_
  rw [hsl] at e1 ⊢
  refine k H' _ ?_ e3 (hS.put e2 e3 hq)
  exact ⟨_, rfl, t_OB.to (V := updV (vp_V [x0, x1, x2, x3, .int x4, .int x5]) 5 (.int y)) ⟨_, e1, q2, q3, t_set q4 hap (by decide) _⟩ (fun j _ => vp_updV_set (fs := [x0, x1, x2, x3, .int x4, .int x5]) (Nat.le_of_ble_eq_true rfl) _ j)⟩
theorem g7_0 (E : p.tables.exec = Jvm.exec ∧ c.code = cc) {own : String} {index q : Nat} {Ts : List Cond} {x0 : Value} {x1 : Value} {x2 : Int32} {x3 : Int32} {x4 : Value} {x5 : Value} {x6 : Value} (hts : ∀ w ∈ Ts, w.before args s = true) (hin : ∀ w ∈ wsX70, w ∈ Ts) (hown : s.vm.findClass own = some m.cls) (hK : KK G s) (hO : oB G 7 q [x0, x1, .int x2, .int x3, x4, x5, x6] H) (hl : (Cond.fieldLink own index "QuotaTree" "now" "LQuotaTree$State;").before args s = true) (d : decode cc pc = .ok (.getfield index, 3))
    (k : W p l e R s m args below meth c H locs cells slots Q (F0 m (pc + 3) ls (x0 :: rest))) : W p l e R s m args below meth c H locs cells slots Q (F0 m pc ls (.ref q :: rest)) := va_get E.1 E.2 hts hin hown hK.1 (va1 hO) 0 rfl (C := RX7) (T := TX7) (N := 7) rfl 0 (by decide) hl (fun _ h9 => h9) rfl d k
theorem g7_1 (E : p.tables.exec = Jvm.exec ∧ c.code = cc) {own : String} {index q : Nat} {Ts : List Cond} {x0 : Value} {x1 : Value} {x2 : Int32} {x3 : Int32} {x4 : Value} {x5 : Value} {x6 : Value} (hts : ∀ w ∈ Ts, w.before args s = true) (hin : ∀ w ∈ wsX70, w ∈ Ts) (hown : s.vm.findClass own = some m.cls) (hK : KK G s) (hO : oB G 7 q [x0, x1, .int x2, .int x3, x4, x5, x6] H) (hl : (Cond.fieldLink own index "QuotaTree" "past" "[LQuotaTree$State;").before args s = true) (d : decode cc pc = .ok (.getfield index, 3))
    (k : W p l e R s m args below meth c H locs cells slots Q (F0 m (pc + 3) ls (x1 :: rest))) : W p l e R s m args below meth c H locs cells slots Q (F0 m pc ls (.ref q :: rest)) := va_get E.1 E.2 hts hin hown hK.1 (va1 hO) 0 rfl (C := RX7) (T := TX7) (N := 7) rfl 1 (by decide) hl (fun _ h9 => h9) rfl d k
theorem g7_2 (E : p.tables.exec = Jvm.exec ∧ c.code = cc) {own : String} {index q : Nat} {Ts : List Cond} {x0 : Value} {x1 : Value} {x2 : Int32} {x3 : Int32} {x4 : Value} {x5 : Value} {x6 : Value} (hts : ∀ w ∈ Ts, w.before args s = true) (hin : ∀ w ∈ wsX70, w ∈ Ts) (hown : s.vm.findClass own = some m.cls) (hK : KK G s) (hO : oB G 7 q [x0, x1, .int x2, .int x3, x4, x5, x6] H) (hl : (Cond.fieldLink own index "QuotaTree" "changes" "I").before args s = true) (d : decode cc pc = .ok (.getfield index, 3))
    (k : W p l e R s m args below meth c H locs cells slots Q (F0 m (pc + 3) ls (.int x2 :: rest))) : W p l e R s m args below meth c H locs cells slots Q (F0 m pc ls (.ref q :: rest)) := va_get E.1 E.2 hts hin hown hK.1 (va1 hO) 0 rfl (C := RX7) (T := TX7) (N := 7) rfl 2 (by decide) hl (fun _ h9 => h9) rfl d k
theorem p7_2 (E : p.tables.exec = Jvm.exec ∧ c.code = cc) {own : String} {index q : Nat} {Ts : List Cond} {x0 : Value} {x1 : Value} {x2 : Int32} {x3 : Int32} {x4 : Value} {x5 : Value} {x6 : Value} {y : Int32} (hts : ∀ w ∈ Ts, w.before args s = true) (hin : ∀ w ∈ wsX70, w ∈ Ts) (hown : s.vm.findClass own = some m.cls) (hK : KK G s) (hO : oB G 7 q [x0, x1, .int x2, .int x3, x4, x5, x6] H) (hS : va_S A H0 H locs) (hq : A q) (hl : (Cond.fieldLink own index "QuotaTree" "changes" "I").before args s = true) (d : decode cc pc = .ok (.putfield index, 3))
    (k : ∀ (H1 : Heap) (locs1 : List Loc), oB G 7 q [x0, x1, .int y, .int x3, x4, x5, x6] H1 → (∀ a, a ≠ q → H1[a]? = H[a]?) → va_S A H0 H1 locs1 → W p l e R s m args below meth c H1 locs1 cells slots Q (F0 m (pc + 3) ls rest)) : W p l e R s m args below meth c H locs cells slots Q (F0 m pc ls (.int y :: .ref q :: rest)) := by
  have hap := va_apart (own := own) hts hin tyX7 tyX7_ok nmX7 hK.1 (ci := 7) rfl
  obtain ⟨r, h1, cell, q1, q2, q3, q4⟩ := hO
  have hr : r = (RX7, TX7, 7) := Option.some.inj (h1.symm.trans rfl)
  subst hr
  obtain ⟨hSl, hfc, kC, hkC, hkind⟩ := hK.1.1 7 _ rfl
  obtain ⟨cf, kf, fi, f, hi, hsl⟩ := hSl 2 (by decide)
  have hlay := hts _ (hin _ (u_in_lay (T := TX7) (C := RX7) (N := 7) (k := 2) (by decide)))
  unfold u_lay at hlay
  rw [if_neg (by decide)] at hlay
  have hst := (u_facts hfc hkC (u_lays hts hin (k := 2) (by decide)) hi).1
  have h6 := u_store hfc hkC hkind hlay hi (ty := .int) (v := .int y) (by decide) rfl rfl
  refine W.putK E.1 E.2 (f := f) ⟨hown, hl, ⟨_, _, _, hi⟩, hst⟩ (by rw [q2]; exact h6) q1 q3 (by rw [hsl]; exact k2_hasslot (q4 2 (by decide))) rfl rfl d fun H' e1 e2 e3 => ?_
  rw [hsl] at e1 ⊢
  refine k H' _ ?_ e3 (hS.put e2 e3 hq)
  exact ⟨_, rfl, t_OB.to (V := updV (vp_V [x0, x1, .int x2, .int x3, x4, x5, x6]) 2 (.int y)) ⟨_, e1, q2, q3, t_set q4 hap (by decide) _⟩ (fun j _ => vp_updV_set (fs := [x0, x1, .int x2, .int x3, x4, x5, x6]) (Nat.le_of_ble_eq_true rfl) _ j)⟩
theorem g7_3 (E : p.tables.exec = Jvm.exec ∧ c.code = cc) {own : String} {index q : Nat} {Ts : List Cond} {x0 : Value} {x1 : Value} {x2 : Int32} {x3 : Int32} {x4 : Value} {x5 : Value} {x6 : Value} (hts : ∀ w ∈ Ts, w.before args s = true) (hin : ∀ w ∈ wsX70, w ∈ Ts) (hown : s.vm.findClass own = some m.cls) (hK : KK G s) (hO : oB G 7 q [x0, x1, .int x2, .int x3, x4, x5, x6] H) (hl : (Cond.fieldLink own index "QuotaTree" "undoable" "I").before args s = true) (d : decode cc pc = .ok (.getfield index, 3))
    (k : W p l e R s m args below meth c H locs cells slots Q (F0 m (pc + 3) ls (.int x3 :: rest))) : W p l e R s m args below meth c H locs cells slots Q (F0 m pc ls (.ref q :: rest)) := va_get E.1 E.2 hts hin hown hK.1 (va1 hO) 0 rfl (C := RX7) (T := TX7) (N := 7) rfl 3 (by decide) hl (fun _ h9 => h9) rfl d k
theorem p7_3 (E : p.tables.exec = Jvm.exec ∧ c.code = cc) {own : String} {index q : Nat} {Ts : List Cond} {x0 : Value} {x1 : Value} {x2 : Int32} {x3 : Int32} {x4 : Value} {x5 : Value} {x6 : Value} {y : Int32} (hts : ∀ w ∈ Ts, w.before args s = true) (hin : ∀ w ∈ wsX70, w ∈ Ts) (hown : s.vm.findClass own = some m.cls) (hK : KK G s) (hO : oB G 7 q [x0, x1, .int x2, .int x3, x4, x5, x6] H) (hS : va_S A H0 H locs) (hq : A q) (hl : (Cond.fieldLink own index "QuotaTree" "undoable" "I").before args s = true) (d : decode cc pc = .ok (.putfield index, 3))
    (k : ∀ (H1 : Heap) (locs1 : List Loc), oB G 7 q [x0, x1, .int x2, .int y, x4, x5, x6] H1 → (∀ a, a ≠ q → H1[a]? = H[a]?) → va_S A H0 H1 locs1 → W p l e R s m args below meth c H1 locs1 cells slots Q (F0 m (pc + 3) ls rest)) : W p l e R s m args below meth c H locs cells slots Q (F0 m pc ls (.int y :: .ref q :: rest)) := by
  have hap := va_apart (own := own) hts hin tyX7 tyX7_ok nmX7 hK.1 (ci := 7) rfl
  obtain ⟨r, h1, cell, q1, q2, q3, q4⟩ := hO
  have hr : r = (RX7, TX7, 7) := Option.some.inj (h1.symm.trans rfl)
  subst hr
  obtain ⟨hSl, hfc, kC, hkC, hkind⟩ := hK.1.1 7 _ rfl
  obtain ⟨cf, kf, fi, f, hi, hsl⟩ := hSl 3 (by decide)
  have hlay := hts _ (hin _ (u_in_lay (T := TX7) (C := RX7) (N := 7) (k := 3) (by decide)))
  unfold u_lay at hlay
  rw [if_neg (by decide)] at hlay
  have hst := (u_facts hfc hkC (u_lays hts hin (k := 3) (by decide)) hi).1
  have h6 := u_store hfc hkC hkind hlay hi (ty := .int) (v := .int y) (by decide) rfl rfl
  refine W.putK E.1 E.2 (f := f) ⟨hown, hl, ⟨_, _, _, hi⟩, hst⟩ (by rw [q2]; exact h6) q1 q3 (by rw [hsl]; exact k2_hasslot (q4 3 (by decide))) rfl rfl d fun H' e1 e2 e3 => ?_
  rw [hsl] at e1 ⊢
  refine k H' _ ?_ e3 (hS.put e2 e3 hq)
  exact ⟨_, rfl, t_OB.to (V := updV (vp_V [x0, x1, .int x2, .int x3, x4, x5, x6]) 3 (.int y)) ⟨_, e1, q2, q3, t_set q4 hap (by decide) _⟩ (fun j _ => vp_updV_set (fs := [x0, x1, .int x2, .int x3, x4, x5, x6]) (Nat.le_of_ble_eq_true rfl) _ j)⟩
theorem g7_4 (E : p.tables.exec = Jvm.exec ∧ c.code = cc) {own : String} {index q : Nat} {Ts : List Cond} {x0 : Value} {x1 : Value} {x2 : Int32} {x3 : Int32} {x4 : Value} {x5 : Value} {x6 : Value} (hts : ∀ w ∈ Ts, w.before args s = true) (hin : ∀ w ∈ wsX70, w ∈ Ts) (hown : s.vm.findClass own = some m.cls) (hK : KK G s) (hO : oB G 7 q [x0, x1, .int x2, .int x3, x4, x5, x6] H) (hl : (Cond.fieldLink own index "QuotaTree" "text" "LQuotaTree$Bytes;").before args s = true) (d : decode cc pc = .ok (.getfield index, 3))
    (k : W p l e R s m args below meth c H locs cells slots Q (F0 m (pc + 3) ls (x4 :: rest))) : W p l e R s m args below meth c H locs cells slots Q (F0 m pc ls (.ref q :: rest)) := va_get E.1 E.2 hts hin hown hK.1 (va1 hO) 0 rfl (C := RX7) (T := TX7) (N := 7) rfl 4 (by decide) hl (fun _ h9 => h9) rfl d k
theorem g7_5 (E : p.tables.exec = Jvm.exec ∧ c.code = cc) {own : String} {index q : Nat} {Ts : List Cond} {x0 : Value} {x1 : Value} {x2 : Int32} {x3 : Int32} {x4 : Value} {x5 : Value} {x6 : Value} (hts : ∀ w ∈ Ts, w.before args s = true) (hin : ∀ w ∈ wsX70, w ∈ Ts) (hown : s.vm.findClass own = some m.cls) (hK : KK G s) (hO : oB G 7 q [x0, x1, .int x2, .int x3, x4, x5, x6] H) (hl : (Cond.fieldLink own index "QuotaTree" "written" "LQuotaTree$Bytes;").before args s = true) (d : decode cc pc = .ok (.getfield index, 3))
    (k : W p l e R s m args below meth c H locs cells slots Q (F0 m (pc + 3) ls (x5 :: rest))) : W p l e R s m args below meth c H locs cells slots Q (F0 m pc ls (.ref q :: rest)) := va_get E.1 E.2 hts hin hown hK.1 (va1 hO) 0 rfl (C := RX7) (T := TX7) (N := 7) rfl 5 (by decide) hl (fun _ h9 => h9) rfl d k
theorem g7_6 (E : p.tables.exec = Jvm.exec ∧ c.code = cc) {own : String} {index q : Nat} {Ts : List Cond} {x0 : Value} {x1 : Value} {x2 : Int32} {x3 : Int32} {x4 : Value} {x5 : Value} {x6 : Value} (hts : ∀ w ∈ Ts, w.before args s = true) (hin : ∀ w ∈ wsX70, w ∈ Ts) (hown : s.vm.findClass own = some m.cls) (hK : KK G s) (hO : oB G 7 q [x0, x1, .int x2, .int x3, x4, x5, x6] H) (hl : (Cond.fieldLink own index "QuotaTree" "reader" "LQuotaTree$Reader;").before args s = true) (d : decode cc pc = .ok (.getfield index, 3))
    (k : W p l e R s m args below meth c H locs cells slots Q (F0 m (pc + 3) ls (x6 :: rest))) : W p l e R s m args below meth c H locs cells slots Q (F0 m pc ls (.ref q :: rest)) := va_get E.1 E.2 hts hin hown hK.1 (va1 hO) 0 rfl (C := RX7) (T := TX7) (N := 7) rfl 6 (by decide) hl (fun _ h9 => h9) rfl d k
theorem g8_0 (E : p.tables.exec = Jvm.exec ∧ c.code = cc) {own : String} {index q : Nat} {Ts : List Cond} {x0 : Value} {x1 : Value} {x2 : Value} {x3 : Int32} {x4 : Int32} {x5 : Value} {x6 : Int32} {x7 : Int32} {x8 : Int32} {x9 : Int32} {x10 : Int32} {x11 : Int32} {x12 : Int32} {x13 : Int32} {x14 : Int32} {x15 : Int64} {x16 : Value} {x17 : Int32} (hts : ∀ w ∈ Ts, w.before args s = true) (hin : ∀ w ∈ wsX80, w ∈ Ts) (hown : s.vm.findClass own = some m.cls) (hK : KK G s) (hO : oB G 8 q [x0, x1, x2, .int x3, .int x4, x5, .int x6, .int x7, .int x8, .int x9, .int x10, .int x11, .int x12, .int x13, .int x14, .long x15, x16, .int x17] H) (hl : (Cond.fieldLink own index "QuotaTreeModel" "a" "[J").before args s = true) (d : decode cc pc = .ok (.getfield index, 3))
    (k : W p l e R s m args below meth c H locs cells slots Q (F0 m (pc + 3) ls (x0 :: rest))) : W p l e R s m args below meth c H locs cells slots Q (F0 m pc ls (.ref q :: rest)) := va_get E.1 E.2 hts hin hown hK.1 (va1 hO) 0 rfl (C := RX8) (T := TX8) (N := 18) rfl 0 (by decide) hl (fun _ h9 => h9) rfl d k
theorem g8_1 (E : p.tables.exec = Jvm.exec ∧ c.code = cc) {own : String} {index q : Nat} {Ts : List Cond} {x0 : Value} {x1 : Value} {x2 : Value} {x3 : Int32} {x4 : Int32} {x5 : Value} {x6 : Int32} {x7 : Int32} {x8 : Int32} {x9 : Int32} {x10 : Int32} {x11 : Int32} {x12 : Int32} {x13 : Int32} {x14 : Int32} {x15 : Int64} {x16 : Value} {x17 : Int32} (hts : ∀ w ∈ Ts, w.before args s = true) (hin : ∀ w ∈ wsX80, w ∈ Ts) (hown : s.vm.findClass own = some m.cls) (hK : KK G s) (hO : oB G 8 q [x0, x1, x2, .int x3, .int x4, x5, .int x6, .int x7, .int x8, .int x9, .int x10, .int x11, .int x12, .int x13, .int x14, .long x15, x16, .int x17] H) (hl : (Cond.fieldLink own index "QuotaTreeModel" "fresh" "[J").before args s = true) (d : decode cc pc = .ok (.getfield index, 3))
    (k : W p l e R s m args below meth c H locs cells slots Q (F0 m (pc + 3) ls (x1 :: rest))) : W p l e R s m args below meth c H locs cells slots Q (F0 m pc ls (.ref q :: rest)) := va_get E.1 E.2 hts hin hown hK.1 (va1 hO) 0 rfl (C := RX8) (T := TX8) (N := 18) rfl 1 (by decide) hl (fun _ h9 => h9) rfl d k
theorem g8_2 (E : p.tables.exec = Jvm.exec ∧ c.code = cc) {own : String} {index q : Nat} {Ts : List Cond} {x0 : Value} {x1 : Value} {x2 : Value} {x3 : Int32} {x4 : Int32} {x5 : Value} {x6 : Int32} {x7 : Int32} {x8 : Int32} {x9 : Int32} {x10 : Int32} {x11 : Int32} {x12 : Int32} {x13 : Int32} {x14 : Int32} {x15 : Int64} {x16 : Value} {x17 : Int32} (hts : ∀ w ∈ Ts, w.before args s = true) (hin : ∀ w ∈ wsX80, w ∈ Ts) (hown : s.vm.findClass own = some m.cls) (hK : KK G s) (hO : oB G 8 q [x0, x1, x2, .int x3, .int x4, x5, .int x6, .int x7, .int x8, .int x9, .int x10, .int x11, .int x12, .int x13, .int x14, .long x15, x16, .int x17] H) (hl : (Cond.fieldLink own index "QuotaTreeModel" "kept" "[J").before args s = true) (d : decode cc pc = .ok (.getfield index, 3))
    (k : W p l e R s m args below meth c H locs cells slots Q (F0 m (pc + 3) ls (x2 :: rest))) : W p l e R s m args below meth c H locs cells slots Q (F0 m pc ls (.ref q :: rest)) := va_get E.1 E.2 hts hin hown hK.1 (va1 hO) 0 rfl (C := RX8) (T := TX8) (N := 18) rfl 2 (by decide) hl (fun _ h9 => h9) rfl d k
theorem g8_3 (E : p.tables.exec = Jvm.exec ∧ c.code = cc) {own : String} {index q : Nat} {Ts : List Cond} {x0 : Value} {x1 : Value} {x2 : Value} {x3 : Int32} {x4 : Int32} {x5 : Value} {x6 : Int32} {x7 : Int32} {x8 : Int32} {x9 : Int32} {x10 : Int32} {x11 : Int32} {x12 : Int32} {x13 : Int32} {x14 : Int32} {x15 : Int64} {x16 : Value} {x17 : Int32} (hts : ∀ w ∈ Ts, w.before args s = true) (hin : ∀ w ∈ wsX80, w ∈ Ts) (hown : s.vm.findClass own = some m.cls) (hK : KK G s) (hO : oB G 8 q [x0, x1, x2, .int x3, .int x4, x5, .int x6, .int x7, .int x8, .int x9, .int x10, .int x11, .int x12, .int x13, .int x14, .long x15, x16, .int x17] H) (hl : (Cond.fieldLink own index "QuotaTreeModel" "keptMany" "I").before args s = true) (d : decode cc pc = .ok (.getfield index, 3))
    (k : W p l e R s m args below meth c H locs cells slots Q (F0 m (pc + 3) ls (.int x3 :: rest))) : W p l e R s m args below meth c H locs cells slots Q (F0 m pc ls (.ref q :: rest)) := va_get E.1 E.2 hts hin hown hK.1 (va1 hO) 0 rfl (C := RX8) (T := TX8) (N := 18) rfl 3 (by decide) hl (fun _ h9 => h9) rfl d k
theorem p8_3 (E : p.tables.exec = Jvm.exec ∧ c.code = cc) {own : String} {index q : Nat} {Ts : List Cond} {x0 : Value} {x1 : Value} {x2 : Value} {x3 : Int32} {x4 : Int32} {x5 : Value} {x6 : Int32} {x7 : Int32} {x8 : Int32} {x9 : Int32} {x10 : Int32} {x11 : Int32} {x12 : Int32} {x13 : Int32} {x14 : Int32} {x15 : Int64} {x16 : Value} {x17 : Int32} {y : Int32} (hts : ∀ w ∈ Ts, w.before args s = true) (hin : ∀ w ∈ wsX80, w ∈ Ts) (hown : s.vm.findClass own = some m.cls) (hK : KK G s) (hO : oB G 8 q [x0, x1, x2, .int x3, .int x4, x5, .int x6, .int x7, .int x8, .int x9, .int x10, .int x11, .int x12, .int x13, .int x14, .long x15, x16, .int x17] H) (hS : va_S A H0 H locs) (hq : A q) (hl : (Cond.fieldLink own index "QuotaTreeModel" "keptMany" "I").before args s = true) (d : decode cc pc = .ok (.putfield index, 3))
    (k : ∀ (H1 : Heap) (locs1 : List Loc), oB G 8 q [x0, x1, x2, .int y, .int x4, x5, .int x6, .int x7, .int x8, .int x9, .int x10, .int x11, .int x12, .int x13, .int x14, .long x15, x16, .int x17] H1 → (∀ a, a ≠ q → H1[a]? = H[a]?) → va_S A H0 H1 locs1 → W p l e R s m args below meth c H1 locs1 cells slots Q (F0 m (pc + 3) ls rest)) : W p l e R s m args below meth c H locs cells slots Q (F0 m pc ls (.int y :: .ref q :: rest)) := by
  have hap := va_apart (own := own) hts hin tyX8 tyX8_ok nmX8 hK.1 (ci := 8) rfl
  obtain ⟨r, h1, cell, q1, q2, q3, q4⟩ := hO
  have hr : r = (RX8, TX8, 18) := Option.some.inj (h1.symm.trans rfl)
  subst hr
  obtain ⟨hSl, hfc, kC, hkC, hkind⟩ := hK.1.1 8 _ rfl
  obtain ⟨cf, kf, fi, f, hi, hsl⟩ := hSl 3 (by decide)
  have hlay := hts _ (hin _ (u_in_lay (T := TX8) (C := RX8) (N := 18) (k := 3) (by decide)))
  unfold u_lay at hlay
  rw [if_neg (by decide)] at hlay
  have hst := (u_facts hfc hkC (u_lays hts hin (k := 3) (by decide)) hi).1
  have h6 := u_store hfc hkC hkind hlay hi (ty := .int) (v := .int y) (by decide) rfl rfl
  refine W.putK E.1 E.2 (f := f) ⟨hown, hl, ⟨_, _, _, hi⟩, hst⟩ (by rw [q2]; exact h6) q1 q3 (by rw [hsl]; exact k2_hasslot (q4 3 (by decide))) rfl rfl d fun H' e1 e2 e3 => ?_
  rw [hsl] at e1 ⊢
  refine k H' _ ?_ e3 (hS.put e2 e3 hq)
  exact ⟨_, rfl, t_OB.to (V := updV (vp_V [x0, x1, x2, .int x3, .int x4, x5, .int x6, .int x7, .int x8, .int x9, .int x10, .int x11, .int x12, .int x13, .int x14, .long x15, x16, .int x17]) 3 (.int y)) ⟨_, e1, q2, q3, t_set q4 hap (by decide) _⟩ (fun j _ => vp_updV_set (fs := [x0, x1, x2, .int x3, .int x4, x5, .int x6, .int x7, .int x8, .int x9, .int x10, .int x11, .int x12, .int x13, .int x14, .long x15, x16, .int x17]) (Nat.le_of_ble_eq_true rfl) _ j)⟩
theorem g8_4 (E : p.tables.exec = Jvm.exec ∧ c.code = cc) {own : String} {index q : Nat} {Ts : List Cond} {x0 : Value} {x1 : Value} {x2 : Value} {x3 : Int32} {x4 : Int32} {x5 : Value} {x6 : Int32} {x7 : Int32} {x8 : Int32} {x9 : Int32} {x10 : Int32} {x11 : Int32} {x12 : Int32} {x13 : Int32} {x14 : Int32} {x15 : Int64} {x16 : Value} {x17 : Int32} (hts : ∀ w ∈ Ts, w.before args s = true) (hin : ∀ w ∈ wsX80, w ∈ Ts) (hown : s.vm.findClass own = some m.cls) (hK : KK G s) (hO : oB G 8 q [x0, x1, x2, .int x3, .int x4, x5, .int x6, .int x7, .int x8, .int x9, .int x10, .int x11, .int x12, .int x13, .int x14, .long x15, x16, .int x17] H) (hl : (Cond.fieldLink own index "QuotaTreeModel" "thrown" "I").before args s = true) (d : decode cc pc = .ok (.getfield index, 3))
    (k : W p l e R s m args below meth c H locs cells slots Q (F0 m (pc + 3) ls (.int x4 :: rest))) : W p l e R s m args below meth c H locs cells slots Q (F0 m pc ls (.ref q :: rest)) := va_get E.1 E.2 hts hin hown hK.1 (va1 hO) 0 rfl (C := RX8) (T := TX8) (N := 18) rfl 4 (by decide) hl (fun _ h9 => h9) rfl d k
theorem p8_4 (E : p.tables.exec = Jvm.exec ∧ c.code = cc) {own : String} {index q : Nat} {Ts : List Cond} {x0 : Value} {x1 : Value} {x2 : Value} {x3 : Int32} {x4 : Int32} {x5 : Value} {x6 : Int32} {x7 : Int32} {x8 : Int32} {x9 : Int32} {x10 : Int32} {x11 : Int32} {x12 : Int32} {x13 : Int32} {x14 : Int32} {x15 : Int64} {x16 : Value} {x17 : Int32} {y : Int32} (hts : ∀ w ∈ Ts, w.before args s = true) (hin : ∀ w ∈ wsX80, w ∈ Ts) (hown : s.vm.findClass own = some m.cls) (hK : KK G s) (hO : oB G 8 q [x0, x1, x2, .int x3, .int x4, x5, .int x6, .int x7, .int x8, .int x9, .int x10, .int x11, .int x12, .int x13, .int x14, .long x15, x16, .int x17] H) (hS : va_S A H0 H locs) (hq : A q) (hl : (Cond.fieldLink own index "QuotaTreeModel" "thrown" "I").before args s = true) (d : decode cc pc = .ok (.putfield index, 3))
    (k : ∀ (H1 : Heap) (locs1 : List Loc), oB G 8 q [x0, x1, x2, .int x3, .int y, x5, .int x6, .int x7, .int x8, .int x9, .int x10, .int x11, .int x12, .int x13, .int x14, .long x15, x16, .int x17] H1 → (∀ a, a ≠ q → H1[a]? = H[a]?) → va_S A H0 H1 locs1 → W p l e R s m args below meth c H1 locs1 cells slots Q (F0 m (pc + 3) ls rest)) : W p l e R s m args below meth c H locs cells slots Q (F0 m pc ls (.int y :: .ref q :: rest)) := by
  have hap := va_apart (own := own) hts hin tyX8 tyX8_ok nmX8 hK.1 (ci := 8) rfl
  obtain ⟨r, h1, cell, q1, q2, q3, q4⟩ := hO
  have hr : r = (RX8, TX8, 18) := Option.some.inj (h1.symm.trans rfl)
  subst hr
  obtain ⟨hSl, hfc, kC, hkC, hkind⟩ := hK.1.1 8 _ rfl
  obtain ⟨cf, kf, fi, f, hi, hsl⟩ := hSl 4 (by decide)
  have hlay := hts _ (hin _ (u_in_lay (T := TX8) (C := RX8) (N := 18) (k := 4) (by decide)))
  unfold u_lay at hlay
  rw [if_neg (by decide)] at hlay
  have hst := (u_facts hfc hkC (u_lays hts hin (k := 4) (by decide)) hi).1
  have h6 := u_store hfc hkC hkind hlay hi (ty := .int) (v := .int y) (by decide) rfl rfl
  refine W.putK E.1 E.2 (f := f) ⟨hown, hl, ⟨_, _, _, hi⟩, hst⟩ (by rw [q2]; exact h6) q1 q3 (by rw [hsl]; exact k2_hasslot (q4 4 (by decide))) rfl rfl d fun H' e1 e2 e3 => ?_
  rw [hsl] at e1 ⊢
  refine k H' _ ?_ e3 (hS.put e2 e3 hq)
  exact ⟨_, rfl, t_OB.to (V := updV (vp_V [x0, x1, x2, .int x3, .int x4, x5, .int x6, .int x7, .int x8, .int x9, .int x10, .int x11, .int x12, .int x13, .int x14, .long x15, x16, .int x17]) 4 (.int y)) ⟨_, e1, q2, q3, t_set q4 hap (by decide) _⟩ (fun j _ => vp_updV_set (fs := [x0, x1, x2, .int x3, .int x4, x5, .int x6, .int x7, .int x8, .int x9, .int x10, .int x11, .int x12, .int x13, .int x14, .long x15, x16, .int x17]) (Nat.le_of_ble_eq_true rfl) _ j)⟩
theorem g8_5 (E : p.tables.exec = Jvm.exec ∧ c.code = cc) {own : String} {index q : Nat} {Ts : List Cond} {x0 : Value} {x1 : Value} {x2 : Value} {x3 : Int32} {x4 : Int32} {x5 : Value} {x6 : Int32} {x7 : Int32} {x8 : Int32} {x9 : Int32} {x10 : Int32} {x11 : Int32} {x12 : Int32} {x13 : Int32} {x14 : Int32} {x15 : Int64} {x16 : Value} {x17 : Int32} (hts : ∀ w ∈ Ts, w.before args s = true) (hin : ∀ w ∈ wsX80, w ∈ Ts) (hown : s.vm.findClass own = some m.cls) (hK : KK G s) (hO : oB G 8 q [x0, x1, x2, .int x3, .int x4, x5, .int x6, .int x7, .int x8, .int x9, .int x10, .int x11, .int x12, .int x13, .int x14, .long x15, x16, .int x17] H) (hl : (Cond.fieldLink own index "QuotaTreeModel" "buffer" "[I").before args s = true) (d : decode cc pc = .ok (.getfield index, 3))
    (k : W p l e R s m args below meth c H locs cells slots Q (F0 m (pc + 3) ls (x5 :: rest))) : W p l e R s m args below meth c H locs cells slots Q (F0 m pc ls (.ref q :: rest)) := va_get E.1 E.2 hts hin hown hK.1 (va1 hO) 0 rfl (C := RX8) (T := TX8) (N := 18) rfl 5 (by decide) hl (fun _ h9 => h9) rfl d k
theorem g8_6 (E : p.tables.exec = Jvm.exec ∧ c.code = cc) {own : String} {index q : Nat} {Ts : List Cond} {x0 : Value} {x1 : Value} {x2 : Value} {x3 : Int32} {x4 : Int32} {x5 : Value} {x6 : Int32} {x7 : Int32} {x8 : Int32} {x9 : Int32} {x10 : Int32} {x11 : Int32} {x12 : Int32} {x13 : Int32} {x14 : Int32} {x15 : Int64} {x16 : Value} {x17 : Int32} (hts : ∀ w ∈ Ts, w.before args s = true) (hin : ∀ w ∈ wsX80, w ∈ Ts) (hown : s.vm.findClass own = some m.cls) (hK : KK G s) (hO : oB G 8 q [x0, x1, x2, .int x3, .int x4, x5, .int x6, .int x7, .int x8, .int x9, .int x10, .int x11, .int x12, .int x13, .int x14, .long x15, x16, .int x17] H) (hl : (Cond.fieldLink own index "QuotaTreeModel" "buffered" "I").before args s = true) (d : decode cc pc = .ok (.getfield index, 3))
    (k : W p l e R s m args below meth c H locs cells slots Q (F0 m (pc + 3) ls (.int x6 :: rest))) : W p l e R s m args below meth c H locs cells slots Q (F0 m pc ls (.ref q :: rest)) := va_get E.1 E.2 hts hin hown hK.1 (va1 hO) 0 rfl (C := RX8) (T := TX8) (N := 18) rfl 6 (by decide) hl (fun _ h9 => h9) rfl d k
theorem p8_6 (E : p.tables.exec = Jvm.exec ∧ c.code = cc) {own : String} {index q : Nat} {Ts : List Cond} {x0 : Value} {x1 : Value} {x2 : Value} {x3 : Int32} {x4 : Int32} {x5 : Value} {x6 : Int32} {x7 : Int32} {x8 : Int32} {x9 : Int32} {x10 : Int32} {x11 : Int32} {x12 : Int32} {x13 : Int32} {x14 : Int32} {x15 : Int64} {x16 : Value} {x17 : Int32} {y : Int32} (hts : ∀ w ∈ Ts, w.before args s = true) (hin : ∀ w ∈ wsX80, w ∈ Ts) (hown : s.vm.findClass own = some m.cls) (hK : KK G s) (hO : oB G 8 q [x0, x1, x2, .int x3, .int x4, x5, .int x6, .int x7, .int x8, .int x9, .int x10, .int x11, .int x12, .int x13, .int x14, .long x15, x16, .int x17] H) (hS : va_S A H0 H locs) (hq : A q) (hl : (Cond.fieldLink own index "QuotaTreeModel" "buffered" "I").before args s = true) (d : decode cc pc = .ok (.putfield index, 3))
    (k : ∀ (H1 : Heap) (locs1 : List Loc), oB G 8 q [x0, x1, x2, .int x3, .int x4, x5, .int y, .int x7, .int x8, .int x9, .int x10, .int x11, .int x12, .int x13, .int x14, .long x15, x16, .int x17] H1 → (∀ a, a ≠ q → H1[a]? = H[a]?) → va_S A H0 H1 locs1 → W p l e R s m args below meth c H1 locs1 cells slots Q (F0 m (pc + 3) ls rest)) : W p l e R s m args below meth c H locs cells slots Q (F0 m pc ls (.int y :: .ref q :: rest)) := by
  have hap := va_apart (own := own) hts hin tyX8 tyX8_ok nmX8 hK.1 (ci := 8) rfl
  obtain ⟨r, h1, cell, q1, q2, q3, q4⟩ := hO
  have hr : r = (RX8, TX8, 18) := Option.some.inj (h1.symm.trans rfl)
  subst hr
  obtain ⟨hSl, hfc, kC, hkC, hkind⟩ := hK.1.1 8 _ rfl
  obtain ⟨cf, kf, fi, f, hi, hsl⟩ := hSl 6 (by decide)
  have hlay := hts _ (hin _ (u_in_lay (T := TX8) (C := RX8) (N := 18) (k := 6) (by decide)))
  unfold u_lay at hlay
  rw [if_neg (by decide)] at hlay
  have hst := (u_facts hfc hkC (u_lays hts hin (k := 6) (by decide)) hi).1
  have h6 := u_store hfc hkC hkind hlay hi (ty := .int) (v := .int y) (by decide) rfl rfl
  refine W.putK E.1 E.2 (f := f) ⟨hown, hl, ⟨_, _, _, hi⟩, hst⟩ (by rw [q2]; exact h6) q1 q3 (by rw [hsl]; exact k2_hasslot (q4 6 (by decide))) rfl rfl d fun H' e1 e2 e3 => ?_
  rw [hsl] at e1 ⊢
  refine k H' _ ?_ e3 (hS.put e2 e3 hq)
  exact ⟨_, rfl, t_OB.to (V := updV (vp_V [x0, x1, x2, .int x3, .int x4, x5, .int x6, .int x7, .int x8, .int x9, .int x10, .int x11, .int x12, .int x13, .int x14, .long x15, x16, .int x17]) 6 (.int y)) ⟨_, e1, q2, q3, t_set q4 hap (by decide) _⟩ (fun j _ => vp_updV_set (fs := [x0, x1, x2, .int x3, .int x4, x5, .int x6, .int x7, .int x8, .int x9, .int x10, .int x11, .int x12, .int x13, .int x14, .long x15, x16, .int x17]) (Nat.le_of_ble_eq_true rfl) _ j)⟩
theorem g8_7 (E : p.tables.exec = Jvm.exec ∧ c.code = cc) {own : String} {index q : Nat} {Ts : List Cond} {x0 : Value} {x1 : Value} {x2 : Value} {x3 : Int32} {x4 : Int32} {x5 : Value} {x6 : Int32} {x7 : Int32} {x8 : Int32} {x9 : Int32} {x10 : Int32} {x11 : Int32} {x12 : Int32} {x13 : Int32} {x14 : Int32} {x15 : Int64} {x16 : Value} {x17 : Int32} (hts : ∀ w ∈ Ts, w.before args s = true) (hin : ∀ w ∈ wsX80, w ∈ Ts) (hown : s.vm.findClass own = some m.cls) (hK : KK G s) (hO : oB G 8 q [x0, x1, x2, .int x3, .int x4, x5, .int x6, .int x7, .int x8, .int x9, .int x10, .int x11, .int x12, .int x13, .int x14, .long x15, x16, .int x17] H) (hl : (Cond.fieldLink own index "QuotaTreeModel" "size" "I").before args s = true) (d : decode cc pc = .ok (.getfield index, 3))
    (k : W p l e R s m args below meth c H locs cells slots Q (F0 m (pc + 3) ls (.int x7 :: rest))) : W p l e R s m args below meth c H locs cells slots Q (F0 m pc ls (.ref q :: rest)) := va_get E.1 E.2 hts hin hown hK.1 (va1 hO) 0 rfl (C := RX8) (T := TX8) (N := 18) rfl 7 (by decide) hl (fun _ h9 => h9) rfl d k
theorem p8_7 (E : p.tables.exec = Jvm.exec ∧ c.code = cc) {own : String} {index q : Nat} {Ts : List Cond} {x0 : Value} {x1 : Value} {x2 : Value} {x3 : Int32} {x4 : Int32} {x5 : Value} {x6 : Int32} {x7 : Int32} {x8 : Int32} {x9 : Int32} {x10 : Int32} {x11 : Int32} {x12 : Int32} {x13 : Int32} {x14 : Int32} {x15 : Int64} {x16 : Value} {x17 : Int32} {y : Int32} (hts : ∀ w ∈ Ts, w.before args s = true) (hin : ∀ w ∈ wsX80, w ∈ Ts) (hown : s.vm.findClass own = some m.cls) (hK : KK G s) (hO : oB G 8 q [x0, x1, x2, .int x3, .int x4, x5, .int x6, .int x7, .int x8, .int x9, .int x10, .int x11, .int x12, .int x13, .int x14, .long x15, x16, .int x17] H) (hS : va_S A H0 H locs) (hq : A q) (hl : (Cond.fieldLink own index "QuotaTreeModel" "size" "I").before args s = true) (d : decode cc pc = .ok (.putfield index, 3))
    (k : ∀ (H1 : Heap) (locs1 : List Loc), oB G 8 q [x0, x1, x2, .int x3, .int x4, x5, .int x6, .int y, .int x8, .int x9, .int x10, .int x11, .int x12, .int x13, .int x14, .long x15, x16, .int x17] H1 → (∀ a, a ≠ q → H1[a]? = H[a]?) → va_S A H0 H1 locs1 → W p l e R s m args below meth c H1 locs1 cells slots Q (F0 m (pc + 3) ls rest)) : W p l e R s m args below meth c H locs cells slots Q (F0 m pc ls (.int y :: .ref q :: rest)) := by
  have hap := va_apart (own := own) hts hin tyX8 tyX8_ok nmX8 hK.1 (ci := 8) rfl
  obtain ⟨r, h1, cell, q1, q2, q3, q4⟩ := hO
  have hr : r = (RX8, TX8, 18) := Option.some.inj (h1.symm.trans rfl)
  subst hr
  obtain ⟨hSl, hfc, kC, hkC, hkind⟩ := hK.1.1 8 _ rfl
  obtain ⟨cf, kf, fi, f, hi, hsl⟩ := hSl 7 (by decide)
  have hlay := hts _ (hin _ (u_in_lay (T := TX8) (C := RX8) (N := 18) (k := 7) (by decide)))
  unfold u_lay at hlay
  rw [if_neg (by decide)] at hlay
  have hst := (u_facts hfc hkC (u_lays hts hin (k := 7) (by decide)) hi).1
  have h6 := u_store hfc hkC hkind hlay hi (ty := .int) (v := .int y) (by decide) rfl rfl
  refine W.putK E.1 E.2 (f := f) ⟨hown, hl, ⟨_, _, _, hi⟩, hst⟩ (by rw [q2]; exact h6) q1 q3 (by rw [hsl]; exact k2_hasslot (q4 7 (by decide))) rfl rfl d fun H' e1 e2 e3 => ?_
  rw [hsl] at e1 ⊢
  refine k H' _ ?_ e3 (hS.put e2 e3 hq)
  exact ⟨_, rfl, t_OB.to (V := updV (vp_V [x0, x1, x2, .int x3, .int x4, x5, .int x6, .int x7, .int x8, .int x9, .int x10, .int x11, .int x12, .int x13, .int x14, .long x15, x16, .int x17]) 7 (.int y)) ⟨_, e1, q2, q3, t_set q4 hap (by decide) _⟩ (fun j _ => vp_updV_set (fs := [x0, x1, x2, .int x3, .int x4, x5, .int x6, .int x7, .int x8, .int x9, .int x10, .int x11, .int x12, .int x13, .int x14, .long x15, x16, .int x17]) (Nat.le_of_ble_eq_true rfl) _ j)⟩
theorem g8_8 (E : p.tables.exec = Jvm.exec ∧ c.code = cc) {own : String} {index q : Nat} {Ts : List Cond} {x0 : Value} {x1 : Value} {x2 : Value} {x3 : Int32} {x4 : Int32} {x5 : Value} {x6 : Int32} {x7 : Int32} {x8 : Int32} {x9 : Int32} {x10 : Int32} {x11 : Int32} {x12 : Int32} {x13 : Int32} {x14 : Int32} {x15 : Int64} {x16 : Value} {x17 : Int32} (hts : ∀ w ∈ Ts, w.before args s = true) (hin : ∀ w ∈ wsX80, w ∈ Ts) (hown : s.vm.findClass own = some m.cls) (hK : KK G s) (hO : oB G 8 q [x0, x1, x2, .int x3, .int x4, x5, .int x6, .int x7, .int x8, .int x9, .int x10, .int x11, .int x12, .int x13, .int x14, .long x15, x16, .int x17] H) (hl : (Cond.fieldLink own index "QuotaTreeModel" "at" "I").before args s = true) (d : decode cc pc = .ok (.getfield index, 3))
    (k : W p l e R s m args below meth c H locs cells slots Q (F0 m (pc + 3) ls (.int x8 :: rest))) : W p l e R s m args below meth c H locs cells slots Q (F0 m pc ls (.ref q :: rest)) := va_get E.1 E.2 hts hin hown hK.1 (va1 hO) 0 rfl (C := RX8) (T := TX8) (N := 18) rfl 8 (by decide) hl (fun _ h9 => h9) rfl d k
theorem p8_8 (E : p.tables.exec = Jvm.exec ∧ c.code = cc) {own : String} {index q : Nat} {Ts : List Cond} {x0 : Value} {x1 : Value} {x2 : Value} {x3 : Int32} {x4 : Int32} {x5 : Value} {x6 : Int32} {x7 : Int32} {x8 : Int32} {x9 : Int32} {x10 : Int32} {x11 : Int32} {x12 : Int32} {x13 : Int32} {x14 : Int32} {x15 : Int64} {x16 : Value} {x17 : Int32} {y : Int32} (hts : ∀ w ∈ Ts, w.before args s = true) (hin : ∀ w ∈ wsX80, w ∈ Ts) (hown : s.vm.findClass own = some m.cls) (hK : KK G s) (hO : oB G 8 q [x0, x1, x2, .int x3, .int x4, x5, .int x6, .int x7, .int x8, .int x9, .int x10, .int x11, .int x12, .int x13, .int x14, .long x15, x16, .int x17] H) (hS : va_S A H0 H locs) (hq : A q) (hl : (Cond.fieldLink own index "QuotaTreeModel" "at" "I").before args s = true) (d : decode cc pc = .ok (.putfield index, 3))
    (k : ∀ (H1 : Heap) (locs1 : List Loc), oB G 8 q [x0, x1, x2, .int x3, .int x4, x5, .int x6, .int x7, .int y, .int x9, .int x10, .int x11, .int x12, .int x13, .int x14, .long x15, x16, .int x17] H1 → (∀ a, a ≠ q → H1[a]? = H[a]?) → va_S A H0 H1 locs1 → W p l e R s m args below meth c H1 locs1 cells slots Q (F0 m (pc + 3) ls rest)) : W p l e R s m args below meth c H locs cells slots Q (F0 m pc ls (.int y :: .ref q :: rest)) := by
  have hap := va_apart (own := own) hts hin tyX8 tyX8_ok nmX8 hK.1 (ci := 8) rfl
  obtain ⟨r, h1, cell, q1, q2, q3, q4⟩ := hO
  have hr : r = (RX8, TX8, 18) := Option.some.inj (h1.symm.trans rfl)
  subst hr
  obtain ⟨hSl, hfc, kC, hkC, hkind⟩ := hK.1.1 8 _ rfl
  obtain ⟨cf, kf, fi, f, hi, hsl⟩ := hSl 8 (by decide)
  have hlay := hts _ (hin _ (u_in_lay (T := TX8) (C := RX8) (N := 18) (k := 8) (by decide)))
  unfold u_lay at hlay
  rw [if_neg (by decide)] at hlay
  have hst := (u_facts hfc hkC (u_lays hts hin (k := 8) (by decide)) hi).1
  have h6 := u_store hfc hkC hkind hlay hi (ty := .int) (v := .int y) (by decide) rfl rfl
  refine W.putK E.1 E.2 (f := f) ⟨hown, hl, ⟨_, _, _, hi⟩, hst⟩ (by rw [q2]; exact h6) q1 q3 (by rw [hsl]; exact k2_hasslot (q4 8 (by decide))) rfl rfl d fun H' e1 e2 e3 => ?_
  rw [hsl] at e1 ⊢
  refine k H' _ ?_ e3 (hS.put e2 e3 hq)
  exact ⟨_, rfl, t_OB.to (V := updV (vp_V [x0, x1, x2, .int x3, .int x4, x5, .int x6, .int x7, .int x8, .int x9, .int x10, .int x11, .int x12, .int x13, .int x14, .long x15, x16, .int x17]) 8 (.int y)) ⟨_, e1, q2, q3, t_set q4 hap (by decide) _⟩ (fun j _ => vp_updV_set (fs := [x0, x1, x2, .int x3, .int x4, x5, .int x6, .int x7, .int x8, .int x9, .int x10, .int x11, .int x12, .int x13, .int x14, .long x15, x16, .int x17]) (Nat.le_of_ble_eq_true rfl) _ j)⟩
theorem g8_9 (E : p.tables.exec = Jvm.exec ∧ c.code = cc) {own : String} {index q : Nat} {Ts : List Cond} {x0 : Value} {x1 : Value} {x2 : Value} {x3 : Int32} {x4 : Int32} {x5 : Value} {x6 : Int32} {x7 : Int32} {x8 : Int32} {x9 : Int32} {x10 : Int32} {x11 : Int32} {x12 : Int32} {x13 : Int32} {x14 : Int32} {x15 : Int64} {x16 : Value} {x17 : Int32} (hts : ∀ w ∈ Ts, w.before args s = true) (hin : ∀ w ∈ wsX80, w ∈ Ts) (hown : s.vm.findClass own = some m.cls) (hK : KK G s) (hO : oB G 8 q [x0, x1, x2, .int x3, .int x4, x5, .int x6, .int x7, .int x8, .int x9, .int x10, .int x11, .int x12, .int x13, .int x14, .long x15, x16, .int x17] H) (hl : (Cond.fieldLink own index "QuotaTreeModel" "behind" "I").before args s = true) (d : decode cc pc = .ok (.getfield index, 3))
    (k : W p l e R s m args below meth c H locs cells slots Q (F0 m (pc + 3) ls (.int x9 :: rest))) : W p l e R s m args below meth c H locs cells slots Q (F0 m pc ls (.ref q :: rest)) := va_get E.1 E.2 hts hin hown hK.1 (va1 hO) 0 rfl (C := RX8) (T := TX8) (N := 18) rfl 9 (by decide) hl (fun _ h9 => h9) rfl d k
theorem p8_9 (E : p.tables.exec = Jvm.exec ∧ c.code = cc) {own : String} {index q : Nat} {Ts : List Cond} {x0 : Value} {x1 : Value} {x2 : Value} {x3 : Int32} {x4 : Int32} {x5 : Value} {x6 : Int32} {x7 : Int32} {x8 : Int32} {x9 : Int32} {x10 : Int32} {x11 : Int32} {x12 : Int32} {x13 : Int32} {x14 : Int32} {x15 : Int64} {x16 : Value} {x17 : Int32} {y : Int32} (hts : ∀ w ∈ Ts, w.before args s = true) (hin : ∀ w ∈ wsX80, w ∈ Ts) (hown : s.vm.findClass own = some m.cls) (hK : KK G s) (hO : oB G 8 q [x0, x1, x2, .int x3, .int x4, x5, .int x6, .int x7, .int x8, .int x9, .int x10, .int x11, .int x12, .int x13, .int x14, .long x15, x16, .int x17] H) (hS : va_S A H0 H locs) (hq : A q) (hl : (Cond.fieldLink own index "QuotaTreeModel" "behind" "I").before args s = true) (d : decode cc pc = .ok (.putfield index, 3))
    (k : ∀ (H1 : Heap) (locs1 : List Loc), oB G 8 q [x0, x1, x2, .int x3, .int x4, x5, .int x6, .int x7, .int x8, .int y, .int x10, .int x11, .int x12, .int x13, .int x14, .long x15, x16, .int x17] H1 → (∀ a, a ≠ q → H1[a]? = H[a]?) → va_S A H0 H1 locs1 → W p l e R s m args below meth c H1 locs1 cells slots Q (F0 m (pc + 3) ls rest)) : W p l e R s m args below meth c H locs cells slots Q (F0 m pc ls (.int y :: .ref q :: rest)) := by
  have hap := va_apart (own := own) hts hin tyX8 tyX8_ok nmX8 hK.1 (ci := 8) rfl
  obtain ⟨r, h1, cell, q1, q2, q3, q4⟩ := hO
  have hr : r = (RX8, TX8, 18) := Option.some.inj (h1.symm.trans rfl)
  subst hr
  obtain ⟨hSl, hfc, kC, hkC, hkind⟩ := hK.1.1 8 _ rfl
  obtain ⟨cf, kf, fi, f, hi, hsl⟩ := hSl 9 (by decide)
  have hlay := hts _ (hin _ (u_in_lay (T := TX8) (C := RX8) (N := 18) (k := 9) (by decide)))
  unfold u_lay at hlay
  rw [if_neg (by decide)] at hlay
  have hst := (u_facts hfc hkC (u_lays hts hin (k := 9) (by decide)) hi).1
  have h6 := u_store hfc hkC hkind hlay hi (ty := .int) (v := .int y) (by decide) rfl rfl
  refine W.putK E.1 E.2 (f := f) ⟨hown, hl, ⟨_, _, _, hi⟩, hst⟩ (by rw [q2]; exact h6) q1 q3 (by rw [hsl]; exact k2_hasslot (q4 9 (by decide))) rfl rfl d fun H' e1 e2 e3 => ?_
  rw [hsl] at e1 ⊢
  refine k H' _ ?_ e3 (hS.put e2 e3 hq)
  exact ⟨_, rfl, t_OB.to (V := updV (vp_V [x0, x1, x2, .int x3, .int x4, x5, .int x6, .int x7, .int x8, .int x9, .int x10, .int x11, .int x12, .int x13, .int x14, .long x15, x16, .int x17]) 9 (.int y)) ⟨_, e1, q2, q3, t_set q4 hap (by decide) _⟩ (fun j _ => vp_updV_set (fs := [x0, x1, x2, .int x3, .int x4, x5, .int x6, .int x7, .int x8, .int x9, .int x10, .int x11, .int x12, .int x13, .int x14, .long x15, x16, .int x17]) (Nat.le_of_ble_eq_true rfl) _ j)⟩
theorem g8_10 (E : p.tables.exec = Jvm.exec ∧ c.code = cc) {own : String} {index q : Nat} {Ts : List Cond} {x0 : Value} {x1 : Value} {x2 : Value} {x3 : Int32} {x4 : Int32} {x5 : Value} {x6 : Int32} {x7 : Int32} {x8 : Int32} {x9 : Int32} {x10 : Int32} {x11 : Int32} {x12 : Int32} {x13 : Int32} {x14 : Int32} {x15 : Int64} {x16 : Value} {x17 : Int32} (hts : ∀ w ∈ Ts, w.before args s = true) (hin : ∀ w ∈ wsX80, w ∈ Ts) (hown : s.vm.findClass own = some m.cls) (hK : KK G s) (hO : oB G 8 q [x0, x1, x2, .int x3, .int x4, x5, .int x6, .int x7, .int x8, .int x9, .int x10, .int x11, .int x12, .int x13, .int x14, .long x15, x16, .int x17] H) (hl : (Cond.fieldLink own index "QuotaTreeModel" "kind" "I").before args s = true) (d : decode cc pc = .ok (.getfield index, 3))
    (k : W p l e R s m args below meth c H locs cells slots Q (F0 m (pc + 3) ls (.int x10 :: rest))) : W p l e R s m args below meth c H locs cells slots Q (F0 m pc ls (.ref q :: rest)) := va_get E.1 E.2 hts hin hown hK.1 (va1 hO) 0 rfl (C := RX8) (T := TX8) (N := 18) rfl 10 (by decide) hl (fun _ h9 => h9) rfl d k
theorem p8_10 (E : p.tables.exec = Jvm.exec ∧ c.code = cc) {own : String} {index q : Nat} {Ts : List Cond} {x0 : Value} {x1 : Value} {x2 : Value} {x3 : Int32} {x4 : Int32} {x5 : Value} {x6 : Int32} {x7 : Int32} {x8 : Int32} {x9 : Int32} {x10 : Int32} {x11 : Int32} {x12 : Int32} {x13 : Int32} {x14 : Int32} {x15 : Int64} {x16 : Value} {x17 : Int32} {y : Int32} (hts : ∀ w ∈ Ts, w.before args s = true) (hin : ∀ w ∈ wsX80, w ∈ Ts) (hown : s.vm.findClass own = some m.cls) (hK : KK G s) (hO : oB G 8 q [x0, x1, x2, .int x3, .int x4, x5, .int x6, .int x7, .int x8, .int x9, .int x10, .int x11, .int x12, .int x13, .int x14, .long x15, x16, .int x17] H) (hS : va_S A H0 H locs) (hq : A q) (hl : (Cond.fieldLink own index "QuotaTreeModel" "kind" "I").before args s = true) (d : decode cc pc = .ok (.putfield index, 3))
    (k : ∀ (H1 : Heap) (locs1 : List Loc), oB G 8 q [x0, x1, x2, .int x3, .int x4, x5, .int x6, .int x7, .int x8, .int x9, .int y, .int x11, .int x12, .int x13, .int x14, .long x15, x16, .int x17] H1 → (∀ a, a ≠ q → H1[a]? = H[a]?) → va_S A H0 H1 locs1 → W p l e R s m args below meth c H1 locs1 cells slots Q (F0 m (pc + 3) ls rest)) : W p l e R s m args below meth c H locs cells slots Q (F0 m pc ls (.int y :: .ref q :: rest)) := by
  have hap := va_apart (own := own) hts hin tyX8 tyX8_ok nmX8 hK.1 (ci := 8) rfl
  obtain ⟨r, h1, cell, q1, q2, q3, q4⟩ := hO
  have hr : r = (RX8, TX8, 18) := Option.some.inj (h1.symm.trans rfl)
  subst hr
  obtain ⟨hSl, hfc, kC, hkC, hkind⟩ := hK.1.1 8 _ rfl
  obtain ⟨cf, kf, fi, f, hi, hsl⟩ := hSl 10 (by decide)
  have hlay := hts _ (hin _ (u_in_lay (T := TX8) (C := RX8) (N := 18) (k := 10) (by decide)))
  unfold u_lay at hlay
  rw [if_neg (by decide)] at hlay
  have hst := (u_facts hfc hkC (u_lays hts hin (k := 10) (by decide)) hi).1
  have h6 := u_store hfc hkC hkind hlay hi (ty := .int) (v := .int y) (by decide) rfl rfl
  refine W.putK E.1 E.2 (f := f) ⟨hown, hl, ⟨_, _, _, hi⟩, hst⟩ (by rw [q2]; exact h6) q1 q3 (by rw [hsl]; exact k2_hasslot (q4 10 (by decide))) rfl rfl d fun H' e1 e2 e3 => ?_
  rw [hsl] at e1 ⊢
  refine k H' _ ?_ e3 (hS.put e2 e3 hq)
  exact ⟨_, rfl, t_OB.to (V := updV (vp_V [x0, x1, x2, .int x3, .int x4, x5, .int x6, .int x7, .int x8, .int x9, .int x10, .int x11, .int x12, .int x13, .int x14, .long x15, x16, .int x17]) 10 (.int y)) ⟨_, e1, q2, q3, t_set q4 hap (by decide) _⟩ (fun j _ => vp_updV_set (fs := [x0, x1, x2, .int x3, .int x4, x5, .int x6, .int x7, .int x8, .int x9, .int x10, .int x11, .int x12, .int x13, .int x14, .long x15, x16, .int x17]) (Nat.le_of_ble_eq_true rfl) _ j)⟩
theorem g8_11 (E : p.tables.exec = Jvm.exec ∧ c.code = cc) {own : String} {index q : Nat} {Ts : List Cond} {x0 : Value} {x1 : Value} {x2 : Value} {x3 : Int32} {x4 : Int32} {x5 : Value} {x6 : Int32} {x7 : Int32} {x8 : Int32} {x9 : Int32} {x10 : Int32} {x11 : Int32} {x12 : Int32} {x13 : Int32} {x14 : Int32} {x15 : Int64} {x16 : Value} {x17 : Int32} (hts : ∀ w ∈ Ts, w.before args s = true) (hin : ∀ w ∈ wsX80, w ∈ Ts) (hown : s.vm.findClass own = some m.cls) (hK : KK G s) (hO : oB G 8 q [x0, x1, x2, .int x3, .int x4, x5, .int x6, .int x7, .int x8, .int x9, .int x10, .int x11, .int x12, .int x13, .int x14, .long x15, x16, .int x17] H) (hl : (Cond.fieldLink own index "QuotaTreeModel" "number" "I").before args s = true) (d : decode cc pc = .ok (.getfield index, 3))
    (k : W p l e R s m args below meth c H locs cells slots Q (F0 m (pc + 3) ls (.int x11 :: rest))) : W p l e R s m args below meth c H locs cells slots Q (F0 m pc ls (.ref q :: rest)) := va_get E.1 E.2 hts hin hown hK.1 (va1 hO) 0 rfl (C := RX8) (T := TX8) (N := 18) rfl 11 (by decide) hl (fun _ h9 => h9) rfl d k
theorem p8_11 (E : p.tables.exec = Jvm.exec ∧ c.code = cc) {own : String} {index q : Nat} {Ts : List Cond} {x0 : Value} {x1 : Value} {x2 : Value} {x3 : Int32} {x4 : Int32} {x5 : Value} {x6 : Int32} {x7 : Int32} {x8 : Int32} {x9 : Int32} {x10 : Int32} {x11 : Int32} {x12 : Int32} {x13 : Int32} {x14 : Int32} {x15 : Int64} {x16 : Value} {x17 : Int32} {y : Int32} (hts : ∀ w ∈ Ts, w.before args s = true) (hin : ∀ w ∈ wsX80, w ∈ Ts) (hown : s.vm.findClass own = some m.cls) (hK : KK G s) (hO : oB G 8 q [x0, x1, x2, .int x3, .int x4, x5, .int x6, .int x7, .int x8, .int x9, .int x10, .int x11, .int x12, .int x13, .int x14, .long x15, x16, .int x17] H) (hS : va_S A H0 H locs) (hq : A q) (hl : (Cond.fieldLink own index "QuotaTreeModel" "number" "I").before args s = true) (d : decode cc pc = .ok (.putfield index, 3))
    (k : ∀ (H1 : Heap) (locs1 : List Loc), oB G 8 q [x0, x1, x2, .int x3, .int x4, x5, .int x6, .int x7, .int x8, .int x9, .int x10, .int y, .int x12, .int x13, .int x14, .long x15, x16, .int x17] H1 → (∀ a, a ≠ q → H1[a]? = H[a]?) → va_S A H0 H1 locs1 → W p l e R s m args below meth c H1 locs1 cells slots Q (F0 m (pc + 3) ls rest)) : W p l e R s m args below meth c H locs cells slots Q (F0 m pc ls (.int y :: .ref q :: rest)) := by
  have hap := va_apart (own := own) hts hin tyX8 tyX8_ok nmX8 hK.1 (ci := 8) rfl
  obtain ⟨r, h1, cell, q1, q2, q3, q4⟩ := hO
  have hr : r = (RX8, TX8, 18) := Option.some.inj (h1.symm.trans rfl)
  subst hr
  obtain ⟨hSl, hfc, kC, hkC, hkind⟩ := hK.1.1 8 _ rfl
  obtain ⟨cf, kf, fi, f, hi, hsl⟩ := hSl 11 (by decide)
  have hlay := hts _ (hin _ (u_in_lay (T := TX8) (C := RX8) (N := 18) (k := 11) (by decide)))
  unfold u_lay at hlay
  rw [if_neg (by decide)] at hlay
  have hst := (u_facts hfc hkC (u_lays hts hin (k := 11) (by decide)) hi).1
  have h6 := u_store hfc hkC hkind hlay hi (ty := .int) (v := .int y) (by decide) rfl rfl
  refine W.putK E.1 E.2 (f := f) ⟨hown, hl, ⟨_, _, _, hi⟩, hst⟩ (by rw [q2]; exact h6) q1 q3 (by rw [hsl]; exact k2_hasslot (q4 11 (by decide))) rfl rfl d fun H' e1 e2 e3 => ?_
  rw [hsl] at e1 ⊢
  refine k H' _ ?_ e3 (hS.put e2 e3 hq)
  exact ⟨_, rfl, t_OB.to (V := updV (vp_V [x0, x1, x2, .int x3, .int x4, x5, .int x6, .int x7, .int x8, .int x9, .int x10, .int x11, .int x12, .int x13, .int x14, .long x15, x16, .int x17]) 11 (.int y)) ⟨_, e1, q2, q3, t_set q4 hap (by decide) _⟩ (fun j _ => vp_updV_set (fs := [x0, x1, x2, .int x3, .int x4, x5, .int x6, .int x7, .int x8, .int x9, .int x10, .int x11, .int x12, .int x13, .int x14, .long x15, x16, .int x17]) (Nat.le_of_ble_eq_true rfl) _ j)⟩
theorem g8_12 (E : p.tables.exec = Jvm.exec ∧ c.code = cc) {own : String} {index q : Nat} {Ts : List Cond} {x0 : Value} {x1 : Value} {x2 : Value} {x3 : Int32} {x4 : Int32} {x5 : Value} {x6 : Int32} {x7 : Int32} {x8 : Int32} {x9 : Int32} {x10 : Int32} {x11 : Int32} {x12 : Int32} {x13 : Int32} {x14 : Int32} {x15 : Int64} {x16 : Value} {x17 : Int32} (hts : ∀ w ∈ Ts, w.before args s = true) (hin : ∀ w ∈ wsX80, w ∈ Ts) (hown : s.vm.findClass own = some m.cls) (hK : KK G s) (hO : oB G 8 q [x0, x1, x2, .int x3, .int x4, x5, .int x6, .int x7, .int x8, .int x9, .int x10, .int x11, .int x12, .int x13, .int x14, .long x15, x16, .int x17] H) (hl : (Cond.fieldLink own index "QuotaTreeModel" "wrong" "I").before args s = true) (d : decode cc pc = .ok (.getfield index, 3))
    (k : W p l e R s m args below meth c H locs cells slots Q (F0 m (pc + 3) ls (.int x12 :: rest))) : W p l e R s m args below meth c H locs cells slots Q (F0 m pc ls (.ref q :: rest)) := va_get E.1 E.2 hts hin hown hK.1 (va1 hO) 0 rfl (C := RX8) (T := TX8) (N := 18) rfl 12 (by decide) hl (fun _ h9 => h9) rfl d k
theorem p8_12 (E : p.tables.exec = Jvm.exec ∧ c.code = cc) {own : String} {index q : Nat} {Ts : List Cond} {x0 : Value} {x1 : Value} {x2 : Value} {x3 : Int32} {x4 : Int32} {x5 : Value} {x6 : Int32} {x7 : Int32} {x8 : Int32} {x9 : Int32} {x10 : Int32} {x11 : Int32} {x12 : Int32} {x13 : Int32} {x14 : Int32} {x15 : Int64} {x16 : Value} {x17 : Int32} {y : Int32} (hts : ∀ w ∈ Ts, w.before args s = true) (hin : ∀ w ∈ wsX80, w ∈ Ts) (hown : s.vm.findClass own = some m.cls) (hK : KK G s) (hO : oB G 8 q [x0, x1, x2, .int x3, .int x4, x5, .int x6, .int x7, .int x8, .int x9, .int x10, .int x11, .int x12, .int x13, .int x14, .long x15, x16, .int x17] H) (hS : va_S A H0 H locs) (hq : A q) (hl : (Cond.fieldLink own index "QuotaTreeModel" "wrong" "I").before args s = true) (d : decode cc pc = .ok (.putfield index, 3))
    (k : ∀ (H1 : Heap) (locs1 : List Loc), oB G 8 q [x0, x1, x2, .int x3, .int x4, x5, .int x6, .int x7, .int x8, .int x9, .int x10, .int x11, .int y, .int x13, .int x14, .long x15, x16, .int x17] H1 → (∀ a, a ≠ q → H1[a]? = H[a]?) → va_S A H0 H1 locs1 → W p l e R s m args below meth c H1 locs1 cells slots Q (F0 m (pc + 3) ls rest)) : W p l e R s m args below meth c H locs cells slots Q (F0 m pc ls (.int y :: .ref q :: rest)) := by
  have hap := va_apart (own := own) hts hin tyX8 tyX8_ok nmX8 hK.1 (ci := 8) rfl
  obtain ⟨r, h1, cell, q1, q2, q3, q4⟩ := hO
  have hr : r = (RX8, TX8, 18) := Option.some.inj (h1.symm.trans rfl)
  subst hr
  obtain ⟨hSl, hfc, kC, hkC, hkind⟩ := hK.1.1 8 _ rfl
  obtain ⟨cf, kf, fi, f, hi, hsl⟩ := hSl 12 (by decide)
  have hlay := hts _ (hin _ (u_in_lay (T := TX8) (C := RX8) (N := 18) (k := 12) (by decide)))
  unfold u_lay at hlay
  rw [if_neg (by decide)] at hlay
  have hst := (u_facts hfc hkC (u_lays hts hin (k := 12) (by decide)) hi).1
  have h6 := u_store hfc hkC hkind hlay hi (ty := .int) (v := .int y) (by decide) rfl rfl
  refine W.putK E.1 E.2 (f := f) ⟨hown, hl, ⟨_, _, _, hi⟩, hst⟩ (by rw [q2]; exact h6) q1 q3 (by rw [hsl]; exact k2_hasslot (q4 12 (by decide))) rfl rfl d fun H' e1 e2 e3 => ?_
  rw [hsl] at e1 ⊢
  refine k H' _ ?_ e3 (hS.put e2 e3 hq)
  exact ⟨_, rfl, t_OB.to (V := updV (vp_V [x0, x1, x2, .int x3, .int x4, x5, .int x6, .int x7, .int x8, .int x9, .int x10, .int x11, .int x12, .int x13, .int x14, .long x15, x16, .int x17]) 12 (.int y)) ⟨_, e1, q2, q3, t_set q4 hap (by decide) _⟩ (fun j _ => vp_updV_set (fs := [x0, x1, x2, .int x3, .int x4, x5, .int x6, .int x7, .int x8, .int x9, .int x10, .int x11, .int x12, .int x13, .int x14, .long x15, x16, .int x17]) (Nat.le_of_ble_eq_true rfl) _ j)⟩
theorem g8_13 (E : p.tables.exec = Jvm.exec ∧ c.code = cc) {own : String} {index q : Nat} {Ts : List Cond} {x0 : Value} {x1 : Value} {x2 : Value} {x3 : Int32} {x4 : Int32} {x5 : Value} {x6 : Int32} {x7 : Int32} {x8 : Int32} {x9 : Int32} {x10 : Int32} {x11 : Int32} {x12 : Int32} {x13 : Int32} {x14 : Int32} {x15 : Int64} {x16 : Value} {x17 : Int32} (hts : ∀ w ∈ Ts, w.before args s = true) (hin : ∀ w ∈ wsX80, w ∈ Ts) (hown : s.vm.findClass own = some m.cls) (hK : KK G s) (hO : oB G 8 q [x0, x1, x2, .int x3, .int x4, x5, .int x6, .int x7, .int x8, .int x9, .int x10, .int x11, .int x12, .int x13, .int x14, .long x15, x16, .int x17] H) (hl : (Cond.fieldLink own index "QuotaTreeModel" "wrongAt" "I").before args s = true) (d : decode cc pc = .ok (.getfield index, 3))
    (k : W p l e R s m args below meth c H locs cells slots Q (F0 m (pc + 3) ls (.int x13 :: rest))) : W p l e R s m args below meth c H locs cells slots Q (F0 m pc ls (.ref q :: rest)) := va_get E.1 E.2 hts hin hown hK.1 (va1 hO) 0 rfl (C := RX8) (T := TX8) (N := 18) rfl 13 (by decide) hl (fun _ h9 => h9) rfl d k
theorem p8_13 (E : p.tables.exec = Jvm.exec ∧ c.code = cc) {own : String} {index q : Nat} {Ts : List Cond} {x0 : Value} {x1 : Value} {x2 : Value} {x3 : Int32} {x4 : Int32} {x5 : Value} {x6 : Int32} {x7 : Int32} {x8 : Int32} {x9 : Int32} {x10 : Int32} {x11 : Int32} {x12 : Int32} {x13 : Int32} {x14 : Int32} {x15 : Int64} {x16 : Value} {x17 : Int32} {y : Int32} (hts : ∀ w ∈ Ts, w.before args s = true) (hin : ∀ w ∈ wsX80, w ∈ Ts) (hown : s.vm.findClass own = some m.cls) (hK : KK G s) (hO : oB G 8 q [x0, x1, x2, .int x3, .int x4, x5, .int x6, .int x7, .int x8, .int x9, .int x10, .int x11, .int x12, .int x13, .int x14, .long x15, x16, .int x17] H) (hS : va_S A H0 H locs) (hq : A q) (hl : (Cond.fieldLink own index "QuotaTreeModel" "wrongAt" "I").before args s = true) (d : decode cc pc = .ok (.putfield index, 3))
    (k : ∀ (H1 : Heap) (locs1 : List Loc), oB G 8 q [x0, x1, x2, .int x3, .int x4, x5, .int x6, .int x7, .int x8, .int x9, .int x10, .int x11, .int x12, .int y, .int x14, .long x15, x16, .int x17] H1 → (∀ a, a ≠ q → H1[a]? = H[a]?) → va_S A H0 H1 locs1 → W p l e R s m args below meth c H1 locs1 cells slots Q (F0 m (pc + 3) ls rest)) : W p l e R s m args below meth c H locs cells slots Q (F0 m pc ls (.int y :: .ref q :: rest)) := by
  have hap := va_apart (own := own) hts hin tyX8 tyX8_ok nmX8 hK.1 (ci := 8) rfl
  obtain ⟨r, h1, cell, q1, q2, q3, q4⟩ := hO
  have hr : r = (RX8, TX8, 18) := Option.some.inj (h1.symm.trans rfl)
  subst hr
  obtain ⟨hSl, hfc, kC, hkC, hkind⟩ := hK.1.1 8 _ rfl
  obtain ⟨cf, kf, fi, f, hi, hsl⟩ := hSl 13 (by decide)
  have hlay := hts _ (hin _ (u_in_lay (T := TX8) (C := RX8) (N := 18) (k := 13) (by decide)))
  unfold u_lay at hlay
  rw [if_neg (by decide)] at hlay
  have hst := (u_facts hfc hkC (u_lays hts hin (k := 13) (by decide)) hi).1
  have h6 := u_store hfc hkC hkind hlay hi (ty := .int) (v := .int y) (by decide) rfl rfl
  refine W.putK E.1 E.2 (f := f) ⟨hown, hl, ⟨_, _, _, hi⟩, hst⟩ (by rw [q2]; exact h6) q1 q3 (by rw [hsl]; exact k2_hasslot (q4 13 (by decide))) rfl rfl d fun H' e1 e2 e3 => ?_
  rw [hsl] at e1 ⊢
  refine k H' _ ?_ e3 (hS.put e2 e3 hq)
  exact ⟨_, rfl, t_OB.to (V := updV (vp_V [x0, x1, x2, .int x3, .int x4, x5, .int x6, .int x7, .int x8, .int x9, .int x10, .int x11, .int x12, .int x13, .int x14, .long x15, x16, .int x17]) 13 (.int y)) ⟨_, e1, q2, q3, t_set q4 hap (by decide) _⟩ (fun j _ => vp_updV_set (fs := [x0, x1, x2, .int x3, .int x4, x5, .int x6, .int x7, .int x8, .int x9, .int x10, .int x11, .int x12, .int x13, .int x14, .long x15, x16, .int x17]) (Nat.le_of_ble_eq_true rfl) _ j)⟩
theorem g8_14 (E : p.tables.exec = Jvm.exec ∧ c.code = cc) {own : String} {index q : Nat} {Ts : List Cond} {x0 : Value} {x1 : Value} {x2 : Value} {x3 : Int32} {x4 : Int32} {x5 : Value} {x6 : Int32} {x7 : Int32} {x8 : Int32} {x9 : Int32} {x10 : Int32} {x11 : Int32} {x12 : Int32} {x13 : Int32} {x14 : Int32} {x15 : Int64} {x16 : Value} {x17 : Int32} (hts : ∀ w ∈ Ts, w.before args s = true) (hin : ∀ w ∈ wsX80, w ∈ Ts) (hown : s.vm.findClass own = some m.cls) (hK : KK G s) (hO : oB G 8 q [x0, x1, x2, .int x3, .int x4, x5, .int x6, .int x7, .int x8, .int x9, .int x10, .int x11, .int x12, .int x13, .int x14, .long x15, x16, .int x17] H) (hl : (Cond.fieldLink own index "QuotaTreeModel" "errorAt" "I").before args s = true) (d : decode cc pc = .ok (.getfield index, 3))
    (k : W p l e R s m args below meth c H locs cells slots Q (F0 m (pc + 3) ls (.int x14 :: rest))) : W p l e R s m args below meth c H locs cells slots Q (F0 m pc ls (.ref q :: rest)) := va_get E.1 E.2 hts hin hown hK.1 (va1 hO) 0 rfl (C := RX8) (T := TX8) (N := 18) rfl 14 (by decide) hl (fun _ h9 => h9) rfl d k
theorem p8_14 (E : p.tables.exec = Jvm.exec ∧ c.code = cc) {own : String} {index q : Nat} {Ts : List Cond} {x0 : Value} {x1 : Value} {x2 : Value} {x3 : Int32} {x4 : Int32} {x5 : Value} {x6 : Int32} {x7 : Int32} {x8 : Int32} {x9 : Int32} {x10 : Int32} {x11 : Int32} {x12 : Int32} {x13 : Int32} {x14 : Int32} {x15 : Int64} {x16 : Value} {x17 : Int32} {y : Int32} (hts : ∀ w ∈ Ts, w.before args s = true) (hin : ∀ w ∈ wsX80, w ∈ Ts) (hown : s.vm.findClass own = some m.cls) (hK : KK G s) (hO : oB G 8 q [x0, x1, x2, .int x3, .int x4, x5, .int x6, .int x7, .int x8, .int x9, .int x10, .int x11, .int x12, .int x13, .int x14, .long x15, x16, .int x17] H) (hS : va_S A H0 H locs) (hq : A q) (hl : (Cond.fieldLink own index "QuotaTreeModel" "errorAt" "I").before args s = true) (d : decode cc pc = .ok (.putfield index, 3))
    (k : ∀ (H1 : Heap) (locs1 : List Loc), oB G 8 q [x0, x1, x2, .int x3, .int x4, x5, .int x6, .int x7, .int x8, .int x9, .int x10, .int x11, .int x12, .int x13, .int y, .long x15, x16, .int x17] H1 → (∀ a, a ≠ q → H1[a]? = H[a]?) → va_S A H0 H1 locs1 → W p l e R s m args below meth c H1 locs1 cells slots Q (F0 m (pc + 3) ls rest)) : W p l e R s m args below meth c H locs cells slots Q (F0 m pc ls (.int y :: .ref q :: rest)) := by
  have hap := va_apart (own := own) hts hin tyX8 tyX8_ok nmX8 hK.1 (ci := 8) rfl
  obtain ⟨r, h1, cell, q1, q2, q3, q4⟩ := hO
  have hr : r = (RX8, TX8, 18) := Option.some.inj (h1.symm.trans rfl)
  subst hr
  obtain ⟨hSl, hfc, kC, hkC, hkind⟩ := hK.1.1 8 _ rfl
  obtain ⟨cf, kf, fi, f, hi, hsl⟩ := hSl 14 (by decide)
  have hlay := hts _ (hin _ (u_in_lay (T := TX8) (C := RX8) (N := 18) (k := 14) (by decide)))
  unfold u_lay at hlay
  rw [if_neg (by decide)] at hlay
  have hst := (u_facts hfc hkC (u_lays hts hin (k := 14) (by decide)) hi).1
  have h6 := u_store hfc hkC hkind hlay hi (ty := .int) (v := .int y) (by decide) rfl rfl
  refine W.putK E.1 E.2 (f := f) ⟨hown, hl, ⟨_, _, _, hi⟩, hst⟩ (by rw [q2]; exact h6) q1 q3 (by rw [hsl]; exact k2_hasslot (q4 14 (by decide))) rfl rfl d fun H' e1 e2 e3 => ?_
  rw [hsl] at e1 ⊢
  refine k H' _ ?_ e3 (hS.put e2 e3 hq)
  exact ⟨_, rfl, t_OB.to (V := updV (vp_V [x0, x1, x2, .int x3, .int x4, x5, .int x6, .int x7, .int x8, .int x9, .int x10, .int x11, .int x12, .int x13, .int x14, .long x15, x16, .int x17]) 14 (.int y)) ⟨_, e1, q2, q3, t_set q4 hap (by decide) _⟩ (fun j _ => vp_updV_set (fs := [x0, x1, x2, .int x3, .int x4, x5, .int x6, .int x7, .int x8, .int x9, .int x10, .int x11, .int x12, .int x13, .int x14, .long x15, x16, .int x17]) (Nat.le_of_ble_eq_true rfl) _ j)⟩
theorem g8_15 (E : p.tables.exec = Jvm.exec ∧ c.code = cc) {own : String} {index q : Nat} {Ts : List Cond} {x0 : Value} {x1 : Value} {x2 : Value} {x3 : Int32} {x4 : Int32} {x5 : Value} {x6 : Int32} {x7 : Int32} {x8 : Int32} {x9 : Int32} {x10 : Int32} {x11 : Int32} {x12 : Int32} {x13 : Int32} {x14 : Int32} {x15 : Int64} {x16 : Value} {x17 : Int32} (hts : ∀ w ∈ Ts, w.before args s = true) (hin : ∀ w ∈ wsX80, w ∈ Ts) (hown : s.vm.findClass own = some m.cls) (hK : KK G s) (hO : oB G 8 q [x0, x1, x2, .int x3, .int x4, x5, .int x6, .int x7, .int x8, .int x9, .int x10, .int x11, .int x12, .int x13, .int x14, .long x15, x16, .int x17] H) (hl : (Cond.fieldLink own index "QuotaTreeModel" "word" "J").before args s = true) (d : decode cc pc = .ok (.getfield index, 3))
    (k : W p l e R s m args below meth c H locs cells slots Q (F0 m (pc + 3) ls (.long x15 :: rest))) : W p l e R s m args below meth c H locs cells slots Q (F0 m pc ls (.ref q :: rest)) := va_get E.1 E.2 hts hin hown hK.1 (va1 hO) 0 rfl (C := RX8) (T := TX8) (N := 18) rfl 15 (by decide) hl (fun _ h9 => h9) rfl d k
theorem p8_15 (E : p.tables.exec = Jvm.exec ∧ c.code = cc) {own : String} {index q : Nat} {Ts : List Cond} {x0 : Value} {x1 : Value} {x2 : Value} {x3 : Int32} {x4 : Int32} {x5 : Value} {x6 : Int32} {x7 : Int32} {x8 : Int32} {x9 : Int32} {x10 : Int32} {x11 : Int32} {x12 : Int32} {x13 : Int32} {x14 : Int32} {x15 : Int64} {x16 : Value} {x17 : Int32} {y : Int64} (hts : ∀ w ∈ Ts, w.before args s = true) (hin : ∀ w ∈ wsX80, w ∈ Ts) (hown : s.vm.findClass own = some m.cls) (hK : KK G s) (hO : oB G 8 q [x0, x1, x2, .int x3, .int x4, x5, .int x6, .int x7, .int x8, .int x9, .int x10, .int x11, .int x12, .int x13, .int x14, .long x15, x16, .int x17] H) (hS : va_S A H0 H locs) (hq : A q) (hl : (Cond.fieldLink own index "QuotaTreeModel" "word" "J").before args s = true) (d : decode cc pc = .ok (.putfield index, 3))
    (k : ∀ (H1 : Heap) (locs1 : List Loc), oB G 8 q [x0, x1, x2, .int x3, .int x4, x5, .int x6, .int x7, .int x8, .int x9, .int x10, .int x11, .int x12, .int x13, .int x14, .long y, x16, .int x17] H1 → (∀ a, a ≠ q → H1[a]? = H[a]?) → va_S A H0 H1 locs1 → W p l e R s m args below meth c H1 locs1 cells slots Q (F0 m (pc + 3) ls rest)) : W p l e R s m args below meth c H locs cells slots Q (F0 m pc ls (.long y :: .ref q :: rest)) := by
  have hap := va_apart (own := own) hts hin tyX8 tyX8_ok nmX8 hK.1 (ci := 8) rfl
  obtain ⟨r, h1, cell, q1, q2, q3, q4⟩ := hO
  have hr : r = (RX8, TX8, 18) := Option.some.inj (h1.symm.trans rfl)
  subst hr
  obtain ⟨hSl, hfc, kC, hkC, hkind⟩ := hK.1.1 8 _ rfl
  obtain ⟨cf, kf, fi, f, hi, hsl⟩ := hSl 15 (by decide)
  have hlay := hts _ (hin _ (u_in_lay (T := TX8) (C := RX8) (N := 18) (k := 15) (by decide)))
  unfold u_lay at hlay
  rw [if_neg (by decide)] at hlay
  have hst := (u_facts hfc hkC (u_lays hts hin (k := 15) (by decide)) hi).1
  have h6 := u_store hfc hkC hkind hlay hi (ty := .long) (v := .long y) (by decide) rfl rfl
  refine W.putK E.1 E.2 (f := f) ⟨hown, hl, ⟨_, _, _, hi⟩, hst⟩ (by rw [q2]; exact h6) q1 q3 (by rw [hsl]; exact k2_hasslot (q4 15 (by decide))) rfl rfl d fun H' e1 e2 e3 => ?_
  rw [hsl] at e1 ⊢
  refine k H' _ ?_ e3 (hS.put e2 e3 hq)
  exact ⟨_, rfl, t_OB.to (V := updV (vp_V [x0, x1, x2, .int x3, .int x4, x5, .int x6, .int x7, .int x8, .int x9, .int x10, .int x11, .int x12, .int x13, .int x14, .long x15, x16, .int x17]) 15 (.long y)) ⟨_, e1, q2, q3, t_set q4 hap (by decide) _⟩ (fun j _ => vp_updV_set (fs := [x0, x1, x2, .int x3, .int x4, x5, .int x6, .int x7, .int x8, .int x9, .int x10, .int x11, .int x12, .int x13, .int x14, .long x15, x16, .int x17]) (Nat.le_of_ble_eq_true rfl) _ j)⟩
theorem g8_16 (E : p.tables.exec = Jvm.exec ∧ c.code = cc) {own : String} {index q : Nat} {Ts : List Cond} {x0 : Value} {x1 : Value} {x2 : Value} {x3 : Int32} {x4 : Int32} {x5 : Value} {x6 : Int32} {x7 : Int32} {x8 : Int32} {x9 : Int32} {x10 : Int32} {x11 : Int32} {x12 : Int32} {x13 : Int32} {x14 : Int32} {x15 : Int64} {x16 : Value} {x17 : Int32} (hts : ∀ w ∈ Ts, w.before args s = true) (hin : ∀ w ∈ wsX80, w ∈ Ts) (hown : s.vm.findClass own = some m.cls) (hK : KK G s) (hO : oB G 8 q [x0, x1, x2, .int x3, .int x4, x5, .int x6, .int x7, .int x8, .int x9, .int x10, .int x11, .int x12, .int x13, .int x14, .long x15, x16, .int x17] H) (hl : (Cond.fieldLink own index "QuotaTreeModel" "written" "[I").before args s = true) (d : decode cc pc = .ok (.getfield index, 3))
    (k : W p l e R s m args below meth c H locs cells slots Q (F0 m (pc + 3) ls (x16 :: rest))) : W p l e R s m args below meth c H locs cells slots Q (F0 m pc ls (.ref q :: rest)) := va_get E.1 E.2 hts hin hown hK.1 (va1 hO) 0 rfl (C := RX8) (T := TX8) (N := 18) rfl 16 (by decide) hl (fun _ h9 => h9) rfl d k
theorem g8_17 (E : p.tables.exec = Jvm.exec ∧ c.code = cc) {own : String} {index q : Nat} {Ts : List Cond} {x0 : Value} {x1 : Value} {x2 : Value} {x3 : Int32} {x4 : Int32} {x5 : Value} {x6 : Int32} {x7 : Int32} {x8 : Int32} {x9 : Int32} {x10 : Int32} {x11 : Int32} {x12 : Int32} {x13 : Int32} {x14 : Int32} {x15 : Int64} {x16 : Value} {x17 : Int32} (hts : ∀ w ∈ Ts, w.before args s = true) (hin : ∀ w ∈ wsX80, w ∈ Ts) (hown : s.vm.findClass own = some m.cls) (hK : KK G s) (hO : oB G 8 q [x0, x1, x2, .int x3, .int x4, x5, .int x6, .int x7, .int x8, .int x9, .int x10, .int x11, .int x12, .int x13, .int x14, .long x15, x16, .int x17] H) (hl : (Cond.fieldLink own index "QuotaTreeModel" "writtenMany" "I").before args s = true) (d : decode cc pc = .ok (.getfield index, 3))
    (k : W p l e R s m args below meth c H locs cells slots Q (F0 m (pc + 3) ls (.int x17 :: rest))) : W p l e R s m args below meth c H locs cells slots Q (F0 m pc ls (.ref q :: rest)) := va_get E.1 E.2 hts hin hown hK.1 (va1 hO) 0 rfl (C := RX8) (T := TX8) (N := 18) rfl 17 (by decide) hl (fun _ h9 => h9) rfl d k
theorem p8_17 (E : p.tables.exec = Jvm.exec ∧ c.code = cc) {own : String} {index q : Nat} {Ts : List Cond} {x0 : Value} {x1 : Value} {x2 : Value} {x3 : Int32} {x4 : Int32} {x5 : Value} {x6 : Int32} {x7 : Int32} {x8 : Int32} {x9 : Int32} {x10 : Int32} {x11 : Int32} {x12 : Int32} {x13 : Int32} {x14 : Int32} {x15 : Int64} {x16 : Value} {x17 : Int32} {y : Int32} (hts : ∀ w ∈ Ts, w.before args s = true) (hin : ∀ w ∈ wsX80, w ∈ Ts) (hown : s.vm.findClass own = some m.cls) (hK : KK G s) (hO : oB G 8 q [x0, x1, x2, .int x3, .int x4, x5, .int x6, .int x7, .int x8, .int x9, .int x10, .int x11, .int x12, .int x13, .int x14, .long x15, x16, .int x17] H) (hS : va_S A H0 H locs) (hq : A q) (hl : (Cond.fieldLink own index "QuotaTreeModel" "writtenMany" "I").before args s = true) (d : decode cc pc = .ok (.putfield index, 3))
    (k : ∀ (H1 : Heap) (locs1 : List Loc), oB G 8 q [x0, x1, x2, .int x3, .int x4, x5, .int x6, .int x7, .int x8, .int x9, .int x10, .int x11, .int x12, .int x13, .int x14, .long x15, x16, .int y] H1 → (∀ a, a ≠ q → H1[a]? = H[a]?) → va_S A H0 H1 locs1 → W p l e R s m args below meth c H1 locs1 cells slots Q (F0 m (pc + 3) ls rest)) : W p l e R s m args below meth c H locs cells slots Q (F0 m pc ls (.int y :: .ref q :: rest)) := by
  have hap := va_apart (own := own) hts hin tyX8 tyX8_ok nmX8 hK.1 (ci := 8) rfl
  obtain ⟨r, h1, cell, q1, q2, q3, q4⟩ := hO
  have hr : r = (RX8, TX8, 18) := Option.some.inj (h1.symm.trans rfl)
  subst hr
  obtain ⟨hSl, hfc, kC, hkC, hkind⟩ := hK.1.1 8 _ rfl
  obtain ⟨cf, kf, fi, f, hi, hsl⟩ := hSl 17 (by decide)
  have hlay := hts _ (hin _ (u_in_lay (T := TX8) (C := RX8) (N := 18) (k := 17) (by decide)))
  unfold u_lay at hlay
  rw [if_neg (by decide)] at hlay
  have hst := (u_facts hfc hkC (u_lays hts hin (k := 17) (by decide)) hi).1
  have h6 := u_store hfc hkC hkind hlay hi (ty := .int) (v := .int y) (by decide) rfl rfl
  refine W.putK E.1 E.2 (f := f) ⟨hown, hl, ⟨_, _, _, hi⟩, hst⟩ (by rw [q2]; exact h6) q1 q3 (by rw [hsl]; exact k2_hasslot (q4 17 (by decide))) rfl rfl d fun H' e1 e2 e3 => ?_
  rw [hsl] at e1 ⊢
  refine k H' _ ?_ e3 (hS.put e2 e3 hq)
  exact ⟨_, rfl, t_OB.to (V := updV (vp_V [x0, x1, x2, .int x3, .int x4, x5, .int x6, .int x7, .int x8, .int x9, .int x10, .int x11, .int x12, .int x13, .int x14, .long x15, x16, .int x17]) 17 (.int y)) ⟨_, e1, q2, q3, t_set q4 hap (by decide) _⟩ (fun j _ => vp_updV_set (fs := [x0, x1, x2, .int x3, .int x4, x5, .int x6, .int x7, .int x8, .int x9, .int x10, .int x11, .int x12, .int x13, .int x14, .long x15, x16, .int x17]) (Nat.le_of_ble_eq_true rfl) _ j)⟩
end CROWS
