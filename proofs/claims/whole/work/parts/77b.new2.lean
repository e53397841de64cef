/-! the row of states, made and filled; the reader's bytes -/
def aSo (G : GG) (q n : Nat) (g : Nat → Option Nat) (H : Heap) : Prop := H[q]? = some (vp_cell (G.2 3) (n, .inr (.inr (.inr (.inr g)))))
theorem aSo.lt {G : GG} {q n : Nat} {g : Nat → Option Nat} {H : Heap} (h : aSo G q n g H) : q < H.size := (Array.getElem?_eq_some_iff.mp h).1
theorem aSo.kp {G : GG} {q n : Nat} {g : Nat → Option Nat} {H H1 : Heap} (h : aSo G q n g H) (k : H1[q]? = H[q]?) : aSo G q n g H1 := k.trans h
theorem aSo.aS {G : GG} {q n : Nat} {g : Nat → Option Nat} {f : Nat → Nat} {H : Heap} (h : aSo G q n g H) (e : ∀ j, j < n → g j = some (f j)) : aS G q n f H := by
  have h2 : H[q]? = some (arrV (G.2 3) n (fun j => va_rf (g j))) := h
  show H[q]? = some (arrV (G.2 3) n (fun j => va_rf (some (f j))))
  rw [h2]
  congr 1
  unfold arrV
  congr 1
  apply Array.ext
  · simp
  · intro j h1 h3
    have hj : j < n := by simpa using h1
    simp only [Array.getElem_ofFn]
    rw [e j hj]
section ZNEW2
variable {p : Program} {l : Launch} {e : Env} {R : Room} {s : State} {m : MethodId} {args : Array Value} {below : List Frame} {meth : Method} {c : Code} {H : Heap} {locs : List Loc} {cells slots : Nat} {Q : State → Prop} {cc : ByteArray} {pc : Nat} {ls : Array Slot} {rest : List Value} {G : GG} {A : Nat → Prop} {H0 : Heap}
theorem z_newS (E : p.tables.exec = Jvm.exec ∧ c.code = cc) {own : String} {index : Nat} (hown : s.vm.findClass own = some m.cls) (hclink : (Cond.classLink own index RX6).before args s = true) (hover : va_AO RX6 s) (hK : KK G s) (hS : va_S A H0 H locs) (hcells : cells + 1 ≤ R.cells) (hslots : slots + 8 ≤ R.slots) (hdg : decode cc pc = .ok (.anewarray index, 3)) {z : Nat} (hz : H.size = z)
    (kk : ∀ H1 : Heap, aSo G z 8 (fun _ => none) H1 → H1.size = z + 1 → (∀ q, q < z → H1[q]? = H[q]?) → va_S A H0 H1 locs → W p l e R s m args below meth c H1 locs (cells + 1) (slots + 8) Q (F0 m (pc + 3) ls (.ref z :: rest))) : W p l e R s m args below meth c H locs cells slots Q (F0 m pc ls (.int (iI 8) :: rest)) := by
  subst hz
  have h8 : (iI 8).toNatClampNeg = 8 := by decide
  refine W.anew E.1 E.2 hown hclink (va_AO.use hover) rfl hdg rfl (by decide) (by rw [h8]; decide) hcells (by rw [h8]; exact hslots) fun cA kA comp f1 f2 f3 f4 => ?_
  rw [h8]
  obtain ⟨kA', comp', -, -, -, g4⟩ := (hK.1.2 3 _ rfl).2
  have hq : cA = G.2 3 := Option.some.inj (f1.symm.trans g4)
  subst hq
  generalize hH1 : H.push ({ cls := G.2 3, slots := Array.replicate 8 .null, vm := .none } : Cell) = H1
  have z1 : H1.size = H.size + 1 := by rw [← hH1, Array.size_push]
  have e1 : H1[H.size]? = some (arrV (G.2 3) 8 (fun _ => .null)) := by rw [← hH1, Array.getElem?_push_size, ← arrV_new]
  have o1 : ∀ q : Nat, q < H.size → H1[q]? = H[q]? := fun q hq => by rw [← hH1, Array.getElem?_push, if_neg (Nat.ne_of_lt hq)]
  exact kk H1 (by show H1[H.size]? = _; rw [e1]; rfl) z1 o1 ⟨Nat.le_trans hS.1 (by omega), fun x h1 h2 => (o1 x (Nat.lt_of_lt_of_le h1 hS.1)).trans (hS.2.1 x h1 h2), hS.2.2⟩
theorem z_aastS (E : p.tables.exec = Jvm.exec ∧ c.code = cc) (hK : KK G s) {q n v : Nat} {g : Nat → Option Nat} {vs : List Value} (hA : aSo G q n g H) (hv : oB G 6 v vs H) (hS : va_S A H0 H locs) (hq : A q) {i : Int} (hi : 0 ≤ i ∧ i < (n : Int)) (hn : n < 2147483648) (d : decode cc pc = .ok (.aastore, 1))
    (k : ∀ (H1 : Heap) (locs1 : List Loc), aSo G q n (fun j => if j = i.toNat then some v else g j) H1 → (∀ a, a ≠ q → H1[a]? = H[a]?) → H1.size = H.size → va_S A H0 H1 locs1 → W p l e R s m args below meth c H1 locs1 cells slots Q (F0 m (pc + 1) ls rest)) : W p l e R s m args below meth c H locs cells slots Q (F0 m pc ls (.ref v :: .int (iI i) :: .ref q :: rest)) := by
  have hin := iI_in hi.1 hi.2 hn
  have e2 : (iI i).toNatClampNeg = i.toNat := iI_c hi.1 (by omega)
  have hlt : (iI i).toNatClampNeg < n := Nat.not_le.mp fun q => hin (Or.inr q)
  have h0 : ¬ iI i < 0 := fun q => hin (Or.inl q)
  obtain ⟨r, hr, cellV, g1, g2, g3, -⟩ := hv
  have hr2 : r = (RX6, TX6, 6) := Option.some.inj (hr.symm.trans rfl)
  subst hr2
  have hcls := (hK.1.1 6 _ rfl).2
  obtain ⟨kA, comp, k1, k2, k3, -⟩ := (hK.1.2 3 _ rfl).2
  have hcomp : comp = G.1.1 6 := Option.some.inj (k3.symm.trans hcls.1)
  subst hcomp
  obtain ⟨kC, hkC, -⟩ := hcls.2
  refine W.aast E.1 E.2 hA (fun q h => by cases h) (fun h => by cases h) k1 k2 rfl hkC ⟨h0, by show _ < (arrV _ _ _).slots.size; rw [arrV_size]; exact hlt⟩ g1 (fun q h => by rw [g3] at h; cases h) (by rw [g2]; exact hkC) (by rw [g2]; exact va_assign hcls) rfl rfl d fun H1 e1 z1 oq => ?_
  refine k H1 _ ?_ oq z1 (hS.put z1 oq hq)
  show H1[q]? = some (vp_cell _ _)
  rw [e1, vp_cell_q, vp_cell_q, arrV_store, e2]
  congr 2
  funext x
  by_cases hx : x = i.toNat
  · subst hx
    simp [updV, va_rf]
  · simp [updV, hx]
theorem z_getBy (E : p.tables.exec = Jvm.exec ∧ c.code = cc) {index q : Nat} {Ts : List Cond} {x0 x1 : Value} (hts : ∀ w ∈ Ts, w.before args s = true) (hin : ∀ w ∈ wsX10, w ∈ Ts) (hown : s.vm.findClass RX5 = some m.cls) (hK : KK G s) (hO : oB G 1 q [x0, x1] H) (hlink : (Cond.fieldLinkNest RX5 index RX1 "bytes" "[B" "QuotaTree").before args s = true) (d : decode cc pc = .ok (.getfield index, 3))
    (k : W p l e R s m args below meth c H locs cells slots Q (F0 m (pc + 3) ls (x0 :: rest))) : W p l e R s m args below meth c H locs cells slots Q (F0 m pc ls (.ref q :: rest)) :=
  va_getN E.1 E.2 hts hin hown hK.1 (va1 hO) 0 rfl rfl 0 (by decide) hlink (fun _ h => h) rfl d k
end ZNEW2
