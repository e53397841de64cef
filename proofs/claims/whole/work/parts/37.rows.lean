/-! more rows: switches; the reference's object by its numbers -/
section ZTAB
variable {p : Program} {l : Launch} {e : Env} {R : Room} {s : State} {m : MethodId} {args : Array Value} {below : List Frame} {meth : Method} {c : Code} {H : Heap} {locs : List Loc} {cells slots : Nat} {Q : State → Prop} {cc : ByteArray} {pc : Nat} {ls : Array Slot} {rest : List Value}
theorem z_tabIn (E : p.tables.exec = Jvm.exec ∧ c.code = cc) {dflt lo hi w k off : Int} {offs : Array Int} {len tgt : Nat} (hw : w = k) (hk : R32 k) (h1 : lo ≤ k) (h2 : k ≤ hi) (d : decode cc pc = .ok (.tableswitch dflt lo hi offs, len)) (ho : offs[(k - lo).toNat]? = some off) (ht : (pc : Int) + off = (tgt : Int))
    (kk : W p l e R s m args below meth c H locs cells slots Q (F0 m tgt ls rest)) : W p l e R s m args below meth c H locs cells slots Q (F0 m pc ls (.int (iI w) :: rest)) := by
  subst hw
  have e1 : (iI w).toInt = w := iI_t hk
  exact lv_tableIn E.1 E.2 d (by rw [e1]; omega) (by rw [e1]; omega) (by rw [e1]; exact ho) ht kk
theorem z_tabOut (E : p.tables.exec = Jvm.exec ∧ c.code = cc) {dflt lo hi w : Int} {offs : Array Int} {len tgt : Nat} (hw : R32 w) (h : w < lo ∨ hi < w) (d : decode cc pc = .ok (.tableswitch dflt lo hi offs, len)) (ht : (pc : Int) + dflt = (tgt : Int))
    (kk : W p l e R s m args below meth c H locs cells slots Q (F0 m tgt ls rest)) : W p l e R s m args below meth c H locs cells slots Q (F0 m pc ls (.int (iI w) :: rest)) := by
  have e1 : (iI w).toInt = w := iI_t hw
  exact lv_tableOut E.1 E.2 d (by rw [e1]; exact h) ht kk
end ZTAB
theorem W8.mu {G : GG} {o : Nat → Nat} {Vs : List Value} {μ : Int → Int} {σ φ κ β ω : Int → Int} {H : Heap} (h : W8 G o Vs σ φ κ β ω H) (e : Vs = mV o μ) : W8 G o (mV o μ) σ φ κ β ω H := by
  rw [← e]; exact h
theorem W8.eq {G : GG} {o : Nat → Nat} {Vs V2 : List Value} {σ φ κ β ω : Int → Int} {H : Heap} (h : W8 G o Vs σ φ κ β ω H) (e : Vs = V2) : W8 G o V2 σ φ κ β ω H := by
  rw [← e]; exact h
