/-! the whole object: its state, its eight past states, its texts, its reader -/
def QT (G : GG) (o : Nat → Nat) (ν : Int → Int) (σ : Int → Int) (π : Nat → Int → Int) (δ τ ω : Int → Int) (H : Heap) : Prop :=
  oB G 7 (o 0) [.ref (o 1), .ref (o 19), .int (iI (ν 2)), .int (iI (ν 3)), .ref (o 164), .ref (o 166), .ref (o 168)] H ∧ ST G (fun k => o (1 + k)) σ H ∧ aS G (o 19) 8 (fun i => o (20 + 18 * i)) H ∧
  (∀ i, i < 8 → ST G (fun k => o (20 + 18 * i + k)) (π i) H) ∧ BYr G (fun k => o (164 + k)) [.ref (o 165), .int (iI (ν 21))] τ H ∧ BYr G (fun k => o (166 + k)) [.ref (o 167), .int (iI (ν 31))] ω H ∧
  oB G 5 (o 168) [.ref (o 169), .int (iI (ν 41)), .int (iI (ν 42)), .ref (o 165), .int (iI (ν 44)), .int (iI (ν 45)), .int (iI (ν 46))] H ∧ ST G (fun k => o (169 + k)) δ H ∧ Ij o 187
section QTS
variable {G : GG} {o : Nat → Nat} {ν : Int → Int} {σ : Int → Int} {π : Nat → Int → Int} {δ τ ω : Int → Int} {H H1 : Heap}
theorem QT.ob (h : QT G o ν σ π δ τ ω H) : oB G 7 (o 0) [.ref (o 1), .ref (o 19), .int (iI (ν 2)), .int (iI (ν 3)), .ref (o 164), .ref (o 166), .ref (o 168)] H := h.1
theorem QT.now (h : QT G o ν σ π δ τ ω H) : ST G (fun k => o (1 + k)) σ H := h.2.1
theorem QT.past (h : QT G o ν σ π δ τ ω H) : aS G (o 19) 8 (fun i => o (20 + 18 * i)) H := h.2.2.1
theorem QT.old (h : QT G o ν σ π δ τ ω H) {i : Nat} (hi : i < 8) : ST G (fun k => o (20 + 18 * i + k)) (π i) H := h.2.2.2.1 i hi
theorem QT.txt (h : QT G o ν σ π δ τ ω H) : BYr G (fun k => o (164 + k)) [.ref (o 165), .int (iI (ν 21))] τ H := h.2.2.2.2.1
theorem QT.wri (h : QT G o ν σ π δ τ ω H) : BYr G (fun k => o (166 + k)) [.ref (o 167), .int (iI (ν 31))] ω H := h.2.2.2.2.2.1
theorem QT.rdr (h : QT G o ν σ π δ τ ω H) : oB G 5 (o 168) [.ref (o 169), .int (iI (ν 41)), .int (iI (ν 42)), .ref (o 165), .int (iI (ν 44)), .int (iI (ν 45)), .int (iI (ν 46))] H := h.2.2.2.2.2.2.1
theorem QT.dra (h : QT G o ν σ π δ τ ω H) : ST G (fun k => o (169 + k)) δ H := h.2.2.2.2.2.2.2.1
theorem QT.ij (h : QT G o ν σ π δ τ ω H) : Ij o 187 := h.2.2.2.2.2.2.2.2
theorem QT.txo (h : QT G o ν σ π δ τ ω H) : oB G 1 (o 164) [.ref (o 165), .int (iI (ν 21))] H := h.txt.1
theorem QT.wro (h : QT G o ν σ π δ τ ω H) : oB G 1 (o 166) [.ref (o 167), .int (iI (ν 31))] H := h.wri.1
theorem QT.foo (h : QT G o ν σ π δ τ ω H) : oB G 3 (o 2) [.ref (o 3), .ref (o 4), .ref (o 5), .int (iI (σ 2))] H := h.now.foo
theorem QT.fio (h : QT G o ν σ π δ τ ω H) : oB G 2 (o 6) [.ref (o 7), .ref (o 8), .int (iI (σ 3))] H := h.now.fio
theorem QT.aco (h : QT G o ν σ π δ τ ω H) : oB G 0 (o 9) [.ref (o 10), .ref (o 11), .ref (o 12), .ref (o 13)] H := h.now.aco
theorem QT.gio (h : QT G o ν σ π δ τ ω H) : oB G 4 (o 14) [.ref (o 15), .ref (o 16), .ref (o 17), .ref (o 18), .int (iI (σ 4))] H := h.now.gio
theorem QT.nob (h : QT G o ν σ π δ τ ω H) : oB G 6 (o 1) [.ref (o 2), .ref (o 6), .ref (o 9), .ref (o 14), .int (iI (σ 0)), .int (iI (σ 1))] H := h.now.1
theorem QT.dob (h : QT G o ν σ π δ τ ω H) : oB G 6 (o 169) [.ref (o 170), .ref (o 174), .ref (o 177), .ref (o 182), .int (iI (δ 0)), .int (iI (δ 1))] H := h.dra.1
theorem QT.dfi (h : QT G o ν σ π δ τ ω H) : oB G 2 (o 174) [.ref (o 175), .ref (o 176), .int (iI (δ 3))] H := h.dra.fio
theorem QT.kp (h : QT G o ν σ π δ τ ω H) (hk : ∀ k, k < 187 → H1[o k]? = H[o k]?) : QT G o ν σ π δ τ ω H1 :=
  ⟨h.1.kp (hk 0 (by decide)), h.now.kp (fun k q => hk _ (by omega)), h.past.kp (hk 19 (by decide)), fun i hi => (h.old hi).kp (fun k q => hk _ (by omega)), h.txt.kp (fun k q => hk _ (by omega)), h.wri.kp (fun k q => hk _ (by omega)), h.rdr.kp (hk 168 (by decide)), h.dra.kp (fun k q => hk _ (by omega)), h.ij⟩
theorem QT.lt (h : QT G o ν σ π δ τ ω H) : ∀ k, k < 187 → o k < H.size := by
  intro k hk
  by_cases q0 : k = 0
  · subst q0; exact h.1.lt
  · by_cases q1 : k < 19
    · have := h.now.lt (k - 1) (by omega)
      rwa [show 1 + (k - 1) = k by omega] at this
    · by_cases q2 : k = 19
      · subst q2; exact h.past.lt
      · by_cases q3 : k < 164
        · have := (h.old (i := (k - 20) / 18) (by omega)).lt ((k - 20) % 18) (by omega)
          rwa [show 20 + 18 * ((k - 20) / 18) + (k - 20) % 18 = k by omega] at this
        · by_cases q4 : k < 166
          · have := h.txt.lt (k - 164) (by omega)
            rwa [show 164 + (k - 164) = k by omega] at this
          · by_cases q5 : k < 168
            · have := h.wri.lt (k - 166) (by omega)
              rwa [show 166 + (k - 166) = k by omega] at this
            · by_cases q6 : k = 168
              · subst q6; exact h.rdr.lt
              · have := h.dra.lt (k - 169) (by omega)
                rwa [show 169 + (k - 169) = k by omega] at this
/-- which cells lie from a on, n of them -/
abbrev Aq (o : Nat → Nat) (a n : Nat) : Nat → Prop := Ax (fun k => o (a + k)) n
theorem Aq.no (hI : Ij o 187) {a n j : Nat} (hj : j < 187) (ha : a + n ≤ 187) (hd : j < a ∨ a + n ≤ j) : ¬ Aq o a n (o j) := fun ⟨k, hk, e⟩ => by
  have := hI j (a + k) hj (by omega) e
  omega
theorem Aq.up {a n : Nat} (ha : a + n ≤ 187) : ∀ q, Aq o a n q → Ax o 187 q := fun q ⟨k, hk, e⟩ => ⟨a + k, by omega, e⟩
theorem Aq.in (a b n m : Nat) (hb : b + m ≤ n) : ∀ q, Ax (fun k => o (a + (b + k))) m q → Aq o a n q := fun q ⟨k, hk, e⟩ => ⟨b + k, by omega, e⟩
theorem Aq.up2 {a b m : Nat} (ha : a + b + m ≤ 187) : ∀ q, Ax (fun k => o (a + (b + k))) m q → Ax o 187 q := fun q ⟨k, hk, e⟩ => ⟨a + (b + k), by omega, e⟩
theorem QT.nx (h : QT G o ν σ π δ τ ω H) {a n : Nat} (ha : a + n ≤ 187) (ho : ∀ q, q < H.size → ¬ Aq o a n q → H1[q]? = H[q]?) : ∀ j, j < 187 → (j < a ∨ a + n ≤ j) → H1[o j]? = H[o j]? := fun j hj hd => ho _ (h.lt j hj) (Aq.no h.ij hj ha hd)
/-- the state now is another one -/
theorem QT.upN {σ2 : Int → Int} (h : QT G o ν σ π δ τ ω H) (hn : ST G (fun k => o (1 + k)) σ2 H1) (ho : ∀ q, q < H.size → ¬ Aq o 1 18 q → H1[q]? = H[q]?) : QT G o ν σ2 π δ τ ω H1 := by
  have k := h.nx (by decide) ho
  exact ⟨h.1.kp (k 0 (by decide) (by decide)), hn, h.past.kp (k 19 (by decide) (by decide)), fun i hi => (h.old hi).kp (fun j q => k _ (by omega) (by omega)), h.txt.kp (fun j q => k _ (by omega) (by omega)), h.wri.kp (fun j q => k _ (by omega) (by omega)), h.rdr.kp (k 168 (by decide) (by decide)), h.dra.kp (fun j q => k _ (by omega) (by omega)), h.ij⟩
/-- a past state is another one -/
theorem QT.upP {σ2 : Int → Int} {i : Nat} (hi : i < 8) (h : QT G o ν σ π δ τ ω H) (hn : ST G (fun k => o (20 + 18 * i + k)) σ2 H1) (ho : ∀ q, q < H.size → ¬ Aq o (20 + 18 * i) 18 q → H1[q]? = H[q]?) : QT G o ν σ (fun j => if j = i then σ2 else π j) δ τ ω H1 := by
  have k := h.nx (by omega) ho
  refine ⟨h.1.kp (k 0 (by decide) (by omega)), h.now.kp (fun j q => k _ (by omega) (by omega)), h.past.kp (k 19 (by decide) (by omega)), fun j hj => ?_, h.txt.kp (fun j q => k _ (by omega) (by omega)), h.wri.kp (fun j q => k _ (by omega) (by omega)), h.rdr.kp (k 168 (by decide) (by omega)), h.dra.kp (fun j q => k _ (by omega) (by omega)), h.ij⟩
  by_cases q : j = i
  · subst q
    show ST G _ (if j = j then σ2 else π j) H1
    rw [if_pos rfl]; exact hn
  · show ST G _ (if j = i then σ2 else π j) H1
    rw [if_neg q]
    exact (h.old hj).kp (fun m hm => k _ (by omega) (by omega))
/-- the object's own numbers are others -/
theorem QT.upO {ν2 : Int → Int} (h : QT G o ν σ π δ τ ω H) (hn : oB G 7 (o 0) [.ref (o 1), .ref (o 19), .int (iI (ν2 2)), .int (iI (ν2 3)), .ref (o 164), .ref (o 166), .ref (o 168)] H1) (ho : ∀ q, q ≠ o 0 → H1[q]? = H[q]?) (e : ∀ j, 4 ≤ j → ν2 j = ν j) : QT G o ν2 σ π δ τ ω H1 := by
  have k : ∀ j, 1 ≤ j → j < 187 → H1[o j]? = H[o j]? := fun j j0 j1 => ho _ (h.ij.ne j 0 j1 (by decide) (by omega))
  refine ⟨hn, h.now.kp (fun j q => k _ (by omega) (by omega)), h.past.kp (k 19 (by decide) (by decide)), fun i hi => (h.old hi).kp (fun j q => k _ (by omega) (by omega)), ?_, ?_, ?_, h.dra.kp (fun j q => k _ (by omega) (by omega)), h.ij⟩
  · rw [e 21 (by omega)]; exact h.txt.kp (fun j q => k _ (by omega) (by omega))
  · rw [e 31 (by omega)]; exact h.wri.kp (fun j q => k _ (by omega) (by omega))
  · rw [e 41 (by omega), e 42 (by omega), e 44 (by omega), e 45 (by omega), e 46 (by omega)]; exact h.rdr.kp (k 168 (by decide) (by decide))
/-- the text buffer is another one -/
theorem QT.upT {ν2 τ2 : Int → Int} (h : QT G o ν σ π δ τ ω H) (hn : BYr G (fun k => o (164 + k)) [.ref (o 165), .int (iI (ν2 21))] τ2 H1) (ho : ∀ q, q < H.size → ¬ Aq o 164 2 q → H1[q]? = H[q]?) (e : ∀ j, ¬ j = 21 → ν2 j = ν j) : QT G o ν2 σ π δ τ2 ω H1 := by
  have k := h.nx (by decide) ho
  refine ⟨?_, h.now.kp (fun j q => k _ (by omega) (by omega)), h.past.kp (k 19 (by decide) (by decide)), fun i hi => (h.old hi).kp (fun j q => k _ (by omega) (by omega)), hn, ?_, ?_, h.dra.kp (fun j q => k _ (by omega) (by omega)), h.ij⟩
  · rw [e 2 (by omega), e 3 (by omega)]; exact h.1.kp (k 0 (by decide) (by decide))
  · rw [e 31 (by omega)]; exact h.wri.kp (fun j q => k _ (by omega) (by omega))
  · rw [e 41 (by omega), e 42 (by omega), e 44 (by omega), e 45 (by omega), e 46 (by omega)]; exact h.rdr.kp (k 168 (by decide) (by decide))
/-- the written text is another one -/
theorem QT.upW {ν2 ω2 : Int → Int} (h : QT G o ν σ π δ τ ω H) (hn : BYr G (fun k => o (166 + k)) [.ref (o 167), .int (iI (ν2 31))] ω2 H1) (ho : ∀ q, q < H.size → ¬ Aq o 166 2 q → H1[q]? = H[q]?) (e : ∀ j, ¬ j = 31 → ν2 j = ν j) : QT G o ν2 σ π δ τ ω2 H1 := by
  have k := h.nx (by decide) ho
  refine ⟨?_, h.now.kp (fun j q => k _ (by omega) (by omega)), h.past.kp (k 19 (by decide) (by decide)), fun i hi => (h.old hi).kp (fun j q => k _ (by omega) (by omega)), ?_, hn, ?_, h.dra.kp (fun j q => k _ (by omega) (by omega)), h.ij⟩
  · rw [e 2 (by omega), e 3 (by omega)]; exact h.1.kp (k 0 (by decide) (by decide))
  · rw [e 21 (by omega)]; exact h.txt.kp (fun j q => k _ (by omega) (by omega))
  · rw [e 41 (by omega), e 42 (by omega), e 44 (by omega), e 45 (by omega), e 46 (by omega)]; exact h.rdr.kp (k 168 (by decide) (by decide))
end QTS
/-- x mod 8, of a number of changes -/
theorem iI_xor8 {x : Int} (h0 : 0 ≤ x) (h1 : x < 2147483648) : ∃ z : Int, iI x ^^^ iI 8 = iI z ∧ 0 ≤ z ∧ z < 2147483648 := by
  refine ⟨(iI x ^^^ iI 8).toInt, iI_of _, ?_, (iI_r _).2⟩
  have hm : (iI x ^^^ iI 8).toBitVec.msb = false := by
    show ((iI x).toBitVec ^^^ (iI 8).toBitVec).msb = false
    rw [BitVec.msb_xor]
    have a : (iI x).toBitVec.msb = false := by
      rw [BitVec.msb_eq_toInt]
      show decide ((iI x).toInt < 0) = false
      rw [iI_t ⟨by omega, h1⟩]
      exact decide_eq_false (by omega)
    have b : (iI 8).toBitVec.msb = false := by decide
    rw [a, b]; rfl
  rw [BitVec.msb_eq_toInt] at hm
  have := of_decide_eq_false hm
  show 0 ≤ (iI x ^^^ iI 8).toBitVec.toInt
  omega
section ZXOR
variable {p : Program} {l : Launch} {e : Env} {R : Room} {s : State} {m : MethodId} {args : Array Value} {below : List Frame} {meth : Method} {c : Code} {H : Heap} {locs : List Loc} {cells slots : Nat} {Q : State → Prop} {cc : ByteArray} {pc : Nat} {ls : Array Slot} {rest : List Value} {G : GG}
theorem z_ixor8 (E : p.tables.exec = Jvm.exec ∧ c.code = cc) {a : Int} (ha : 0 ≤ a ∧ a < 2147483648) (d : decode cc pc = .ok (.ixor, 1))
    (k : ∀ z : Int, 0 ≤ z ∧ z < 2147483648 → W p l e R s m args below meth c H locs cells slots Q (F0 m (pc + 1) ls (.int (iI z) :: rest))) : W p l e R s m args below meth c H locs cells slots Q (F0 m pc ls (.int (iI 8) :: .int (iI a) :: rest)) := by
  obtain ⟨z, h1, h2⟩ := iI_xor8 ha.1 ha.2
  exact lv_ixor E.1 E.2 d (by rw [h1]; exact k z h2)
/-- a state out of the row of states -/
theorem z_aaload (E : p.tables.exec = Jvm.exec ∧ c.code = cc) {q n : Nat} {f : Nat → Nat} {i : Int} (hK : KK G s) (hA : aS G q n f H) (hi : 0 ≤ i ∧ i < (n : Int)) (hn : n < 2147483648) (d : decode cc pc = .ok (.aaload, 1))
    (k : W p l e R s m args below meth c H locs cells slots Q (F0 m (pc + 1) ls (.ref (f i.toNat) :: rest))) : W p l e R s m args below meth c H locs cells slots Q (F0 m pc ls (.int (iI i) :: .ref q :: rest)) := by
  have hin := iI_in hi.1 hi.2 hn
  have hP : va_P G.1 vwCl [(q, .inl (G.2 3, n, .inr (.inr (.inr (.inr (fun k => some (f k)))))))] H := fun k x hk => by
    have hz : k < 1 := (List.getElem?_eq_some_iff.mp hk).1
    rw [show k = 0 by omega] at hk
    cases hk
    exact hA
  refine va_aldq E.1 E.2 hK.1 hP 0 3 rfl rfl hin d ?_
  have e2 : (iI i).toNatClampNeg = i.toNat := iI_c hi.1 (by omega)
  rw [e2]
  exact k
end ZXOR
