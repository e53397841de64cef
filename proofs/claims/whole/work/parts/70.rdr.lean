/-! the class's reader: its cells; what it reads, by names that don't unfold -/
def RD (G : GG) (o : Nat → Nat) (η δ τ : Int → Int) (H : Heap) : Prop :=
  oB G 5 (o 0) [.ref (o 2), .int (iI (η 1)), .int (iI (η 2)), .ref (o 1), .int (iI (η 4)), .int (iI (η 5)), .int (iI (η 6))] H ∧ aB G (o 1) 900 τ H ∧ ST G (fun k => o (2 + k)) δ H ∧ Ij o 20
section RDS
variable {G : GG} {o : Nat → Nat} {η η2 δ δ2 τ : Int → Int} {H H1 : Heap}
theorem RD.ob (h : RD G o η δ τ H) : oB G 5 (o 0) [.ref (o 2), .int (iI (η 1)), .int (iI (η 2)), .ref (o 1), .int (iI (η 4)), .int (iI (η 5)), .int (iI (η 6))] H := h.1
theorem RD.ar (h : RD G o η δ τ H) : aB G (o 1) 900 τ H := h.2.1
theorem RD.dra (h : RD G o η δ τ H) : ST G (fun k => o (2 + k)) δ H := h.2.2.1
theorem RD.ij (h : RD G o η δ τ H) : Ij o 20 := h.2.2.2
theorem RD.dob (h : RD G o η δ τ H) : oB G 6 (o 2) [.ref (o 3), .ref (o 7), .ref (o 10), .ref (o 15), .int (iI (δ 0)), .int (iI (δ 1))] H := h.dra.1
theorem RD.foo (h : RD G o η δ τ H) : oB G 3 (o 3) [.ref (o 4), .ref (o 5), .ref (o 6), .int (iI (δ 2))] H := h.dra.foo
theorem RD.fio (h : RD G o η δ τ H) : oB G 2 (o 7) [.ref (o 8), .ref (o 9), .int (iI (δ 3))] H := h.dra.fio
theorem RD.aco (h : RD G o η δ τ H) : oB G 0 (o 10) [.ref (o 11), .ref (o 12), .ref (o 13), .ref (o 14)] H := h.dra.aco
theorem RD.gio (h : RD G o η δ τ H) : oB G 4 (o 15) [.ref (o 16), .ref (o 17), .ref (o 18), .ref (o 19), .int (iI (δ 4))] H := h.dra.gio
theorem RD.lt (h : RD G o η δ τ H) : ∀ k, k < 20 → o k < H.size := by
  intro k hk
  by_cases q0 : k = 0
  · subst q0; exact h.1.lt
  · by_cases q1 : k = 1
    · subst q1; exact h.2.1.lt
    · have := h.dra.lt (k - 2) (by omega)
      rwa [show 2 + (k - 2) = k by omega] at this
theorem RD.kp (h : RD G o η δ τ H) (hk : ∀ k, k < 20 → H1[o k]? = H[o k]?) : RD G o η δ τ H1 :=
  ⟨h.1.kp (hk 0 (by decide)), h.2.1.kp (hk 1 (by decide)), h.dra.kp (fun k q => hk _ (by omega)), h.ij⟩
theorem RD.upO (h : RD G o η δ τ H) (hn : oB G 5 (o 0) [.ref (o 2), .int (iI (η2 1)), .int (iI (η2 2)), .ref (o 1), .int (iI (η2 4)), .int (iI (η2 5)), .int (iI (η2 6))] H1) (ho : ∀ q, q ≠ o 0 → H1[q]? = H[q]?) : RD G o η2 δ τ H1 := by
  have k : ∀ j, 1 ≤ j → j < 20 → H1[o j]? = H[o j]? := fun j j0 j1 => ho _ (h.ij.ne j 0 j1 (by decide) (by omega))
  exact ⟨hn, h.ar.kp (k 1 (by decide) (by decide)), h.dra.kp (fun j q => k _ (by omega) (by omega)), h.ij⟩
theorem RD.upD (h : RD G o η δ τ H) (hn : ST G (fun k => o (2 + k)) δ2 H1) (ho : ∀ q, q < H.size → ¬ Ax (fun k => o (2 + k)) 18 q → H1[q]? = H[q]?) : RD G o η δ2 τ H1 := by
  have k : ∀ j, j < 2 → H1[o j]? = H[o j]? := fun j j1 => ho _ (h.lt j (by omega)) (fun ⟨i, hi, e⟩ => by
    have := h.ij j (2 + i) (by omega) (by omega) e
    omega)
  exact ⟨h.1.kp (k 0 (by decide)), h.ar.kp (k 1 (by decide)), hn, h.ij⟩
theorem RD.cg (h : RD G o η δ τ H) (e1 : η2 1 = η 1) (e2 : η2 2 = η 2) (e4 : η2 4 = η 4) (e5 : η2 5 = η 5) (e6 : η2 6 = η 6) : RD G o η2 δ τ H := by
  refine ⟨?_, h.2⟩
  rw [e1, e2, e4, e5, e6]; exact h.1
end RDS
section RLS
variable {b : Int → Int} {n c : Int}
def Rl (b : Int → Int) (n c : Int) : Int := if h : c < c then Rl b n (c + 1) else rn b n 97 122 (sk b n c)
termination_by (0 : Nat)
decreasing_by all_goals first | omega | contradiction
theorem Rl_f (b : Int → Int) (n c : Int) : Rl b n c = rn b n 97 122 (sk b n c) := by rw [Rl, dif_neg (Int.lt_irrefl c)]
def Rd (b : Int → Int) (n c : Int) : Int := if h : c < c then Rd b n (c + 1) else rn b n 48 57 (sk b n c)
termination_by (0 : Nat)
decreasing_by all_goals first | omega | contradiction
theorem Rd_f (b : Int → Int) (n c : Int) : Rd b n c = rn b n 48 57 (sk b n c) := by rw [Rd, dif_neg (Int.lt_irrefl c)]
def rW (b : Int → Int) (n c : Int) : Int := if h : c < c then rW b n (c + 1) else wW b (sk b n c) (rn b n 97 122 (sk b n c) - sk b n c).toNat
termination_by (0 : Nat)
decreasing_by all_goals first | omega | contradiction
theorem rW_f (b : Int → Int) (n c : Int) : rW b n c = wW b (sk b n c) (rn b n 97 122 (sk b n c) - sk b n c).toNat := by rw [rW, dif_neg (Int.lt_irrefl c)]
def rN (b : Int → Int) (n c : Int) : Int := if h : c < c then rN b n (c + 1) else min (nv b (sk b n c) (rn b n 48 57 (sk b n c) - sk b n c).toNat) 999999
termination_by (0 : Nat)
decreasing_by all_goals first | omega | contradiction
theorem rN_f (b : Int → Int) (n c : Int) : rN b n c = min (nv b (sk b n c) (rn b n 48 57 (sk b n c) - sk b n c).toNat) 999999 := by rw [rN, dif_neg (Int.lt_irrefl c)]
theorem Sk_b (b : Int → Int) {n c : Int} (h : c ≤ n) : c ≤ Sk b n c ∧ Sk b n c ≤ n := by rw [Sk_f]; exact sk_b b h
theorem Sk_Sk (b : Int → Int) (n c : Int) : Sk b n (Sk b n c) = Sk b n c := by
  rw [Sk_f]
  show rn b n 32 32 (rn b n 32 32 c) = rn b n 32 32 c
  exact rn_e (rn_x b 32 32 c)
theorem Rl_b (b : Int → Int) {n c : Int} (h : c ≤ n) : Sk b n c ≤ Rl b n c ∧ Rl b n c ≤ n := by
  rw [Sk_f, Rl_f]; exact rn_b b 97 122 (sk_b b h).2
theorem Rd_b (b : Int → Int) {n c : Int} (h : c ≤ n) : Sk b n c ≤ Rd b n c ∧ Rd b n c ≤ n := by
  rw [Sk_f, Rd_f]; exact rn_b b 48 57 (sk_b b h).2
theorem rW_b (b : Int → Int) (n c : Int) : -9223372036854775808 ≤ rW b n c ∧ rW b n c < 9223372036854775808 := by
  rw [rW_f]; exact wW_b b _ _
theorem RWd_b (b : Int → Int) (n c : Int) : RWd b n c = 0 ∨ RWd b n c = -2 := by
  rw [RWd_f]; unfold rWd; split <;> omega
/-- a word's code, by how many letters stand there -/
theorem RWd_i (h : c ≤ n) : RWd b n c = 0 ↔ (1 ≤ Rl b n c - Sk b n c ∧ Rl b n c - Sk b n c ≤ 8) := by
  rw [RWd_f, Rl_f, Sk_f]
  unfold rWd
  by_cases hk : kd b n c = 0
  · have q := kd_0 hk
    have g := te_g (b := b) h (by omega)
    rw [← q.2.2]
    by_cases z : te b n c - sk b n c ≤ 8
    · rw [if_pos ⟨hk, z⟩]; exact ⟨fun _ => ⟨by omega, z⟩, fun _ => rfl⟩
    · rw [if_neg (fun y => z y.2)]; exact ⟨fun y => by omega, fun y => absurd y.2 z⟩
  · rw [if_neg (fun y => hk y.1), kd_n0 h hk]
    exact ⟨fun y => by omega, fun y => by omega⟩
theorem RWd_t (h : c ≤ n) (hz : RWd b n c = 0) : Rl b n c = Te b n c ∧ rW b n c = Wo b n c ∧ Kd b n c = 0 := by
  rw [RWd_f] at hz
  have q := rWd_0 hz
  have k := kd_0 q.1
  have g := te_g (b := b) h (by omega)
  rw [Rl_f, Te_f, rW_f, Wo_f, Kd_f, ← k.2.2]
  refine ⟨rfl, ?_, q.1⟩
  unfold wo
  rw [show min (te b n c - sk b n c) 8 = te b n c - sk b n c by omega]
  exact wW_v _ (fun j j0 j1 => rn_in (b := b) (n := n) (i := sk b n c) j0 (by rw [← k.2.2]; omega)) (by omega)
theorem nvR_b (h : c ≤ n) : 0 ≤ nv b (sk b n c) (rn b n 48 57 (sk b n c) - sk b n c).toNat ∧ nv b (sk b n c) (rn b n 48 57 (sk b n c) - sk b n c).toNat ≤ 9999999 := by
  have q := rn_b b 48 57 (sk_b b h).2
  exact nv_b _ (fun j j0 j1 => rn_in (b := b) (n := n) (i := sk b n c) j0 (by omega))
theorem rN_b (h : c ≤ n) : 0 ≤ rN b n c ∧ rN b n c ≤ 999999 := by
  have q := nvR_b (b := b) h
  rw [rN_f]; omega
/-- a number's code, by what stands there -/
theorem RNum_c (h : c ≤ n) {lo hi : Int} (hh : hi ≤ 99999) : RNum b n c lo hi = if Rd b n c = Sk b n c then -2 else if lo ≤ rN b n c ∧ rN b n c ≤ hi then 0 else -3 := by
  rw [RNum_f, Rd_f, Sk_f, rN_f]
  unfold rNum
  by_cases hk : kd b n c = 1
  · have q := kd_1 hk
    have g := te_g (b := b) h (by omega)
    rw [if_pos hk, ← q.2.2, if_neg (show ¬ te b n c = sk b n c by omega)]
    show (if lo ≤ nv b (sk b n c) (te b n c - sk b n c).toNat ∧ nv b (sk b n c) (te b n c - sk b n c).toNat ≤ hi then (0 : Int) else -3) = _
    generalize nv b (sk b n c) (te b n c - sk b n c).toNat = v
    by_cases z : lo ≤ v ∧ v ≤ hi
    · rw [if_pos z, if_pos (by omega)]
    · rw [if_neg z]
      by_cases y : lo ≤ min v 999999 ∧ min v 999999 ≤ hi
      · exfalso
        by_cases w : v ≤ 999999
        · exact z ⟨by omega, by omega⟩
        · omega
      · rw [if_neg y]
  · rw [if_neg hk, if_pos (kd_n1 h hk)]
theorem RNum_t (h : c ≤ n) {lo hi : Int} (hh : hi ≤ 99999) (hz : RNum b n c lo hi = 0) : Rd b n c = Te b n c ∧ rN b n c = Nm b n c := by
  have q := RNum_0 hz
  rw [Kd_f, Nm_f] at q
  have k := kd_1 q.1
  rw [Rd_f, Te_f, rN_f, Nm_f, ← k.2.2]
  refine ⟨rfl, ?_⟩
  show min (nm b n c) 999999 = nm b n c
  omega
theorem REnd_i (h : c ≤ n) : REnd b n c = 0 ↔ (Sk b n c < n ∧ b (Sk b n c) = 59) := by
  rw [REnd_f, Sk_f]
  unfold rEnd kd
  by_cases h1 : n ≤ sk b n c
  · rw [if_pos h1, if_neg (fun y => by omega)]
    exact ⟨fun y => by omega, fun y => by omega⟩
  · rw [if_neg h1]
    by_cases h2 : b (sk b n c) = 59
    · have e : (if 97 ≤ b (sk b n c) ∧ b (sk b n c) ≤ 122 then (0 : Int) else if 48 ≤ b (sk b n c) ∧ b (sk b n c) ≤ 57 then 1 else 2) = 2 := by rw [if_neg (by omega), if_neg (by omega)]
      rw [e, if_pos ⟨rfl, h2⟩]
      exact ⟨fun _ => ⟨by omega, h2⟩, fun _ => rfl⟩
    · rw [if_neg (fun y => h2 y.2)]
      exact ⟨fun y => by omega, fun y => absurd y.2 h2⟩
theorem REnd_t (h : c ≤ n) (hz : REnd b n c = 0) : Te b n c = Sk b n c + 1 := by
  have q := (REnd_i h).mp hz
  rw [Sk_f] at q ⊢
  rw [Te_f]
  unfold te
  rw [if_neg (by omega), if_neg (by omega), if_neg (by omega)]
theorem RFol_v (b δ : Int → Int) (n c : Int) : RFol b n δ c = if RWd b n c = 0 then (if fnS δ (Wo b n c) 0 = -1 then -3 else 0) else -2 := by
  rw [RFol_f, RWd_f, Wo_f]; rfl
theorem RNew_v (b δ : Int → Int) (n c : Int) : RNew b n δ c = if RWd b n c = 0 then (if fnS δ (Wo b n c) 0 = -1 then 0 else -3) else -2 := by
  rw [RNew_f, RWd_f, Wo_f]; rfl
/-- a word's sign more, a number's -/
theorem wW_s {p i : Int} (h : p ≤ i) : wW b p (i + 1 - p).toNat = sg64 (wW b p (i - p).toNat * 32 + (b i - 96)) := by
  rw [show (i + 1 - p).toNat = (i - p).toNat + 1 by omega, wW, show p + (((i - p).toNat : Nat) : Int) = i by omega]
theorem nC_s {p i v : Int} (h : p ≤ i) (hv : v = min (nv b p (i - p).toNat) 999999) (hd : 48 ≤ b i ∧ b i ≤ 57) (h0 : 0 ≤ nv b p (i - p).toNat) : min (v * 10 + b i - 48) 999999 = min (nv b p (i + 1 - p).toNat) 999999 := by
  rw [show (i + 1 - p).toNat = (i - p).toNat + 1 by omega, nv, show p + (((i - p).toNat : Nat) : Int) = i by omega]
  split <;> omega
end RLS
theorem nv_up {b : Int → Int} {p i : Int} (h : p ≤ i) (hd : 48 ≤ b i) (h0 : 0 ≤ nv b p (i - p).toNat) : 0 ≤ nv b p (i + 1 - p).toNat := by
  rw [show (i + 1 - p).toNat = (i - p).toNat + 1 by omega, nv, show p + (((i - p).toNat : Nat) : Int) = i by omega]
  split <;> omega
theorem RNum_v (b : Int → Int) (n c lo hi : Int) : RNum b n c lo hi = if Kd b n c = 1 then (if lo ≤ Nm b n c ∧ Nm b n c ≤ hi then 0 else -3) else -2 := by
  rw [RNum_f, Kd_f, Nm_f]; rfl
theorem lc_b (b : Int → Int) {n c : Int} (h : 0 ≤ c ∧ c ≤ n) : ∀ k : Nat, 0 ≤ lc b n c k ∧ lc b n c k ≤ n
  | 0 => by
    have h1 := Te_b b h.2
    have h2 := Te_b b h1.2
    rw [lc]; omega
  | k + 1 => by
    have h0 := lc_b b h k
    have h1 := Te_b b h0.2
    have h2 := Te_b b h1.2
    rw [lc]; omega
theorem limS2 {φ : Int → Int} (h : In φ) {p s g k : Int} (hp : 0 ≤ p ∧ p ≤ 7) (hk : 0 ≤ k ∧ k ≤ 1) (hs : 0 ≤ s ∧ s ≤ 99999) (hg : 0 ≤ g ∧ g ≤ 99999) : In (zu (zu φ (5 + (2 * p + k)) s) (21 + (2 * p + k)) g) := by
  exact h.lims (by omega) hs hg
section ZALEN
variable {p : Program} {l : Launch} {e : Env} {R : Room} {s : State} {m : MethodId} {args : Array Value} {below : List Frame} {meth : Method} {c : Code} {H : Heap} {locs : List Loc} {cells slots : Nat} {Q : State → Prop} {cc : ByteArray} {pc : Nat} {ls : Array Slot} {rest : List Value} {G : GG}
theorem z_alenB (E : p.tables.exec = Jvm.exec ∧ c.code = cc) {q : Nat} {f : Int → Int} (hK : KK G s) (hA : aB G q 900 f H) (d : decode cc pc = .ok (.arraylength, 1))
    (k : W p l e R s m args below meth c H locs cells slots Q (F0 m (pc + 1) ls (.int (iI 900) :: rest))) : W p l e R s m args below meth c H locs cells slots Q (F0 m pc ls (.ref q :: rest)) := by
  have hP : va_P G.1 vwCl [(q, .inl (G.2 0, 900, .inl (fI f)))] H := fun k x hk => by
    have hz : k < 1 := (List.getElem?_eq_some_iff.mp hk).1
    rw [show k = 0 by omega] at hk
    cases hk
    exact hA
  exact va_alen E.1 E.2 hK.1 hP 0 0 rfl rfl (show Int32.ofNat 900 = iI 900 by decide) d k
end ZALEN
theorem wcS_0 : wcS 0 = 7930981 := by decide +kernel
theorem wcS_1 : wcS 1 = 12891444 := by decide +kernel
theorem wcS_2 : wcS 2 = 217452722 := by decide +kernel
theorem wcS_3 : wcS 3 = 20519 := by decide +kernel
theorem wcS_4 : wcS 4 = 206213 := by decide +kernel
/-- an equation that omega doesn't see -/
def HidE (a b : Int) : Prop := a = b
theorem HidE.e {a b : Int} (h : HidE a b) : b = a := Eq.symm h
theorem lx_n {b : Int → Int} {n c : Int} (h : ¬ lx b n c 0 = 0) : xLim b n c = lx b n c 0 ∧ pLim b n c = lp b n c 0 := by
  have e1 : lx b n c 1 = lx b n c 0 := if_neg h
  have e2 : lp b n c 1 = lp b n c 0 := if_neg h
  have h1 : ¬ lx b n c 1 = 0 := by rw [e1]; exact h
  exact ⟨(if_neg h1 : lx b n c 2 = lx b n c 1).trans e1, (if_neg h1 : lp b n c 2 = lp b n c 1).trans e2⟩
