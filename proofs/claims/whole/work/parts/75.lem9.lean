/-! the reader within the whole object -/
def rdo (o : Nat → Nat) : Nat → Nat
  | 0 => o 168
  | 1 => o 165
  | k + 2 => o (169 + k)
theorem rdo_2 (o : Nat → Nat) (k : Nat) : rdo o (2 + k) = o (169 + k) := by rw [Nat.add_comm]; rfl
section QRD
variable {G : GG} {o : Nat → Nat} {ν σ : Int → Int} {π : Nat → Int → Int} {δ τ ω : Int → Int} {H H1 : Heap}
theorem rdo_s (o : Nat → Nat) : (fun k => rdo o (2 + k)) = fun k => o (169 + k) := by funext k; exact rdo_2 o k
theorem rdo_q (o : Nat → Nat) {k : Nat} (hk : k < 20) : ∃ j, j < 187 ∧ (j = 168 ∨ j = 165 ∨ 169 ≤ j) ∧ rdo o k = o j := by
  match k, hk with
  | 0, _ => exact ⟨168, by decide, by omega, rfl⟩
  | 1, _ => exact ⟨165, by decide, by omega, rfl⟩
  | k + 2, hk => exact ⟨169 + k, by omega, by omega, rfl⟩
theorem QT.rd (h : QT G o ν σ π δ τ ω H) : RD G (rdo o) (fun j => ν (40 + j)) δ τ H := by
  refine ⟨h.rdr, h.txt.2.1, ?_, ?_⟩
  · rw [rdo_s]; exact h.dra
  · intro i j hi hj e
    have key : ∀ k, k < 20 → ∃ m, m < 187 ∧ rdo o k = o m ∧ (k = 0 ∧ m = 168 ∨ k = 1 ∧ m = 165 ∨ 2 ≤ k ∧ m = 167 + k) := by
      intro k hk
      match k, hk with
      | 0, _ => exact ⟨168, by decide, rfl, by omega⟩
      | 1, _ => exact ⟨165, by decide, rfl, by omega⟩
      | k + 2, hk => exact ⟨169 + k, by omega, rfl, by omega⟩
    obtain ⟨a, a1, a2, a3⟩ := key i hi
    obtain ⟨b, b1, b2, b3⟩ := key j hj
    have := h.ij a b a1 b1 (by rw [← a2, ← b2]; exact e)
    omega
theorem QT.upR {η δ2 : Int → Int} (h : QT G o ν σ π δ τ ω H) (hn : RD G (rdo o) η δ2 τ H1) (ho : ∀ q, q < H.size → ¬ Ax (rdo o) 20 q → H1[q]? = H[q]?) : ∃ ν2 : Int → Int, QT G o ν2 σ π δ2 τ ω H1 ∧ ν2 41 = η 1 ∧ ν2 42 = η 2 ∧ ∀ j, j < 41 → ν2 j = ν j := by
  have k : ∀ j, j < 187 → j < 168 → ¬ j = 165 → H1[o j]? = H[o j]? := by
    intro j j0 j1 j2
    refine ho _ (h.lt j j0) (fun ⟨i, hi, e⟩ => ?_)
    obtain ⟨m, m1, m2, m3⟩ := rdo_q o hi
    have := h.ij j m j0 m1 (e.trans m3)
    omega
  refine ⟨fun j => if 41 ≤ j then η (j - 40) else ν j, ?_, rfl, rfl, fun j hj => if_neg (by omega)⟩
  have e5 : H1[o 165]? = H[o 165]? := by
    have a : H1[o 165]? = some (vp_cell (G.2 0) (900, .inl (fI τ))) := hn.ar
    have b : H[o 165]? = some (vp_cell (G.2 0) (900, .inl (fI τ))) := h.txt.2.1
    rw [a, b]
  have hs := hn.dra
  rw [rdo_s] at hs
  refine ⟨h.1.kp (k 0 (by decide) (by decide) (by decide)), h.now.kp (fun j q => k _ (by omega) (by omega) (by omega)), h.past.kp (k 19 (by decide) (by decide) (by decide)), fun i hi => (h.old hi).kp (fun j q => k _ (by omega) (by omega) (by omega)), ?_, h.wri.kp (fun j q => k _ (by omega) (by omega) (by omega)), hn.ob, hs, h.ij⟩
  exact ⟨h.txt.1.kp (k 164 (by decide) (by decide) (by decide)), h.txt.2.1.kp e5, h.txt.2.2⟩
/-- the state now, by another row that says the same -/
theorem QT.cgN {σ2 : Int → Int} (h : QT G o ν σ π δ τ ω H) (hI : In σ) (he : ∀ j, 0 ≤ j → j < 357 → σ2 j = σ j) : QT G o ν σ2 π δ τ ω H :=
  ⟨h.1, h.now.cg hI.F.2 hI.M.2 hI.Gn.2 he, h.2.2⟩
end QRD
