/-! a whole text, from its beginning; the row behind a load -/
section LD0
variable {b : Int → Int} {n : Int} {φ : Int → Int} {c : Int} {m : Nat}
theorem pX_3 (h : 0 < m ∧ Kd b n c = 3) : pX b n m φ c = 0 := by
  obtain ⟨k, rfl⟩ : ∃ k, m = k + 1 := ⟨m - 1, by omega⟩
  rw [pX, if_pos h.2]
theorem pP_3 (h : 0 < m ∧ Kd b n c = 3) : pP b n m φ c = -1 := by
  obtain ⟨k, rfl⟩ : ∃ k, m = k + 1 := ⟨m - 1, by omega⟩
  rw [pP, if_pos h.2]
theorem pF_3 (h : 0 < m ∧ Kd b n c = 3) : pF b n m φ c = φ := by
  obtain ⟨k, rfl⟩ : ∃ k, m = k + 1 := ⟨m - 1, by omega⟩
  rw [pF, if_pos h.2]
theorem pX_s (hk : ¬ Kd b n c = 3) (hs : stX b n φ c = 0) (h : 0 < m) : pX b n m φ c = pX b n (m - 1) (fSt b n φ c) (stC b n c) := by
  obtain ⟨k, rfl⟩ : ∃ k, m = k + 1 := ⟨m - 1, by omega⟩
  rw [pX, if_neg hk, if_pos hs, Nat.add_sub_cancel]
theorem pP_s (hk : ¬ Kd b n c = 3) (hs : stX b n φ c = 0) (h : 0 < m) : pP b n m φ c = pP b n (m - 1) (fSt b n φ c) (stC b n c) := by
  obtain ⟨k, rfl⟩ : ∃ k, m = k + 1 := ⟨m - 1, by omega⟩
  rw [pP, if_neg hk, if_pos hs, Nat.add_sub_cancel]
theorem pF_s (hk : ¬ Kd b n c = 3) (hs : stX b n φ c = 0) (h : 0 < m) : pF b n m φ c = pF b n (m - 1) (fSt b n φ c) (stC b n c) := by
  obtain ⟨k, rfl⟩ : ∃ k, m = k + 1 := ⟨m - 1, by omega⟩
  rw [pF, if_neg hk, if_pos hs, Nat.add_sub_cancel]
theorem pX_f (hk : ¬ Kd b n c = 3) (hs : ¬ stX b n φ c = 0) (h : 0 < m) : pX b n m φ c = stX b n φ c := by
  obtain ⟨k, rfl⟩ : ∃ k, m = k + 1 := ⟨m - 1, by omega⟩
  rw [pX, if_neg hk, if_neg hs]
theorem pP_f (hk : ¬ Kd b n c = 3) (hs : ¬ stX b n φ c = 0) (h : 0 < m) : pP b n m φ c = stP b n φ c := by
  obtain ⟨k, rfl⟩ : ∃ k, m = k + 1 := ⟨m - 1, by omega⟩
  rw [pP, if_neg hk, if_neg hs]
theorem pF_f (hk : ¬ Kd b n c = 3) (hs : ¬ stX b n φ c = 0) (h : 0 < m) : pF b n m φ c = φ := by
  obtain ⟨k, rfl⟩ : ∃ k, m = k + 1 := ⟨m - 1, by omega⟩
  rw [pF, if_neg hk, if_neg hs]
/-- the code, the place and the row of the first n signs of a buffer -/
def ldX (b : Int → Int) (n : Int) : Int := pX b n 901 iniT 0
def ldP (b : Int → Int) (n : Int) : Int := pP b n 901 iniT 0
def ldF (b : Int → Int) (n : Int) : Int → Int := pF b n 901 iniT 0
theorem ldF_I (b : Int → Int) {n : Int} (h : 0 ≤ n) : In (ldF b n) := pF_I 901 iniT_I h
def kxLoad (m n : Int) : Int := if 0 ≤ n ∧ n ≤ m then 0 else 1
/-- the row behind a load -/
def nxLoad (σ F : Int → Int) : Int → Int := scA (reA (beA σ F 0 357) 16) 16
end LD0
theorem W8.f1 {G : GG} {o : Nat → Nat} {Vs : List Value} {σ φ κ β ω f : Int → Int} {H : Heap} (h : W8 G o Vs σ φ κ β ω H) (e : ∀ j : Int, 0 ≤ j → j < 357 → f j = φ j) : W8 G o Vs σ f κ β ω H :=
  ⟨h.1, h.2.1, h.2.2.1.cg (fun j j0 j1 => e j j0 (by omega)), h.2.2.2⟩
theorem bgF_in {φ : Int → Int} : ∀ j : Int, 0 ≤ j → j < 357 → iniT j = bgF φ j := by
  intro j j0 j1
  unfold iniT
  rw [bgF_v, bgF_v]
  (repeat' split) <;> first | rfl | omega
theorem pX_b (b : Int → Int) (n : Int) : ∀ (k : Nat) (φ : Int → Int) (c : Int), -4 ≤ pX b n k φ c ∧ pX b n k φ c ≤ 0
  | 0, _, _ => by rw [pX]; omega
  | k + 1, φ, c => by
    have h := stX_b b φ n c
    rw [pX]
    split
    · omega
    · split
      · exact pX_b b n k _ _
      · exact h
theorem ldX_b (b : Int → Int) (n : Int) : -4 ≤ ldX b n ∧ ldX b n ≤ 0 := pX_b b n _ _ _
theorem nxL_3 (σ : Int → Int) {F : Int → Int} (_ : In F) : scA (reA (beA σ F 0 357) 16) 16 3 = F 3 := by
  rw [scA_n _ _ (by omega), reA_n _ _ (by omega), beA_y σ F 0 (by decide) (by decide)]; rfl
