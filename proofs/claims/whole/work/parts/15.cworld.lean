/-! the cells of the class: an object and its rows -/
def ACr (G : GG) (o : Nat → Nat) (Vs : List Value) (am so ha cl : Int → Int) (H : Heap) : Prop := oB G 0 (o 0) Vs H ∧ aI G (o 1) 16 am H ∧ aI G (o 2) 16 so H ∧ aI G (o 3) 16 ha H ∧ aI G (o 4) 16 cl H ∧ Ij o 5
section SAC
variable {G : GG} {o : Nat → Nat} {Vs V2 : List Value} {am so ha cl f : Int → Int} {H H1 : Heap}
theorem ACr.kp (h : ACr G o Vs am so ha cl H) (hk : ∀ k, k < 5 → H1[o k]? = H[o k]?) : ACr G o Vs am so ha cl H1 := ⟨h.1.kp (hk 0 (by decide)), h.2.1.kp (hk 1 (by decide)), h.2.2.1.kp (hk 2 (by decide)), h.2.2.2.1.kp (hk 3 (by decide)), h.2.2.2.2.1.kp (hk 4 (by decide)), h.2.2.2.2.2⟩
theorem ACr.lt (h : ACr G o Vs am so ha cl H) : ∀ k, k < 5 → o k < H.size := by
  intro k hk
  have : k = 0 ∨ k = 1 ∨ k = 2 ∨ k = 3 ∨ k = 4 := by omega
  rcases this with rfl | rfl | rfl | rfl | rfl
  · exact h.1.lt
  · exact h.2.1.lt
  · exact h.2.2.1.lt
  · exact h.2.2.2.1.lt
  · exact h.2.2.2.2.1.lt
theorem ACr.ij (h : ACr G o Vs am so ha cl H) : Ij o 5 := h.2.2.2.2.2
theorem ACr.nx (h : ACr G o Vs am so ha cl H) {k : Nat} (hk : k < 5) (ho : ∀ a, a < H.size → ¬ a = o k → H1[a]? = H[a]?) : ∀ j, j < 5 → j ≠ k → H1[o j]? = H[o j]? := fun j hj hn => ho _ (h.lt j hj) (h.ij.ne j k hj hk hn)
theorem ACr.p (h : ACr G o Vs am so ha cl H) (hn : oB G 0 (o 0) V2 H1) (ho : ∀ a, a < H.size → ¬ a = o 0 → H1[a]? = H[a]?) : ACr G o V2 am so ha cl H1 := by
  have q := h.nx (k := 0) (by decide) ho
  exact ⟨hn, h.2.1.kp (q 1 (by decide) (by decide)), h.2.2.1.kp (q 2 (by decide) (by decide)), h.2.2.2.1.kp (q 3 (by decide) (by decide)), h.2.2.2.2.1.kp (q 4 (by decide) (by decide)), h.2.2.2.2.2⟩
theorem ACr.a1 (h : ACr G o Vs am so ha cl H) (hn : aI G (o 1) 16 f H1) (ho : ∀ a, a < H.size → ¬ a = o 1 → H1[a]? = H[a]?) : ACr G o Vs f so ha cl H1 := by
  have q := h.nx (k := 1) (by decide) ho
  exact ⟨h.1.kp (q 0 (by decide) (by decide)), hn, h.2.2.1.kp (q 2 (by decide) (by decide)), h.2.2.2.1.kp (q 3 (by decide) (by decide)), h.2.2.2.2.1.kp (q 4 (by decide) (by decide)), h.2.2.2.2.2⟩
theorem ACr.a2 (h : ACr G o Vs am so ha cl H) (hn : aI G (o 2) 16 f H1) (ho : ∀ a, a < H.size → ¬ a = o 2 → H1[a]? = H[a]?) : ACr G o Vs am f ha cl H1 := by
  have q := h.nx (k := 2) (by decide) ho
  exact ⟨h.1.kp (q 0 (by decide) (by decide)), h.2.1.kp (q 1 (by decide) (by decide)), hn, h.2.2.2.1.kp (q 3 (by decide) (by decide)), h.2.2.2.2.1.kp (q 4 (by decide) (by decide)), h.2.2.2.2.2⟩
theorem ACr.a3 (h : ACr G o Vs am so ha cl H) (hn : aI G (o 3) 16 f H1) (ho : ∀ a, a < H.size → ¬ a = o 3 → H1[a]? = H[a]?) : ACr G o Vs am so f cl H1 := by
  have q := h.nx (k := 3) (by decide) ho
  exact ⟨h.1.kp (q 0 (by decide) (by decide)), h.2.1.kp (q 1 (by decide) (by decide)), h.2.2.1.kp (q 2 (by decide) (by decide)), hn, h.2.2.2.2.1.kp (q 4 (by decide) (by decide)), h.2.2.2.2.2⟩
theorem ACr.a4 (h : ACr G o Vs am so ha cl H) (hn : aI G (o 4) 16 f H1) (ho : ∀ a, a < H.size → ¬ a = o 4 → H1[a]? = H[a]?) : ACr G o Vs am so ha f H1 := by
  have q := h.nx (k := 4) (by decide) ho
  exact ⟨h.1.kp (q 0 (by decide) (by decide)), h.2.1.kp (q 1 (by decide) (by decide)), h.2.2.1.kp (q 2 (by decide) (by decide)), h.2.2.2.1.kp (q 3 (by decide) (by decide)), hn, h.2.2.2.2.2⟩
end SAC
def ACs (σ : Int → Int) (am so ha cl : Int → Int) : Prop := ∀ j : Int, 0 ≤ j → j < 16 → am j = σ (37 + j) ∧ so j = σ (5 + j) ∧ ha j = σ (21 + j) ∧ cl j = σ (53 + j)
def AC (G : GG) (o : Nat → Nat) (σ : Int → Int) (H : Heap) : Prop := ∃ am so ha cl : Int → Int, ACr G o [.ref (o 1), .ref (o 2), .ref (o 3), .ref (o 4)] am so ha cl H ∧ ACs σ am so ha cl
theorem AC.ob {G : GG} {o : Nat → Nat} {σ : Int → Int} {H : Heap} (h : AC G o σ H) : oB G 0 (o 0) [.ref (o 1), .ref (o 2), .ref (o 3), .ref (o 4)] H := by
  obtain ⟨am, so, ha, cl, hM, hs⟩ := h
  exact hM.1
theorem AC.kp {G : GG} {o : Nat → Nat} {σ : Int → Int} {H H1 : Heap} (h : AC G o σ H) (hk : ∀ k, k < 5 → H1[o k]? = H[o k]?) : AC G o σ H1 := by
  obtain ⟨am, so, ha, cl, hM, hs⟩ := h
  exact ⟨am, so, ha, cl, hM.kp hk, hs⟩
theorem AC.lt {G : GG} {o : Nat → Nat} {σ : Int → Int} {H : Heap} (h : AC G o σ H) : ∀ k, k < 5 → o k < H.size := by
  obtain ⟨am, so, ha, cl, hM, hs⟩ := h
  exact hM.lt
theorem AC.ij {G : GG} {o : Nat → Nat} {σ : Int → Int} {H : Heap} (h : AC G o σ H) : Ij o 5 := by
  obtain ⟨am, so, ha, cl, hM, hs⟩ := h
  exact hM.ij
theorem AC.cg {G : GG} {o : Nat → Nat} {σ τ : Int → Int} {H : Heap} (h : AC G o σ H) (he : ∀ j : Int, 0 ≤ j → j < 16 → τ (37 + j) = σ (37 + j) ∧ τ (5 + j) = σ (5 + j) ∧ τ (21 + j) = σ (21 + j) ∧ τ (53 + j) = σ (53 + j)) : AC G o τ H := by
  obtain ⟨am, so, ha, cl, hM, hs⟩ := h
  refine ⟨am, so, ha, cl, hM, fun j j0 j1 => ?_⟩
  have q := hs j j0 j1
  have r := he j j0 j1
  exact ⟨q.1.trans r.1.symm, q.2.1.trans r.2.1.symm, q.2.2.1.trans r.2.2.1.symm, q.2.2.2.trans r.2.2.2.symm⟩
def FIr (G : GG) (o : Nat → Nat) (Vs : List Value) (pl sz : Int → Int) (H : Heap) : Prop := oB G 2 (o 0) Vs H ∧ aI G (o 1) 60 pl H ∧ aI G (o 2) 60 sz H ∧ Ij o 3
section SFI
variable {G : GG} {o : Nat → Nat} {Vs V2 : List Value} {pl sz f : Int → Int} {H H1 : Heap}
theorem FIr.kp (h : FIr G o Vs pl sz H) (hk : ∀ k, k < 3 → H1[o k]? = H[o k]?) : FIr G o Vs pl sz H1 := ⟨h.1.kp (hk 0 (by decide)), h.2.1.kp (hk 1 (by decide)), h.2.2.1.kp (hk 2 (by decide)), h.2.2.2⟩
theorem FIr.lt (h : FIr G o Vs pl sz H) : ∀ k, k < 3 → o k < H.size := by
  intro k hk
  have : k = 0 ∨ k = 1 ∨ k = 2 := by omega
  rcases this with rfl | rfl | rfl
  · exact h.1.lt
  · exact h.2.1.lt
  · exact h.2.2.1.lt
theorem FIr.ij (h : FIr G o Vs pl sz H) : Ij o 3 := h.2.2.2
theorem FIr.nx (h : FIr G o Vs pl sz H) {k : Nat} (hk : k < 3) (ho : ∀ a, a < H.size → ¬ a = o k → H1[a]? = H[a]?) : ∀ j, j < 3 → j ≠ k → H1[o j]? = H[o j]? := fun j hj hn => ho _ (h.lt j hj) (h.ij.ne j k hj hk hn)
theorem FIr.p (h : FIr G o Vs pl sz H) (hn : oB G 2 (o 0) V2 H1) (ho : ∀ a, a < H.size → ¬ a = o 0 → H1[a]? = H[a]?) : FIr G o V2 pl sz H1 := by
  have q := h.nx (k := 0) (by decide) ho
  exact ⟨hn, h.2.1.kp (q 1 (by decide) (by decide)), h.2.2.1.kp (q 2 (by decide) (by decide)), h.2.2.2⟩
theorem FIr.a1 (h : FIr G o Vs pl sz H) (hn : aI G (o 1) 60 f H1) (ho : ∀ a, a < H.size → ¬ a = o 1 → H1[a]? = H[a]?) : FIr G o Vs f sz H1 := by
  have q := h.nx (k := 1) (by decide) ho
  exact ⟨h.1.kp (q 0 (by decide) (by decide)), hn, h.2.2.1.kp (q 2 (by decide) (by decide)), h.2.2.2⟩
theorem FIr.a2 (h : FIr G o Vs pl sz H) (hn : aI G (o 2) 60 f H1) (ho : ∀ a, a < H.size → ¬ a = o 2 → H1[a]? = H[a]?) : FIr G o Vs pl f H1 := by
  have q := h.nx (k := 2) (by decide) ho
  exact ⟨h.1.kp (q 0 (by decide) (by decide)), h.2.1.kp (q 1 (by decide) (by decide)), hn, h.2.2.2⟩
end SFI
def FIs (σ : Int → Int) (pl sz : Int → Int) : Prop := ∀ j : Int, 0 ≤ j → j < σ 3 → pl j = σ (189 + j) ∧ sz j = σ (249 + j)
def FI (G : GG) (o : Nat → Nat) (σ : Int → Int) (H : Heap) : Prop := ∃ pl sz : Int → Int, FIr G o [.ref (o 1), .ref (o 2), .int (iI (σ 3))] pl sz H ∧ FIs σ pl sz
theorem FI.ob {G : GG} {o : Nat → Nat} {σ : Int → Int} {H : Heap} (h : FI G o σ H) : oB G 2 (o 0) [.ref (o 1), .ref (o 2), .int (iI (σ 3))] H := by
  obtain ⟨pl, sz, hM, hs⟩ := h
  exact hM.1
theorem FI.kp {G : GG} {o : Nat → Nat} {σ : Int → Int} {H H1 : Heap} (h : FI G o σ H) (hk : ∀ k, k < 3 → H1[o k]? = H[o k]?) : FI G o σ H1 := by
  obtain ⟨pl, sz, hM, hs⟩ := h
  exact ⟨pl, sz, hM.kp hk, hs⟩
theorem FI.lt {G : GG} {o : Nat → Nat} {σ : Int → Int} {H : Heap} (h : FI G o σ H) : ∀ k, k < 3 → o k < H.size := by
  obtain ⟨pl, sz, hM, hs⟩ := h
  exact hM.lt
theorem FI.ij {G : GG} {o : Nat → Nat} {σ : Int → Int} {H : Heap} (h : FI G o σ H) : Ij o 3 := by
  obtain ⟨pl, sz, hM, hs⟩ := h
  exact hM.ij
theorem FI.cg {G : GG} {o : Nat → Nat} {σ τ : Int → Int} {H : Heap} (h : FI G o σ H) (h0 : τ 3 = σ 3) (he : ∀ j : Int, 0 ≤ j → j < σ 3 → τ (189 + j) = σ (189 + j) ∧ τ (249 + j) = σ (249 + j)) : FI G o τ H := by
  obtain ⟨pl, sz, hM, hs⟩ := h
  refine ⟨pl, sz, by rw [h0]; exact hM, fun j j0 j1 => ?_⟩
  rw [h0] at j1
  have q := hs j j0 j1
  have r := he j j0 j1
  exact ⟨q.1.trans r.1.symm, q.2.trans r.2.symm⟩
def FOr (G : GG) (o : Nat → Nat) (Vs : List Value) (pa na ta : Int → Int) (H : Heap) : Prop := oB G 3 (o 0) Vs H ∧ aI G (o 1) 40 pa H ∧ aL G (o 2) 40 na H ∧ aI G (o 3) 40 ta H ∧ Ij o 4
section SFO
variable {G : GG} {o : Nat → Nat} {Vs V2 : List Value} {pa na ta f : Int → Int} {H H1 : Heap}
theorem FOr.kp (h : FOr G o Vs pa na ta H) (hk : ∀ k, k < 4 → H1[o k]? = H[o k]?) : FOr G o Vs pa na ta H1 := ⟨h.1.kp (hk 0 (by decide)), h.2.1.kp (hk 1 (by decide)), h.2.2.1.kp (hk 2 (by decide)), h.2.2.2.1.kp (hk 3 (by decide)), h.2.2.2.2⟩
theorem FOr.lt (h : FOr G o Vs pa na ta H) : ∀ k, k < 4 → o k < H.size := by
  intro k hk
  have : k = 0 ∨ k = 1 ∨ k = 2 ∨ k = 3 := by omega
  rcases this with rfl | rfl | rfl | rfl
  · exact h.1.lt
  · exact h.2.1.lt
  · exact h.2.2.1.lt
  · exact h.2.2.2.1.lt
theorem FOr.ij (h : FOr G o Vs pa na ta H) : Ij o 4 := h.2.2.2.2
theorem FOr.nx (h : FOr G o Vs pa na ta H) {k : Nat} (hk : k < 4) (ho : ∀ a, a < H.size → ¬ a = o k → H1[a]? = H[a]?) : ∀ j, j < 4 → j ≠ k → H1[o j]? = H[o j]? := fun j hj hn => ho _ (h.lt j hj) (h.ij.ne j k hj hk hn)
theorem FOr.p (h : FOr G o Vs pa na ta H) (hn : oB G 3 (o 0) V2 H1) (ho : ∀ a, a < H.size → ¬ a = o 0 → H1[a]? = H[a]?) : FOr G o V2 pa na ta H1 := by
  have q := h.nx (k := 0) (by decide) ho
  exact ⟨hn, h.2.1.kp (q 1 (by decide) (by decide)), h.2.2.1.kp (q 2 (by decide) (by decide)), h.2.2.2.1.kp (q 3 (by decide) (by decide)), h.2.2.2.2⟩
theorem FOr.a1 (h : FOr G o Vs pa na ta H) (hn : aI G (o 1) 40 f H1) (ho : ∀ a, a < H.size → ¬ a = o 1 → H1[a]? = H[a]?) : FOr G o Vs f na ta H1 := by
  have q := h.nx (k := 1) (by decide) ho
  exact ⟨h.1.kp (q 0 (by decide) (by decide)), hn, h.2.2.1.kp (q 2 (by decide) (by decide)), h.2.2.2.1.kp (q 3 (by decide) (by decide)), h.2.2.2.2⟩
theorem FOr.a2 (h : FOr G o Vs pa na ta H) (hn : aL G (o 2) 40 f H1) (ho : ∀ a, a < H.size → ¬ a = o 2 → H1[a]? = H[a]?) : FOr G o Vs pa f ta H1 := by
  have q := h.nx (k := 2) (by decide) ho
  exact ⟨h.1.kp (q 0 (by decide) (by decide)), h.2.1.kp (q 1 (by decide) (by decide)), hn, h.2.2.2.1.kp (q 3 (by decide) (by decide)), h.2.2.2.2⟩
theorem FOr.a3 (h : FOr G o Vs pa na ta H) (hn : aI G (o 3) 40 f H1) (ho : ∀ a, a < H.size → ¬ a = o 3 → H1[a]? = H[a]?) : FOr G o Vs pa na f H1 := by
  have q := h.nx (k := 3) (by decide) ho
  exact ⟨h.1.kp (q 0 (by decide) (by decide)), h.2.1.kp (q 1 (by decide) (by decide)), h.2.2.1.kp (q 2 (by decide) (by decide)), hn, h.2.2.2.2⟩
end SFO
def FOs (σ : Int → Int) (pa na ta : Int → Int) : Prop := ∀ j : Int, 0 ≤ j → j < σ 2 → pa j = σ (69 + j) ∧ na j = σ (149 + j) ∧ ta j = σ (109 + j)
def FO (G : GG) (o : Nat → Nat) (σ : Int → Int) (H : Heap) : Prop := ∃ pa na ta : Int → Int, FOr G o [.ref (o 1), .ref (o 2), .ref (o 3), .int (iI (σ 2))] pa na ta H ∧ FOs σ pa na ta
theorem FO.ob {G : GG} {o : Nat → Nat} {σ : Int → Int} {H : Heap} (h : FO G o σ H) : oB G 3 (o 0) [.ref (o 1), .ref (o 2), .ref (o 3), .int (iI (σ 2))] H := by
  obtain ⟨pa, na, ta, hM, hs⟩ := h
  exact hM.1
theorem FO.kp {G : GG} {o : Nat → Nat} {σ : Int → Int} {H H1 : Heap} (h : FO G o σ H) (hk : ∀ k, k < 4 → H1[o k]? = H[o k]?) : FO G o σ H1 := by
  obtain ⟨pa, na, ta, hM, hs⟩ := h
  exact ⟨pa, na, ta, hM.kp hk, hs⟩
theorem FO.lt {G : GG} {o : Nat → Nat} {σ : Int → Int} {H : Heap} (h : FO G o σ H) : ∀ k, k < 4 → o k < H.size := by
  obtain ⟨pa, na, ta, hM, hs⟩ := h
  exact hM.lt
theorem FO.ij {G : GG} {o : Nat → Nat} {σ : Int → Int} {H : Heap} (h : FO G o σ H) : Ij o 4 := by
  obtain ⟨pa, na, ta, hM, hs⟩ := h
  exact hM.ij
theorem FO.cg {G : GG} {o : Nat → Nat} {σ τ : Int → Int} {H : Heap} (h : FO G o σ H) (h0 : τ 2 = σ 2) (he : ∀ j : Int, 0 ≤ j → j < σ 2 → τ (69 + j) = σ (69 + j) ∧ τ (149 + j) = σ (149 + j) ∧ τ (109 + j) = σ (109 + j)) : FO G o τ H := by
  obtain ⟨pa, na, ta, hM, hs⟩ := h
  refine ⟨pa, na, ta, by rw [h0]; exact hM, fun j j0 j1 => ?_⟩
  rw [h0] at j1
  have q := hs j j0 j1
  have r := he j j0 j1
  exact ⟨q.1.trans r.1.symm, q.2.1.trans r.2.1.symm, q.2.2.trans r.2.2.symm⟩
def GIr (G : GG) (o : Nat → Nat) (Vs : List Value) (gv ge gb gd : Int → Int) (H : Heap) : Prop := oB G 4 (o 0) Vs H ∧ aI G (o 1) 12 gv H ∧ aI G (o 2) 12 ge H ∧ aI G (o 3) 12 gb H ∧ aI G (o 4) 12 gd H ∧ Ij o 5
section SGI
variable {G : GG} {o : Nat → Nat} {Vs V2 : List Value} {gv ge gb gd f : Int → Int} {H H1 : Heap}
theorem GIr.kp (h : GIr G o Vs gv ge gb gd H) (hk : ∀ k, k < 5 → H1[o k]? = H[o k]?) : GIr G o Vs gv ge gb gd H1 := ⟨h.1.kp (hk 0 (by decide)), h.2.1.kp (hk 1 (by decide)), h.2.2.1.kp (hk 2 (by decide)), h.2.2.2.1.kp (hk 3 (by decide)), h.2.2.2.2.1.kp (hk 4 (by decide)), h.2.2.2.2.2⟩
theorem GIr.lt (h : GIr G o Vs gv ge gb gd H) : ∀ k, k < 5 → o k < H.size := by
  intro k hk
  have : k = 0 ∨ k = 1 ∨ k = 2 ∨ k = 3 ∨ k = 4 := by omega
  rcases this with rfl | rfl | rfl | rfl | rfl
  · exact h.1.lt
  · exact h.2.1.lt
  · exact h.2.2.1.lt
  · exact h.2.2.2.1.lt
  · exact h.2.2.2.2.1.lt
theorem GIr.ij (h : GIr G o Vs gv ge gb gd H) : Ij o 5 := h.2.2.2.2.2
theorem GIr.nx (h : GIr G o Vs gv ge gb gd H) {k : Nat} (hk : k < 5) (ho : ∀ a, a < H.size → ¬ a = o k → H1[a]? = H[a]?) : ∀ j, j < 5 → j ≠ k → H1[o j]? = H[o j]? := fun j hj hn => ho _ (h.lt j hj) (h.ij.ne j k hj hk hn)
theorem GIr.p (h : GIr G o Vs gv ge gb gd H) (hn : oB G 4 (o 0) V2 H1) (ho : ∀ a, a < H.size → ¬ a = o 0 → H1[a]? = H[a]?) : GIr G o V2 gv ge gb gd H1 := by
  have q := h.nx (k := 0) (by decide) ho
  exact ⟨hn, h.2.1.kp (q 1 (by decide) (by decide)), h.2.2.1.kp (q 2 (by decide) (by decide)), h.2.2.2.1.kp (q 3 (by decide) (by decide)), h.2.2.2.2.1.kp (q 4 (by decide) (by decide)), h.2.2.2.2.2⟩
theorem GIr.a1 (h : GIr G o Vs gv ge gb gd H) (hn : aI G (o 1) 12 f H1) (ho : ∀ a, a < H.size → ¬ a = o 1 → H1[a]? = H[a]?) : GIr G o Vs f ge gb gd H1 := by
  have q := h.nx (k := 1) (by decide) ho
  exact ⟨h.1.kp (q 0 (by decide) (by decide)), hn, h.2.2.1.kp (q 2 (by decide) (by decide)), h.2.2.2.1.kp (q 3 (by decide) (by decide)), h.2.2.2.2.1.kp (q 4 (by decide) (by decide)), h.2.2.2.2.2⟩
theorem GIr.a2 (h : GIr G o Vs gv ge gb gd H) (hn : aI G (o 2) 12 f H1) (ho : ∀ a, a < H.size → ¬ a = o 2 → H1[a]? = H[a]?) : GIr G o Vs gv f gb gd H1 := by
  have q := h.nx (k := 2) (by decide) ho
  exact ⟨h.1.kp (q 0 (by decide) (by decide)), h.2.1.kp (q 1 (by decide) (by decide)), hn, h.2.2.2.1.kp (q 3 (by decide) (by decide)), h.2.2.2.2.1.kp (q 4 (by decide) (by decide)), h.2.2.2.2.2⟩
theorem GIr.a3 (h : GIr G o Vs gv ge gb gd H) (hn : aI G (o 3) 12 f H1) (ho : ∀ a, a < H.size → ¬ a = o 3 → H1[a]? = H[a]?) : GIr G o Vs gv ge f gd H1 := by
  have q := h.nx (k := 3) (by decide) ho
  exact ⟨h.1.kp (q 0 (by decide) (by decide)), h.2.1.kp (q 1 (by decide) (by decide)), h.2.2.1.kp (q 2 (by decide) (by decide)), hn, h.2.2.2.2.1.kp (q 4 (by decide) (by decide)), h.2.2.2.2.2⟩
theorem GIr.a4 (h : GIr G o Vs gv ge gb gd H) (hn : aI G (o 4) 12 f H1) (ho : ∀ a, a < H.size → ¬ a = o 4 → H1[a]? = H[a]?) : GIr G o Vs gv ge gb f H1 := by
  have q := h.nx (k := 4) (by decide) ho
  exact ⟨h.1.kp (q 0 (by decide) (by decide)), h.2.1.kp (q 1 (by decide) (by decide)), h.2.2.1.kp (q 2 (by decide) (by decide)), h.2.2.2.1.kp (q 3 (by decide) (by decide)), hn, h.2.2.2.2.2⟩
end SGI
def GIs (σ : Int → Int) (gv ge gb gd : Int → Int) : Prop := ∀ j : Int, 0 ≤ j → j < σ 4 → gv j = σ (309 + 4 * j) ∧ ge j = σ (309 + 4 * j + 1) ∧ gb j = σ (309 + 4 * j + 2) ∧ gd j = σ (309 + 4 * j + 3)
def GI (G : GG) (o : Nat → Nat) (σ : Int → Int) (H : Heap) : Prop := ∃ gv ge gb gd : Int → Int, GIr G o [.ref (o 1), .ref (o 2), .ref (o 3), .ref (o 4), .int (iI (σ 4))] gv ge gb gd H ∧ GIs σ gv ge gb gd
theorem GI.ob {G : GG} {o : Nat → Nat} {σ : Int → Int} {H : Heap} (h : GI G o σ H) : oB G 4 (o 0) [.ref (o 1), .ref (o 2), .ref (o 3), .ref (o 4), .int (iI (σ 4))] H := by
  obtain ⟨gv, ge, gb, gd, hM, hs⟩ := h
  exact hM.1
theorem GI.kp {G : GG} {o : Nat → Nat} {σ : Int → Int} {H H1 : Heap} (h : GI G o σ H) (hk : ∀ k, k < 5 → H1[o k]? = H[o k]?) : GI G o σ H1 := by
  obtain ⟨gv, ge, gb, gd, hM, hs⟩ := h
  exact ⟨gv, ge, gb, gd, hM.kp hk, hs⟩
theorem GI.lt {G : GG} {o : Nat → Nat} {σ : Int → Int} {H : Heap} (h : GI G o σ H) : ∀ k, k < 5 → o k < H.size := by
  obtain ⟨gv, ge, gb, gd, hM, hs⟩ := h
  exact hM.lt
theorem GI.ij {G : GG} {o : Nat → Nat} {σ : Int → Int} {H : Heap} (h : GI G o σ H) : Ij o 5 := by
  obtain ⟨gv, ge, gb, gd, hM, hs⟩ := h
  exact hM.ij
theorem GI.cg {G : GG} {o : Nat → Nat} {σ τ : Int → Int} {H : Heap} (h : GI G o σ H) (h0 : τ 4 = σ 4) (he : ∀ j : Int, 0 ≤ j → j < σ 4 → τ (309 + 4 * j) = σ (309 + 4 * j) ∧ τ (309 + 4 * j + 1) = σ (309 + 4 * j + 1) ∧ τ (309 + 4 * j + 2) = σ (309 + 4 * j + 2) ∧ τ (309 + 4 * j + 3) = σ (309 + 4 * j + 3)) : GI G o τ H := by
  obtain ⟨gv, ge, gb, gd, hM, hs⟩ := h
  refine ⟨gv, ge, gb, gd, by rw [h0]; exact hM, fun j j0 j1 => ?_⟩
  rw [h0] at j1
  have q := hs j j0 j1
  have r := he j j0 j1
  exact ⟨q.1.trans r.1.symm, q.2.1.trans r.2.1.symm, q.2.2.1.trans r.2.2.1.symm, q.2.2.2.trans r.2.2.2.symm⟩
def BYr (G : GG) (o : Nat → Nat) (Vs : List Value) (by_ : Int → Int) (H : Heap) : Prop := oB G 1 (o 0) Vs H ∧ aB G (o 1) 900 by_ H ∧ Ij o 2
section SBY
variable {G : GG} {o : Nat → Nat} {Vs V2 : List Value} {by_ f : Int → Int} {H H1 : Heap}
theorem BYr.kp (h : BYr G o Vs by_ H) (hk : ∀ k, k < 2 → H1[o k]? = H[o k]?) : BYr G o Vs by_ H1 := ⟨h.1.kp (hk 0 (by decide)), h.2.1.kp (hk 1 (by decide)), h.2.2⟩
theorem BYr.lt (h : BYr G o Vs by_ H) : ∀ k, k < 2 → o k < H.size := by
  intro k hk
  have : k = 0 ∨ k = 1 := by omega
  rcases this with rfl | rfl
  · exact h.1.lt
  · exact h.2.1.lt
theorem BYr.ij (h : BYr G o Vs by_ H) : Ij o 2 := h.2.2
theorem BYr.nx (h : BYr G o Vs by_ H) {k : Nat} (hk : k < 2) (ho : ∀ a, a < H.size → ¬ a = o k → H1[a]? = H[a]?) : ∀ j, j < 2 → j ≠ k → H1[o j]? = H[o j]? := fun j hj hn => ho _ (h.lt j hj) (h.ij.ne j k hj hk hn)
theorem BYr.p (h : BYr G o Vs by_ H) (hn : oB G 1 (o 0) V2 H1) (ho : ∀ a, a < H.size → ¬ a = o 0 → H1[a]? = H[a]?) : BYr G o V2 by_ H1 := by
  have q := h.nx (k := 0) (by decide) ho
  exact ⟨hn, h.2.1.kp (q 1 (by decide) (by decide)), h.2.2⟩
theorem BYr.a1 (h : BYr G o Vs by_ H) (hn : aB G (o 1) 900 f H1) (ho : ∀ a, a < H.size → ¬ a = o 1 → H1[a]? = H[a]?) : BYr G o Vs f H1 := by
  have q := h.nx (k := 1) (by decide) ho
  exact ⟨h.1.kp (q 0 (by decide) (by decide)), hn, h.2.2⟩
end SBY
/-- a state: its object and its four parts -/
def ST (G : GG) (o : Nat → Nat) (σ : Int → Int) (H : Heap) : Prop := oB G 6 (o 0) [.ref (o 1), .ref (o 5), .ref (o 8), .ref (o 13), .int (iI (σ 0)), .int (iI (σ 1))] H ∧ FO G (fun k => o (1 + k)) σ H ∧ FI G (fun k => o (5 + k)) σ H ∧ AC G (fun k => o (8 + k)) σ H ∧ GI G (fun k => o (13 + k)) σ H ∧ Ij o 18
section SST
variable {G : GG} {o : Nat → Nat} {σ τ : Int → Int} {H H1 : Heap}
theorem ST.kp (h : ST G o σ H) (hk : ∀ k, k < 18 → H1[o k]? = H[o k]?) : ST G o σ H1 :=
  ⟨h.1.kp (hk 0 (by decide)), h.2.1.kp (fun k q => hk _ (by omega)), h.2.2.1.kp (fun k q => hk _ (by omega)), h.2.2.2.1.kp (fun k q => hk _ (by omega)), h.2.2.2.2.1.kp (fun k q => hk _ (by omega)), h.2.2.2.2.2⟩
theorem ST.lt (h : ST G o σ H) : ∀ k, k < 18 → o k < H.size := by
  intro k hk
  by_cases q0 : k = 0
  · subst q0; exact h.1.lt
  · by_cases q1 : k < 5
    · have := h.2.1.lt (k - 1) (by omega)
      rwa [show 1 + (k - 1) = k by omega] at this
    · by_cases q2 : k < 8
      · have := h.2.2.1.lt (k - 5) (by omega)
        rwa [show 5 + (k - 5) = k by omega] at this
      · by_cases q3 : k < 13
        · have := h.2.2.2.1.lt (k - 8) (by omega)
          rwa [show 8 + (k - 8) = k by omega] at this
        · have := h.2.2.2.2.1.lt (k - 13) (by omega)
          rwa [show 13 + (k - 13) = k by omega] at this
theorem ST.ij (h : ST G o σ H) : Ij o 18 := h.2.2.2.2.2
theorem ST.fo (h : ST G o σ H) : FO G (fun k => o (1 + k)) σ H := h.2.1
theorem ST.fi (h : ST G o σ H) : FI G (fun k => o (5 + k)) σ H := h.2.2.1
theorem ST.ac (h : ST G o σ H) : AC G (fun k => o (8 + k)) σ H := h.2.2.2.1
theorem ST.gi (h : ST G o σ H) : GI G (fun k => o (13 + k)) σ H := h.2.2.2.2.1
theorem ST.foo (h : ST G o σ H) : oB G 3 (o 1) [.ref (o 2), .ref (o 3), .ref (o 4), .int (iI (σ 2))] H := h.fo.ob
theorem ST.fio (h : ST G o σ H) : oB G 2 (o 5) [.ref (o 6), .ref (o 7), .int (iI (σ 3))] H := h.fi.ob
theorem ST.aco (h : ST G o σ H) : oB G 0 (o 8) [.ref (o 9), .ref (o 10), .ref (o 11), .ref (o 12)] H := h.ac.ob
theorem ST.gio (h : ST G o σ H) : oB G 4 (o 13) [.ref (o 14), .ref (o 15), .ref (o 16), .ref (o 17), .int (iI (σ 4))] H := h.gi.ob
/-- which cells a part has -/
abbrev Ap (o : Nat → Nat) (a n : Nat) : Nat → Prop := Ax (fun k => o (a + k)) n
theorem Ap.no (hI : Ij o 18) {a n j : Nat} (hj : j < 18) (ha : a + n ≤ 18) (hd : j < a ∨ a + n ≤ j) : ¬ Ap o a n (o j) := fun ⟨k, hk, e⟩ => by
  have := hI j (a + k) hj (by omega) e
  omega
theorem Ap.up {a n : Nat} (ha : a + n ≤ 18) : ∀ q, Ap o a n q → Ax o 18 q := fun q ⟨k, hk, e⟩ => ⟨a + k, by omega, e⟩
theorem ST.upO (h : ST G o σ H) (hn : oB G 6 (o 0) [.ref (o 1), .ref (o 5), .ref (o 8), .ref (o 13), .int (iI (τ 0)), .int (iI (τ 1))] H1) (ho : ∀ q, q < H.size → ¬ q = o 0 → H1[q]? = H[q]?) (he : ∀ j, 2 ≤ j → τ j = σ j) : ST G o τ H1 := by
  have hI := h.ij
  have k : ∀ j, 1 ≤ j → j < 18 → H1[o j]? = H[o j]? := fun j h1 h2 => ho _ (h.lt j h2) (hI.ne j 0 h2 (by decide) (by omega))
  exact ⟨hn, (h.fo.kp (fun j hj => k _ (by omega) (by omega))).cg (he 2 (by omega)) (fun j j0 j1 => ⟨he _ (by omega), he _ (by omega), he _ (by omega)⟩), (h.fi.kp (fun j hj => k _ (by omega) (by omega))).cg (he 3 (by omega)) (fun j j0 j1 => ⟨he _ (by omega), he _ (by omega)⟩), (h.ac.kp (fun j hj => k _ (by omega) (by omega))).cg (fun j j0 j1 => ⟨he _ (by omega), he _ (by omega), he _ (by omega), he _ (by omega)⟩), (h.gi.kp (fun j hj => k _ (by omega) (by omega))).cg (he 4 (by omega)) (fun j j0 j1 => ⟨he _ (by omega), he _ (by omega), he _ (by omega), he _ (by omega)⟩), hI⟩
theorem ST.ck (h : ST G o σ H) {a n : Nat} (ha : a + n ≤ 18) (ho : ∀ q, q < H.size → ¬ Ap o a n q → H1[q]? = H[q]?) : ∀ j, j < 18 → (j < a ∨ a + n ≤ j) → H1[o j]? = H[o j]? := fun j h1 h2 => ho _ (h.lt j h1) (Ap.no h.ij h1 ha h2)
theorem ST.upFO (h : ST G o σ H) (hn : FO G (fun k => o (1 + k)) τ H1) (ho : ∀ q, q < H.size → ¬ Ap o 1 4 q → H1[q]? = H[q]?) (he : ∀ j, j < 2 ∨ (3 ≤ j ∧ j < 69) ∨ 189 ≤ j → τ j = σ j) : ST G o τ H1 := by
  have k := h.ck (by decide) ho
  refine ⟨?_, hn, (h.fi.kp (fun j hj => k _ (by omega) (by omega))).cg (he 3 (by omega)) (fun j j0 j1 => ⟨he _ (by omega), he _ (by omega)⟩), (h.ac.kp (fun j hj => k _ (by omega) (by omega))).cg (fun j j0 j1 => ⟨he _ (by omega), he _ (by omega), he _ (by omega), he _ (by omega)⟩), (h.gi.kp (fun j hj => k _ (by omega) (by omega))).cg (he 4 (by omega)) (fun j j0 j1 => ⟨he _ (by omega), he _ (by omega), he _ (by omega), he _ (by omega)⟩), h.ij⟩
  rw [he 0 (by omega), he 1 (by omega)]; exact h.1.kp (k 0 (by decide) (by decide))
theorem ST.upFI (h : ST G o σ H) (hn : FI G (fun k => o (5 + k)) τ H1) (ho : ∀ q, q < H.size → ¬ Ap o 5 3 q → H1[q]? = H[q]?) (he : ∀ j, j < 3 ∨ (4 ≤ j ∧ j < 189) ∨ 309 ≤ j → τ j = σ j) (hF : σ 2 ≤ 40) : ST G o τ H1 := by
  have k := h.ck (by decide) ho
  refine ⟨?_, (h.fo.kp (fun j hj => k _ (by omega) (by omega))).cg (he 2 (by omega)) (fun j j0 j1 => ⟨he _ (by omega), he _ (by omega), he _ (by omega)⟩), hn, (h.ac.kp (fun j hj => k _ (by omega) (by omega))).cg (fun j j0 j1 => ⟨he _ (by omega), he _ (by omega), he _ (by omega), he _ (by omega)⟩), (h.gi.kp (fun j hj => k _ (by omega) (by omega))).cg (he 4 (by omega)) (fun j j0 j1 => ⟨he _ (by omega), he _ (by omega), he _ (by omega), he _ (by omega)⟩), h.ij⟩
  rw [he 0 (by omega), he 1 (by omega)]; exact h.1.kp (k 0 (by decide) (by decide))
theorem ST.upAC (h : ST G o σ H) (hn : AC G (fun k => o (8 + k)) τ H1) (ho : ∀ q, q < H.size → ¬ Ap o 8 5 q → H1[q]? = H[q]?) (he : ∀ j, j < 5 ∨ 69 ≤ j → τ j = σ j) : ST G o τ H1 := by
  have k := h.ck (by decide) ho
  refine ⟨?_, (h.fo.kp (fun j hj => k _ (by omega) (by omega))).cg (he 2 (by omega)) (fun j j0 j1 => ⟨he _ (by omega), he _ (by omega), he _ (by omega)⟩), (h.fi.kp (fun j hj => k _ (by omega) (by omega))).cg (he 3 (by omega)) (fun j j0 j1 => ⟨he _ (by omega), he _ (by omega)⟩), hn, (h.gi.kp (fun j hj => k _ (by omega) (by omega))).cg (he 4 (by omega)) (fun j j0 j1 => ⟨he _ (by omega), he _ (by omega), he _ (by omega), he _ (by omega)⟩), h.ij⟩
  rw [he 0 (by omega), he 1 (by omega)]; exact h.1.kp (k 0 (by decide) (by decide))
theorem ST.upGI (h : ST G o σ H) (hn : GI G (fun k => o (13 + k)) τ H1) (ho : ∀ q, q < H.size → ¬ Ap o 13 5 q → H1[q]? = H[q]?) (he : ∀ j, j < 4 ∨ (5 ≤ j ∧ j < 309) → τ j = σ j) (hF : σ 2 ≤ 40) (hM : σ 3 ≤ 60) : ST G o τ H1 := by
  have k := h.ck (by decide) ho
  refine ⟨?_, (h.fo.kp (fun j hj => k _ (by omega) (by omega))).cg (he 2 (by omega)) (fun j j0 j1 => ⟨he _ (by omega), he _ (by omega), he _ (by omega)⟩), (h.fi.kp (fun j hj => k _ (by omega) (by omega))).cg (he 3 (by omega)) (fun j j0 j1 => ⟨he _ (by omega), he _ (by omega)⟩), (h.ac.kp (fun j hj => k _ (by omega) (by omega))).cg (fun j j0 j1 => ⟨he _ (by omega), he _ (by omega), he _ (by omega), he _ (by omega)⟩), hn, h.ij⟩
  rw [he 0 (by omega), he 1 (by omega)]; exact h.1.kp (k 0 (by decide) (by decide))
/-- another row with the same first 357 numbers -/
theorem ST.cg (h : ST G o σ H) (hF : σ 2 ≤ 40) (hM : σ 3 ≤ 60) (hG : σ 4 ≤ 12) (he : ∀ j, 0 ≤ j → j < 357 → τ j = σ j) : ST G o τ H := by
  refine ⟨?_, h.fo.cg (he 2 (by omega) (by omega)) (fun j j0 j1 => ⟨he _ (by omega) (by omega), he _ (by omega) (by omega), he _ (by omega) (by omega)⟩), h.fi.cg (he 3 (by omega) (by omega)) (fun j j0 j1 => ⟨he _ (by omega) (by omega), he _ (by omega) (by omega)⟩), h.ac.cg (fun j j0 j1 => ⟨he _ (by omega) (by omega), he _ (by omega) (by omega), he _ (by omega) (by omega), he _ (by omega) (by omega)⟩), h.gi.cg (he 4 (by omega) (by omega)) (fun j j0 j1 => ⟨he _ (by omega) (by omega), he _ (by omega) (by omega), he _ (by omega) (by omega), he _ (by omega) (by omega)⟩), h.ij⟩
  rw [he 0 (by omega) (by omega), he 1 (by omega) (by omega)]; exact h.1
end SST

