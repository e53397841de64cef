/-! rows at the beginning; a part with nothing in it -/
def zc (f : Int → Int) (k v : Int) : Int → Int := fun j => if 0 ≤ j ∧ j < k then v else f j
theorem zc_0 (f : Int → Int) (v : Int) : zc f 0 v = f := by
  funext j; unfold zc; rw [if_neg (by omega)]
theorem zc_s (f : Int → Int) (v : Int) {k : Int} (h : 0 ≤ k) : zu (zc f k v) k v = zc f (k + 1) v := by
  funext j
  unfold zu zc
  by_cases q : j = k
  · subst q
    rw [if_pos rfl, if_pos (show 0 ≤ j ∧ j < j + 1 by omega)]
  · rw [if_neg q]
    by_cases r : 0 ≤ j ∧ j < k
    · rw [if_pos r, if_pos (show 0 ≤ j ∧ j < k + 1 by omega)]
    · rw [if_neg r, if_neg (show ¬ (0 ≤ j ∧ j < k + 1) by omega)]
theorem zc_y (f : Int → Int) {k v j : Int} (h0 : 0 ≤ j) (h1 : j < k) : zc f k v j = v := by
  unfold zc; rw [if_pos ⟨h0, h1⟩]
theorem ini_a {j : Int} (h0 : 0 ≤ j) (h1 : j < 16) : (0 : Int) = iniT (37 + j) ∧ (0 : Int) = iniT (5 + j) ∧ (0 : Int) = iniT (21 + j) ∧ (-1 : Int) = iniT (53 + j) := by
  unfold iniT
  rw [bgF_v, bgF_v, bgF_v, bgF_v]
  refine ⟨?_, ?_, ?_, ?_⟩
  · rw [if_neg (by omega), if_neg (by omega), if_neg (by omega), if_pos (by omega), if_neg (by omega)]
  · rw [if_neg (by omega), if_neg (by omega), if_neg (by omega), if_pos (by omega), if_neg (by omega)]
  · rw [if_neg (by omega), if_neg (by omega), if_neg (by omega), if_pos (by omega), if_neg (by omega)]
  · rw [if_neg (by omega), if_neg (by omega), if_neg (by omega), if_pos (by omega), if_pos (by omega)]
theorem FI.z0 {G : GG} {o : Nat → Nat} {σ τ : Int → Int} {H H1 : Heap} (h : FI G o σ H) (hn : oB G 2 (o 0) [.ref (o 1), .ref (o 2), .int (iI 0)] H1) (ho : ∀ a, a ≠ o 0 → H1[a]? = H[a]?) (hz : τ 3 = 0) : FI G o τ H1 := by
  obtain ⟨pl, sz, hM, hs⟩ := h
  refine ⟨pl, sz, ?_, fun j j0 j1 => by omega⟩
  rw [hz]
  exact FIr.p hM hn (fun a _ h => ho a h)
theorem GI.z0 {G : GG} {o : Nat → Nat} {σ τ : Int → Int} {H H1 : Heap} (h : GI G o σ H) (hn : oB G 4 (o 0) [.ref (o 1), .ref (o 2), .ref (o 3), .ref (o 4), .int (iI 0)] H1) (ho : ∀ a, a ≠ o 0 → H1[a]? = H[a]?) (hz : τ 4 = 0) : GI G o τ H1 := by
  obtain ⟨gv, ge, gb, gd, hM, hs⟩ := h
  refine ⟨gv, ge, gb, gd, ?_, fun j j0 j1 => by omega⟩
  rw [hz]
  exact GIr.p hM hn (fun a _ h => ho a h)
