/-! rows that copy a whole array -/
theorem arrV_cg (c : ClassId) {n : Nat} {f g : Nat → Value} (h : ∀ j, j < n → f j = g j) : arrV c n f = arrV c n g := by
  unfold arrV
  rw [show (fun j : Fin n => f j.val) = (fun j : Fin n => g j.val) from funext (fun j => h j.val j.isLt)]
theorem aI.cg {G : GG} {q n : Nat} {f g : Int → Int} {H : Heap} (h : aI G q n f H) (he : ∀ j : Int, 0 ≤ j → j < n → g j = f j) : aI G q n g H := by
  have e : vp_cell (G.2 1) (n, .inl (fI g)) = vp_cell (G.2 1) (n, .inl (fI f)) := by
    rw [vp_cell_i, vp_cell_i]
    exact arrV_cg _ (fun j hj => by unfold fI; rw [he j (by omega) (by omega)])
  unfold aI
  rw [e]; exact h
theorem aL.cg {G : GG} {q n : Nat} {f g : Int → Int} {H : Heap} (h : aL G q n f H) (he : ∀ j : Int, 0 ≤ j → j < n → g j = f j) : aL G q n g H := by
  have e : vp_cell (G.2 2) (n, .inr (.inl (fL g))) = vp_cell (G.2 2) (n, .inr (.inl (fL f))) := by
    rw [vp_cell_l, vp_cell_l]
    exact arrV_cg _ (fun j hj => by unfold fL; rw [he j (by omega) (by omega)])
  unfold aL
  rw [e]; exact h
section ZCP
variable {p : Program} {l : Launch} {e : Env} {R : Room} {s : State} {m : MethodId} {args : Array Value} {below : List Frame} {meth : Method} {c : Code} {H : Heap} {locs : List Loc} {cells slots : Nat} {Q : State → Prop} {cc : ByteArray} {pc : Nat} {ls : Array Slot} {rest : List Value} {G : GG} {A : Nat → Prop} {H0 : Heap}
theorem z_copyi (E : p.tables.exec = Jvm.exec ∧ c.code = cc) (hml : c.maxLocals = ls.size) {own : String} {index : Nat} (hown : s.vm.findClass own = some m.cls) (hlink : (Cond.methodLink own index arraycopyName).before args s = true) (hnat : (Cond.native arraycopyName).before args s = true) (hstat : (Cond.static arraycopyName).before args s = true) (hini : (Cond.initialized "java/lang/System").before args s = true)
    (hK : KK G s) {q0 q1 n : Nat} {N : Int} {f g : Int → Int} (hA : aI G q0 n f H) (hB : aI G q1 n g H) (hS : va_S A H0 H locs) (hq : A q1) (hN : N = (n : Int)) (hn : n < 2147483648)
    (hframes : 1 ≤ R.frames) (hlocals : (rest.map fun v => v.category).sum + (nativeFrameWords "java/lang/System" "arraycopy" 5 + 11) ≤ R.locals) (d : decode cc pc = .ok (.invokestatic index, 3))
    (k : ∀ (H1 : Heap) (locs1 : List Loc), aI G q1 n f H1 → (∀ a, a ≠ q1 → H1[a]? = H[a]?) → va_S A H0 H1 locs1 → W p l e R s m args below meth c H1 locs1 cells slots Q (F0 m (pc + 3) ls rest)) : W p l e R s m args below meth c H locs cells slots Q (F0 m pc ls (.int (iI N) :: .int (iI 0) :: .ref q1 :: .int (iI 0) :: .ref q0 :: rest)) := by
  have rN : R32 N := ⟨by omega, by omega⟩
  have hz : (iI 0).toNatClampNeg = 0 := iI_c (by decide) (by decide)
  have hnn : (iI N).toNatClampNeg = n := by rw [iI_c (by omega) (by omega)]; omega
  have h1 : ¬ iI 0 < 0 := by decide
  have h3 : ¬ iI N < 0 := by rw [iI_0, iI_lt rN R32_0]; omega
  have t0 : (iI 0).toInt = 0 := iI_t R32_0
  have t3 : (iI N).toInt = (n : Int) := by rw [iI_t rN, hN]
  intro T hT X
  have hc0 : H[q0]? = some (vp_cell (G.2 1) (n, .inl (fI f))) := hA
  have hc1 : H[q1]? = some (vp_cell (G.2 1) (n, .inl (fI g))) := hB
  obtain ⟨-, k0, hk0, cm0, hkk0⟩ := (hK.1.2 1 _ rfl).1 n (fun j => .int (fI f j))
  obtain ⟨-, k1, hk1, cm1, hkk1⟩ := (hK.1.2 1 _ rfl).1 n (fun j => .int (fI g j))
  obtain ⟨vm', X', step⟩ := X.arraycopy E.1 hown hlink hnat hstat hini (src := q0) (dst := q1) (cs := vp_cell (G.2 1) (n, .inl (fI f))) (cd := vp_cell (G.2 1) (n, .inl (fI g))) (srcPos := iI 0) (destPos := iI 0) (n := iI N) (by rw [hT]; exact hc0) (by rw [hT]; exact hc1)
    (fun _ h => by cases h) (fun _ h => by cases h) (fun h => by cases h) (fun h => by cases h) hk0 hk1 hkk0 hkk1 rfl h1 h1 h3
    (by rw [t0, t3]; show ¬ _ > ((arrV (G.2 1) n (fun j => .int (fI f j))).slots.size : Int); rw [arrV_size]; omega)
    (by rw [t0, t3]; show ¬ _ > ((arrV (G.2 1) n (fun j => .int (fI g j))).slots.size : Int); rw [arrV_size]; omega)
    (fun vm₁ _ i hi => by
      have e : (vp_cell (G.2 1) (n, .inl (fI f))).slots.getD ((iI 0).toNatClampNeg + i) .null = .int (fI f ((iI 0).toNatClampNeg + i)) := by
        show (arrV (G.2 1) n (fun j => .int (fI f j))).slots.getD _ _ = _
        rw [Array.getD_eq_getD_getElem?, arrV_read _ _ (by rw [hz]; omega)]
        rfl
      refine ⟨?_, ?_⟩
      · rw [e]
        rfl
      · rw [e]
        exact trivial)
    (g := F0 m pc ls (.int (iI N) :: .int (iI 0) :: .ref q1 :: .int (iI 0) :: .ref q0 :: rest)) rfl (by rw [hml]) (rest := rest) rfl (by rw [E.2]; exact d) hframes (by show 2 * 0 + _ + _ ≤ _; omega)
  have e1 : copied (vp_cell (G.2 1) (n, .inl (fI f))) (vp_cell (G.2 1) (n, .inl (fI g))) (iI 0) (iI 0) (iI N) = vp_cell (G.2 1) (n, .inl (fI f)) := by
    have a1 : copied (vp_cell (G.2 1) (n, .inl (fI f))) (vp_cell (G.2 1) (n, .inl (fI g))) (iI 0) (iI 0) (iI N) = vp_cell (G.2 1) (n, .inl (va_cpy (fI f) (fI g) (iI 0).toNatClampNeg (iI 0).toNatClampNeg (iI N).toNatClampNeg)) := va_copied (fun z => .int z) _ _ (fI f) (fI g) (by rw [hz, hnn]; omega)
    rw [a1, vp_cell_i, vp_cell_i]
    refine arrV_cg _ (fun j hj => ?_)
    unfold va_cpy
    rw [hz, hnn, if_pos (by omega), show 0 + (j - 0) = j by omega]
  rw [e1] at X' step
  have hl : q1 < H.size := (Array.getElem?_eq_some_iff.mp hc1).1
  have hheap : ((T.setVm vm').setCell q1 (vp_cell (G.2 1) (n, .inl (fI f)))).heap = H.setIfInBounds q1 (vp_cell (G.2 1) (n, .inl (fI f))) := by rw [← hT]; rfl
  have oq : ∀ q : Nat, q ≠ q1 → (H.setIfInBounds q1 (vp_cell (G.2 1) (n, .inl (fI f))))[q]? = H[q]? := fun q h => by simp [Array.getElem?_setIfInBounds, Ne.symm h]
  obtain ⟨t, a1, b1⟩ := k _ _ (show (H.setIfInBounds q1 _)[q1]? = some _ by simp [Array.getElem?_setIfInBounds, hl]) oq ⟨by simp; exact hS.1, fun q g1 g2 => by
      rw [oq q (fun z => g2 (by rw [z]; exact hq))]
      exact hS.2.1 q g1 g2, fun q h => by
      rcases List.mem_append.mp h with h | h
      · exact hS.2.2 q h
      · obtain ⟨z, -, hz⟩ := List.mem_map.mp h
        rw [← hz]
        exact hq⟩ _ hheap X'
  exact ⟨t, step t a1, b1⟩
theorem z_copyl (E : p.tables.exec = Jvm.exec ∧ c.code = cc) (hml : c.maxLocals = ls.size) {own : String} {index : Nat} (hown : s.vm.findClass own = some m.cls) (hlink : (Cond.methodLink own index arraycopyName).before args s = true) (hnat : (Cond.native arraycopyName).before args s = true) (hstat : (Cond.static arraycopyName).before args s = true) (hini : (Cond.initialized "java/lang/System").before args s = true)
    (hK : KK G s) {q0 q1 n : Nat} {N : Int} {f g : Int → Int} (hA : aL G q0 n f H) (hB : aL G q1 n g H) (hS : va_S A H0 H locs) (hq : A q1) (hN : N = (n : Int)) (hn : n < 2147483648)
    (hframes : 1 ≤ R.frames) (hlocals : (rest.map fun v => v.category).sum + (nativeFrameWords "java/lang/System" "arraycopy" 5 + 11) ≤ R.locals) (d : decode cc pc = .ok (.invokestatic index, 3))
    (k : ∀ (H1 : Heap) (locs1 : List Loc), aL G q1 n f H1 → (∀ a, a ≠ q1 → H1[a]? = H[a]?) → va_S A H0 H1 locs1 → W p l e R s m args below meth c H1 locs1 cells slots Q (F0 m (pc + 3) ls rest)) : W p l e R s m args below meth c H locs cells slots Q (F0 m pc ls (.int (iI N) :: .int (iI 0) :: .ref q1 :: .int (iI 0) :: .ref q0 :: rest)) := by
  have rN : R32 N := ⟨by omega, by omega⟩
  have hz : (iI 0).toNatClampNeg = 0 := iI_c (by decide) (by decide)
  have hnn : (iI N).toNatClampNeg = n := by rw [iI_c (by omega) (by omega)]; omega
  have h1 : ¬ iI 0 < 0 := by decide
  have h3 : ¬ iI N < 0 := by rw [iI_0, iI_lt rN R32_0]; omega
  have t0 : (iI 0).toInt = 0 := iI_t R32_0
  have t3 : (iI N).toInt = (n : Int) := by rw [iI_t rN, hN]
  intro T hT X
  have hc0 : H[q0]? = some (vp_cell (G.2 2) (n, .inr (.inl (fL f)))) := hA
  have hc1 : H[q1]? = some (vp_cell (G.2 2) (n, .inr (.inl (fL g)))) := hB
  obtain ⟨-, k0, hk0, cm0, hkk0⟩ := (hK.1.2 2 _ rfl).1 n (fun j => .long (fL f j))
  obtain ⟨-, k1, hk1, cm1, hkk1⟩ := (hK.1.2 2 _ rfl).1 n (fun j => .long (fL g j))
  obtain ⟨vm', X', step⟩ := X.arraycopy E.1 hown hlink hnat hstat hini (src := q0) (dst := q1) (cs := vp_cell (G.2 2) (n, .inr (.inl (fL f)))) (cd := vp_cell (G.2 2) (n, .inr (.inl (fL g)))) (srcPos := iI 0) (destPos := iI 0) (n := iI N) (by rw [hT]; exact hc0) (by rw [hT]; exact hc1)
    (fun _ h => by cases h) (fun _ h => by cases h) (fun h => by cases h) (fun h => by cases h) hk0 hk1 hkk0 hkk1 rfl h1 h1 h3
    (by rw [t0, t3]; show ¬ _ > ((arrV (G.2 2) n (fun j => .long (fL f j))).slots.size : Int); rw [arrV_size]; omega)
    (by rw [t0, t3]; show ¬ _ > ((arrV (G.2 2) n (fun j => .long (fL g j))).slots.size : Int); rw [arrV_size]; omega)
    (fun vm₁ _ i hi => by
      have e : (vp_cell (G.2 2) (n, .inr (.inl (fL f)))).slots.getD ((iI 0).toNatClampNeg + i) .null = .long (fL f ((iI 0).toNatClampNeg + i)) := by
        show (arrV (G.2 2) n (fun j => .long (fL f j))).slots.getD _ _ = _
        rw [Array.getD_eq_getD_getElem?, arrV_read _ _ (by rw [hz]; omega)]
        rfl
      refine ⟨?_, ?_⟩
      · rw [e]
        rfl
      · rw [e]
        exact trivial)
    (g := F0 m pc ls (.int (iI N) :: .int (iI 0) :: .ref q1 :: .int (iI 0) :: .ref q0 :: rest)) rfl (by rw [hml]) (rest := rest) rfl (by rw [E.2]; exact d) hframes (by show 2 * 0 + _ + _ ≤ _; omega)
  have e1 : copied (vp_cell (G.2 2) (n, .inr (.inl (fL f)))) (vp_cell (G.2 2) (n, .inr (.inl (fL g)))) (iI 0) (iI 0) (iI N) = vp_cell (G.2 2) (n, .inr (.inl (fL f))) := by
    have a1 : copied (vp_cell (G.2 2) (n, .inr (.inl (fL f)))) (vp_cell (G.2 2) (n, .inr (.inl (fL g)))) (iI 0) (iI 0) (iI N) = vp_cell (G.2 2) (n, .inr (.inl (va_cpy (fL f) (fL g) (iI 0).toNatClampNeg (iI 0).toNatClampNeg (iI N).toNatClampNeg))) := va_copied (fun z => .long z) _ _ (fL f) (fL g) (by rw [hz, hnn]; omega)
    rw [a1, vp_cell_l, vp_cell_l]
    refine arrV_cg _ (fun j hj => ?_)
    unfold va_cpy
    rw [hz, hnn, if_pos (by omega), show 0 + (j - 0) = j by omega]
  rw [e1] at X' step
  have hl : q1 < H.size := (Array.getElem?_eq_some_iff.mp hc1).1
  have hheap : ((T.setVm vm').setCell q1 (vp_cell (G.2 2) (n, .inr (.inl (fL f))))).heap = H.setIfInBounds q1 (vp_cell (G.2 2) (n, .inr (.inl (fL f)))) := by rw [← hT]; rfl
  have oq : ∀ q : Nat, q ≠ q1 → (H.setIfInBounds q1 (vp_cell (G.2 2) (n, .inr (.inl (fL f)))))[q]? = H[q]? := fun q h => by simp [Array.getElem?_setIfInBounds, Ne.symm h]
  obtain ⟨t, a1, b1⟩ := k _ _ (show (H.setIfInBounds q1 _)[q1]? = some _ by simp [Array.getElem?_setIfInBounds, hl]) oq ⟨by simp; exact hS.1, fun q g1 g2 => by
      rw [oq q (fun z => g2 (by rw [z]; exact hq))]
      exact hS.2.1 q g1 g2, fun q h => by
      rcases List.mem_append.mp h with h | h
      · exact hS.2.2 q h
      · obtain ⟨z, -, hz⟩ := List.mem_map.mp h
        rw [← hz]
        exact hq⟩ _ hheap X'
  exact ⟨t, step t a1, b1⟩
end ZCP
