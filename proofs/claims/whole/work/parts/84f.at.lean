/-! what holds at the law's entry -/
theorem ac_of {args : Array Value} {s : State} {t : FieldType} (h : (Cond.arrayClass t).before args s = true) : ∃ cA : ClassId, ArrOfT s cA t ∧ s.vm.findClass ("[" ++ t.toString) = some cA := by
  obtain ⟨cA, kA, comp, h1, h2, h3⟩ := Cond.arrayClass_spec h
  exact ⟨cA, fun n z => ⟨fun k h => (by cases h), kA, h2, comp, h3⟩, h1⟩
set_option maxRecDepth 20000 in
theorem nwd_of {args : Array Value} {s : State} (hts : ∀ w ∈ lw_tbl, w.before args s = true) : NWd s := by
  have k : ∀ w ∈ ([.methodLinkNest RX7 11 yX6_init "QuotaTree", .methodLinkNest RX7 22 yX1_init "QuotaTree", .methodLinkNest RX0 51 yX7_accountOf "QuotaTree", .methodLinkNest RX5 103 yX7_accountOf "QuotaTree", .methodLinkNest RX5 11 yX6_init "QuotaTree", .methodLinkNest RX6 20 yX2_init "QuotaTree", .methodLinkNest RX6 34 yX4_init "QuotaTree", .methodLinkNest RX6 98 yX7_accountOf "QuotaTree", .fieldLinkNest RX5 22 RX1 "bytes" "[B" "QuotaTree"] : List Cond), w ∈ lw_tbl := by decide +kernel
  have g : ∀ w : Cond, w.onTables = true → w ∈ lw_tbl → va_Nw w s := fun w h1 h2 => va_tabs h1 rfl (hts w h2)
  exact ⟨g _ (by decide +kernel) (k _ (List.mem_of_getElem? (i := 0) rfl)), g _ (by decide +kernel) (k _ (List.mem_of_getElem? (i := 1) rfl)), g _ (by decide +kernel) (k _ (List.mem_of_getElem? (i := 2) rfl)), g _ (by decide +kernel) (k _ (List.mem_of_getElem? (i := 3) rfl)), g _ (by decide +kernel) (k _ (List.mem_of_getElem? (i := 4) rfl)), g _ (by decide +kernel) (k _ (List.mem_of_getElem? (i := 5) rfl)), g _ (by decide +kernel) (k _ (List.mem_of_getElem? (i := 6) rfl)), g _ (by decide +kernel) (k _ (List.mem_of_getElem? (i := 7) rfl)), g _ (by decide +kernel) (k _ (List.mem_of_getElem? (i := 8) rfl))⟩
set_option maxRecDepth 20000 in
theorem ao_of {args : Array Value} {s : State} (hts : ∀ w ∈ lw_tbl, w.before args s = true) : va_AO RX6 s := va_AO.of (hts (.arrayOver (.object RX6)) (by decide +kernel))
set_option maxRecDepth 20000 in
theorem kk_of {args : Array Value} {s : State} (hts : ∀ w ∈ lw_tbl, w.before args s = true) : ∃ G : GG, KK G s := by
  obtain ⟨c0, i0, k0⟩ := u_known (C := RX0) (T := TX0) (N := 4) (n := 4) hts inX0 (hts (.instantiable RX0 4) (by decide +kernel))
  obtain ⟨c1, i1, k1⟩ := u_known (C := RX1) (T := TX1) (N := 2) (n := 2) hts inX1 (hts (.instantiable RX1 2) (by decide +kernel))
  obtain ⟨c2, i2, k2⟩ := u_known (C := RX2) (T := TX2) (N := 3) (n := 3) hts inX2 (hts (.instantiable RX2 3) (by decide +kernel))
  obtain ⟨c3, i3, k3⟩ := u_known (C := RX3) (T := TX3) (N := 4) (n := 4) hts inX3 (hts (.instantiable RX3 4) (by decide +kernel))
  obtain ⟨c4, i4, k4⟩ := u_known (C := RX4) (T := TX4) (N := 5) (n := 5) hts inX4 (hts (.instantiable RX4 5) (by decide +kernel))
  obtain ⟨c5, i5, k5⟩ := u_known (C := RX5) (T := TX5) (N := 7) (n := 7) hts inX5 (hts (.instantiable RX5 7) (by decide +kernel))
  obtain ⟨c6, i6, k6⟩ := u_known (C := RX6) (T := TX6) (N := 6) (n := 6) hts inX6 (hts (.instantiable RX6 6) (by decide +kernel))
  obtain ⟨c7, i7, k7⟩ := u_known (C := RX7) (T := TX7) (N := 7) (n := 7) hts inX7 (hts (.instantiable RX7 7) (by decide +kernel))
  obtain ⟨c8, i8, k8⟩ := u_known (C := RX8) (T := TX8) (N := 18) (n := 18) hts inX8 (hts (.instantiable RX8 18) (by decide +kernel))
  obtain ⟨a0, b0, d0⟩ := ac_of (hts (.arrayClass .byte) (by decide +kernel))
  obtain ⟨a1, b1, d1⟩ := ac_of (hts (.arrayClass .int) (by decide +kernel))
  obtain ⟨a2, b2, d2⟩ := ac_of (hts (.arrayClass .long) (by decide +kernel))
  obtain ⟨a4, b4, d4⟩ := ac_of (hts (.arrayClass .double) (by decide +kernel))
  obtain ⟨comp, a3, kA, e1, -, e3, e4, e5⟩ := Cond.arrayOver_spec (ao_of hts)
  refine ⟨((fun k => if k = 0 then c0 else if k = 1 then c1 else if k = 2 then c2 else if k = 3 then c3 else if k = 4 then c4 else if k = 5 then c5 else if k = 6 then c6 else if k = 7 then c7 else c8, fun k => if k = 0 then i0 else if k = 1 then i1 else if k = 2 then i2 else if k = 3 then i3 else if k = 4 then i4 else if k = 5 then i5 else if k = 6 then i6 else if k = 7 then i7 else i8), fun k => if k = 0 then a0 else if k = 1 then a1 else if k = 2 then a2 else if k = 3 then a3 else a4), ⟨fun k q hq => ?_, fun k q hq => ?_⟩, nwd_of hts⟩
  · match k, hq with
    | 0, hq => cases hq; exact k0
    | 1, hq => cases hq; exact k1
    | 2, hq => cases hq; exact k2
    | 3, hq => cases hq; exact k3
    | 4, hq => cases hq; exact k4
    | 5, hq => cases hq; exact k5
    | 6, hq => cases hq; exact k6
    | 7, hq => cases hq; exact k7
    | 8, hq => cases hq; exact k8
    | k + 9, hq => simp [vwCl] at hq
  · match k, hq with
    | 0, hq => cases hq; exact ⟨b0, d0⟩
    | 1, hq => cases hq; exact ⟨b1, d1⟩
    | 2, hq => cases hq; exact ⟨b2, d2⟩
    | 3, hq => cases hq; exact ⟨fun n z => ⟨fun k h => (by cases h), kA, e3, comp, e4⟩, kA, comp, e3, e4, e1, e5⟩
    | 4, hq => cases hq; exact ⟨b4, d4⟩
    | k + 5, hq => simp [zT] at hq
theorem isr_v {args : Array Value} {s : State} {own : String} {k : Nat} {tx : String} (h1 : (Cond.stringRef own k tx).before args s = true) (h2 : (Cond.exactly (.string own k) "java/lang/String").before args s = true) : ∃ sa : Nat, vk_R own k tx sa s := by
  obtain ⟨a, c0, cell, k0, ha, -⟩ := Cond.exactly_spec h2
  exact ⟨a, vk_R.of (A := args) h1 ha⟩
set_option maxRecDepth 20000 in
theorem xs_of {args : Array Value} {s : State} (hts : ∀ w ∈ lw_tbl, w.before args s = true) (hgv : ∀ w ∈ flatC (Jvm.Cond.and given_1 narrow_1), w.before args s = true) : XS s := by
  refine ⟨?_, ?_, ?_⟩
  · have k : ∀ x ∈ SXL, Cond.stringRef RX7 x.1 x.2 ∈ lw_tbl ∧ Cond.exactly (.string RX7 x.1) "java/lang/String" ∈ flatC (Jvm.Cond.and given_1 narrow_1) := by decide +kernel
    exact fun x hx => isr_v (hts _ (k x hx).1) (hgv _ (k x hx).2)
  · have k : ∀ w ∈ WXL, w ∈ lw_tbl ∧ w.onTables = true := by decide +kernel
    exact fun w hw => va_tabs (k w hw).2 rfl (hts w (k w hw).1)
  · have k : ∀ E ∈ CXL, ∀ F ∈ CXL, E ≠ F → Cond.not (.castable E F) ∈ flatC (Jvm.Cond.and given_1 narrow_1) := by decide +kernel
    exact fun E hE F hF hn => va_Nc.of (hgv _ (k E hE F hF hn))
theorem of_u {C n d : String} {v w : Value} {a : Nat} {A : Nat → Prop} {U : State} {H : Heap} (h : va_OF C n d v a A U H) (k : va_OF C n d w a A U H) : v = w := by
  obtain ⟨cf, kf, fi, f, cell, h1, -, h3, -, h5, -⟩ := h
  obtain ⟨cf2, kf2, fi2, f2, cell2, g1, -, g3, -, g5, -⟩ := k
  cases h1.symm.trans g1
  cases h3.symm.trans g3
  exact Option.some.inj (h5.symm.trans g5)
theorem t_u {ty : FieldType} {t N M : Nat} {f g : Nat → Value} {A : Nat → Prop} {U : State} {H : Heap} (h : va_T ty t N f A U H) (k : va_T ty t M g A U H) (hN : 0 < N) (hM : 0 < M) : Int32.ofNat N = Int32.ofNat M ∧ f 0 = g 0 := by
  obtain ⟨c1, h1, -, -, -, h5, h6, -⟩ := h
  obtain ⟨c2, g1, -, -, -, g5, g6, -⟩ := k
  cases h1.symm.trans g1
  exact ⟨h5.symm.trans g5, Option.some.inj ((h6 0 hN).symm.trans (g6 0 hM))⟩
def ksT (i : Nat) : Term := .string RX8 ([150, 156, 161, 166, 171].getD i 0)
set_option maxRecDepth 20000 in
theorem kx_of {args : Array Value} {s : State} (hts : ∀ w ∈ lw_tbl, w.before args s = true) (hgv : ∀ w ∈ flatC (Jvm.Cond.and given_1 narrow_1), w.before args s = true) : KX (fun q => s.heap.size ≤ q) s s.heap := by
  have hA : ∀ a : Nat, a < s.heap.size → ¬ (s.heap.size ≤ a) := fun a h => Nat.not_le.mpr h
  exact ⟨vx_Zqof (hts (.laysStatic Bundle.tN "UNASSIGNED_STACK" Bundle.steD) (by decide +kernel)) (hts (.initialized Bundle.tN) (by decide +kernel)) (hgv (.isRef (.static Bundle.tN "UNASSIGNED_STACK" Bundle.steD)) (by decide +kernel)) hA,
    vx_Zqof (hts (.laysStatic Bundle.tN "SUPPRESSED_SENTINEL" Bundle.listD) (by decide +kernel)) (hts (.initialized Bundle.tN) (by decide +kernel)) (hgv (.isRef (.static Bundle.tN "SUPPRESSED_SENTINEL" Bundle.listD)) (by decide +kernel)) hA, xs_of hts hgv⟩
set_option maxRecDepth 20000 in
theorem ks_of {args : Array Value} {s : State} (hts : ∀ w ∈ lw_tbl, w.before args s = true) (hgv : ∀ w ∈ flatC (Jvm.Cond.and given_1 narrow_1), w.before args s = true) : ∃ aK aV : Nat → Nat, KS aK aV (fun q => s.heap.size ≤ q) s s.heap := by
  have hA : ∀ a : Nat, a < s.heap.size → ¬ (s.heap.size ≤ a) := fun a h => Nat.not_le.mpr h
  have k1 : ∀ i : Nat, i < 5 → Cond.exactly (ksT i) "java/lang/String" ∈ flatC (Jvm.Cond.and given_1 narrow_1) := by decide +kernel
  have k2 : ∀ i : Nat, i < 5 → Cond.eq (.field (ksT i) "java/lang/String" "coder" "B") (.int 0) ∈ flatC (Jvm.Cond.and given_1 narrow_1) := by decide +kernel
  have k3 : ∀ i : Nat, i < 5 → Cond.arrayOf (.field (ksT i) "java/lang/String" "value" "[B") .byte ∈ flatC (Jvm.Cond.and given_1 narrow_1) := by decide +kernel
  have k4 : ∀ i : Nat, i < 5 → Cond.eq (.length (.field (ksT i) "java/lang/String" "value" "[B")) (.int (Int32.ofNat (sLen.getD i 0))) ∈ flatC (Jvm.Cond.and given_1 narrow_1) := by decide +kernel
  have k5 : ∀ i : Nat, i < 5 → ∀ j : Nat, j < sLen.getD i 0 → Cond.eq (.elem (.field (ksT i) "java/lang/String" "value" "[B") (.int (Int32.ofNat j))) (.int ((sByt.getD i []).getD j 0)) ∈ flatC (Jvm.Cond.and given_1 narrow_1) := by decide +kernel
  have h0 : ∀ i : Nat, ∃ q : Nat × Nat, i < 5 → (va_O "java/lang/String" q.1 (fun q => s.heap.size ≤ q) s s.heap ∧ va_OF "java/lang/String" "coder" "B" (.int 0) q.1 (fun q => s.heap.size ≤ q) s s.heap ∧ va_OF "java/lang/String" "value" "[B" (.ref q.2) q.1 (fun q => s.heap.size ≤ q) s s.heap ∧ va_T .byte q.2 (sLen.getD i 0) (fun j => .int ((sByt.getD i []).getD j 0)) (fun q => s.heap.size ≤ q) s s.heap) ∧ (ksT i).eval args s none [] s = some (.ref q.1) := by
    intro i
    by_cases hi : i < 5
    · obtain ⟨aK, aV, h, e⟩ := vk_Sof (N := 1) (tm := fun _ => ksT i) (len := [sLen.getD i 0]) (byt := [sByt.getD i []]) (A := fun q => s.heap.size ≤ q) (fun j hj => by rw [show j = 0 by omega]; exact (show ∀ i : Nat, i < 5 → [sLen.getD i 0].getD 0 0 < 2 ^ 31 by decide) i hi) (fun _ _ => hgv _ (k1 i hi)) (fun _ _ => hgv _ (k2 i hi)) (fun _ _ => hgv _ (k3 i hi)) (fun j hj => by rw [show j = 0 by omega]; exact hgv _ (k4 i hi)) (fun j hj x hx => by rw [show j = 0 by omega] at hx ⊢; exact hgv _ (k5 i hi x hx)) (fun x y hx hy hn => absurd (show x = y by omega) hn) hA
      exact ⟨(aK 0, aV 0), fun _ => ⟨h.1 0 (by decide), e 0 (by decide)⟩⟩
    · exact ⟨(0, 0), fun h => absurd h hi⟩
  obtain ⟨ad, had⟩ := Classical.axiomOfChoice h0
  have key : ∀ i : Nat, i < 5 → ∀ j : Nat, j < 5 → Int32.ofNat (sLen.getD i 0) = Int32.ofNat (sLen.getD j 0) → (sByt.getD i []).getD 0 0 = (sByt.getD j []).getD 0 0 → i = j := by decide
  have hpos : ∀ i : Nat, i < 5 → 0 < sLen.getD i 0 := by decide
  have e : ∀ i : Nat, i < 5 → (ksT i).eval args s none [] s = some (.ref (ad i).1) := fun i hi => (had i hi).2
  have h : vk_S 5 sLen sByt (fun i => (ad i).1) (fun i => (ad i).2) (fun q => s.heap.size ≤ q) s s.heap := by
    refine ⟨fun i hi => (had i hi).1, fun i j hi hj q => ?_⟩
    have q : (ad i).1 = (ad j).1 := q
    have o1 := (had i hi).1.2.2.1
    rw [q] at o1
    have v := Value.ref.inj (of_u o1 (had j hj).1.2.2.1)
    have t1 := (had i hi).1.2.2.2
    rw [v] at t1
    have z := t_u t1 (had j hj).1.2.2.2 (hpos i hi) (hpos j hj)
    exact key i hi j hj z.1 (Value.int.inj z.2)
  refine ⟨fun i => (ad i).1, fun i => (ad i).2, h, va_Zof (hts (.laysStatic "java/lang/String" "COMPACT_STRINGS" "Z") (by decide +kernel)) (hts (.initialized "java/lang/String") (by decide +kernel)) (va_eqt (hgv (.eq (.static "java/lang/String" "COMPACT_STRINGS" "Z") (.int 1)) (by decide +kernel))) hA, va_Zqof (hts (.laysStatic "jdk/internal/util/Preconditions" "SIOOBE_FORMATTER" "Ljava/util/function/BiFunction;") (by decide +kernel)) (hts (.initialized "jdk/internal/util/Preconditions") (by decide +kernel)) (hgv (.isRef (.static "jdk/internal/util/Preconditions" "SIOOBE_FORMATTER" "Ljava/util/function/BiFunction;")) (by decide +kernel)) hA, ?_⟩
  have r : ∀ (i : Nat) (tx : String), i < 5 → Cond.stringRef RX8 ([150, 156, 161, 166, 171].getD i 0) tx ∈ lw_tbl → vk_R RX8 ([150, 156, 161, 166, 171].getD i 0) tx (ad i).1 s := fun i tx hi hm => vk_R.of (A := args) (hts _ hm) (e i hi)
  exact ⟨r 0 _ (by decide) (by decide +kernel), r 1 _ (by decide) (by decide +kernel), r 2 _ (by decide) (by decide +kernel), r 3 _ (by decide) (by decide +kernel), r 4 _ (by decide) (by decide +kernel)⟩
