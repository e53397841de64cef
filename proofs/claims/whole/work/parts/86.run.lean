/-! the law's body, from its entry -/
section ZIO
variable {p : Program} {l : Launch} {e : Env} {R : Room} {s : State} {m : MethodId} {args : Array Value} {below : List Frame} {meth : Method} {c : Code} {H : Heap} {locs : List Loc} {cells slots : Nat} {Q : State → Prop} {cc : ByteArray} {pc : Nat} {ls : Array Slot} {rest st0 : List Value} {G : GG} {H0 : Heap}
theorem z_wIO (E : p.tables.exec = Jvm.exec ∧ c.code = cc) {nL : Nat} (hml : c.maxLocals = nL) {own C : String} (hown : s.vm.findClass own = some m.cls) {Ts : List Cond} (hts : ∀ w ∈ Ts, w.before args s = true) {y : MethodName} {ws : List Cond} {rm : Room} {bytes : ByteArray} {maxL n index mc ms : Nat} {P : Heap → Prop} {As : List Value} {b : Addr} {P1 : Heap → Prop} {A0 A1 : Nat → Prop} (hM : Met l y ws rm (va_Pc (.ref b :: As) (fun U => P U.heap ∧ KK G U ∧ va_AO C U)) (va_Qv (fun _ : Unit => True) (fun _ t => P1 t.heap) A1) mc ms A1) (cw : CallB R s args own index y bytes maxL none ws rm mc ms n ∧ y.name = "<init>" ∧ (Cond.instanceMethod y).before args s = true) (hP : P H) (hK : KK G s) (hO : va_AO C s) (hS : va_S A0 H0 H locs) (hA : ∀ q, A1 q → A0 q) (hn : As.length = n) (hsz : ls.size = nL) (hst : st0 = As.reverse ++ .ref b :: rest) (d : decode cc pc = .ok (.invokespecial index, 3)) (hf : cells + mc ≤ R.cells ∧ slots + ms ≤ R.slots) (hW : (rest.map fun v => v.category).sum ≤ 8)
    (k : ∀ (H1 : Heap) (locs1 : List Loc), P1 H1 → H.size ≤ H1.size → (∀ q : Nat, q < H.size → ¬ A1 q → H1[q]? = H[q]?) → va_S A0 H0 H1 locs1 → W p l e R s m args below meth c H1 locs1 (cells + mc) (slots + ms) Q (F0 m (pc + 3) ls rest)) : W p l e R s m args below meth c H locs cells slots Q (F0 m pc ls st0) := by
  have hp : PreS s H (va_Pc (.ref b :: As) (fun U => P U.heap ∧ KK G U ∧ va_AO C U)) (.ref b :: As) := ⟨fun a U g mk q => ⟨q.1, q.2.1, KK.calling q.2.2.1, va_AO.moved (u := U) (U := U.calling g mk a) (Vm.Alike.refl U.vm) q.2.2.2⟩, fun U hU hW => ⟨rfl, by rw [hU]; exact hP, KK.warm hW hK, va_AO.moved hW.alike hO⟩⟩
  refine va_callv (va_runI ⟨E.1, E.2, hml, hown, hts⟩ hM cw hp rfl hn hsz hst (lv_room hW) d hf) hS (fun q _ h => hA q h) hA (fun u t H1 locs1 ht hvm hw hB hz1 hk1 hS1 => ?_)
  exact k H1 locs1 (by rw [← ht]; exact hB) hz1 hk1 hS1
end ZIO
set_option maxHeartbeats 1000000 in
set_option maxRecDepth 100000 in
theorem whole_run {p : Program} {l : Launch} {e : Env} {s : State} {m : MethodId} {below : List Frame} {meth : Method} {c : Code} {b L : Nat} {xs : Nat → Int32} {Q : State → Prop} (E : p.tables.exec = Jvm.exec ∧ c.code = cL_law) (hml : c.maxLocals = 8) (hown : s.vm.findClass RL = some m.cls) (htb : ∀ w ∈ lw_tbl, w.before #[Value.ref b] s = true) (hgv : ∀ w ∈ flatC (Jvm.Cond.and given_1 narrow_1), w.before #[Value.ref b] s = true) (hx : va_X b L xs s s.heap) (hb : b < s.heap.size) (hst : l.stackTraces = false) (hL : L ≤ 3072)
    (kk : ∀ (H : Heap) (ls : Array Slot), W p l e room_1 s m #[Value.ref b] below meth c H [] 601024 7293034 Q (F0 m 2829 ls [.int (iI 1)])) : W p l e room_1 s m #[Value.ref b] below meth c s.heap [] 0 0 Q (entryFrame m ([Value.ref b] : List Value).toArray 8) := by
  have hts : ∀ w ∈ wsL_law, w.before #[Value.ref b] s = true := fun w h => htb w (wsL_law_in w h)
  obtain ⟨G, hK⟩ := kk_of htb
  have hX := kx_of htb hgv
  obtain ⟨aK, aV, hks⟩ := ks_of htb hgv
  have X : LX p l s m c G b L xs aK aV := ⟨E, hml, hown, hts, hK, hX, hx, hb, hst, hL, hks⟩
  have hS : va_S (fun q => s.heap.size ≤ q) s.heap s.heap [] := va_S.rf
  have hl := lv_entry ([.ref b]) (n := 8) (Nat.le_of_ble_eq_true rfl)
  rw [lg_entry_eq]
  generalize (lg_sl ([.ref b]) ++ List.replicate (8 - (lg_sl ([.ref b])).length) Slot.unset).toArray = ls at hl ⊢
  have hl : lv_has ls 8 [(0, .ref b)] := hl
  refine z_new (pc := 0) E htb inX7 tyX7 tyX7_ok hown (htb (.classLink RL 8 RX7) (by decide +kernel)) (htb (.instantiable RX7 7) (by decide +kernel)) (htb (.initialized RX7) (by decide +kernel)) hK hS (ci := 7) rfl bl7 (Nat.le_of_ble_eq_true rfl) (Nat.le_of_ble_eq_true rfl) dL_law_0 rfl (fun H hN hz ho hS => ?_)
  refine lv_dup (pc := 3) E.1 E.2 dL_law_3 rfl ?_
  refine z_wIO (pc := 4) (C := RX6) (P := fun H : Heap => oB G 7 s.heap.size [.null, .null, .int (iI 0), .int (iI 0), .null, .null, .null] H ∧ H.size = s.heap.size + 1) (P1 := fun H : Heap => QT G (qo s.heap.size) nuI iniT (fun _ => iniT) iniT (fun _ => 0) (fun _ => 0) H ∧ H.size = s.heap.size + 187) (As := []) (rest := [.ref s.heap.size]) E hml hown hts (mX7_init l G s.heap.size) (cwI 0 hts gL_law_X7_init rfl rfl rfl (htb (.initialized RX7) (by decide +kernel)) (htb (.methodLink RL 137 yX7_init) (by decide +kernel)) (htb (.instanceMethod yX7_init) (by decide +kernel)) rfl vdX7_init.2 ⟨(Nat.le_of_ble_eq_true rfl), (Nat.le_of_ble_eq_true rfl)⟩) ⟨hN, hz⟩ hK (ao_of htb) hS (fun q h => h) rfl hl.1 rfl dL_law_4 ⟨(Nat.le_of_ble_eq_true rfl), (Nat.le_of_ble_eq_true rfl)⟩ (Nat.le_of_ble_eq_true rfl) (fun H locs hP1 hsz hoth hS => ?_)
  obtain ⟨hQ, hz⟩ := hP1
  refine lv_astore_n (pc := 7) (lv' := [(1, .ref s.heap.size), (0, .ref b)]) E.1 E.2 dL_law_7 rfl hl (by decide) rfl (fun ls hl => ?_)
  refine z_new (pc := 8) E htb inX8 tyX8 tyX8_ok hown (htb (.classLink RL 138 RX8) (by decide +kernel)) (htb (.instantiable RX8 18) (by decide +kernel)) (htb (.initialized RX8) (by decide +kernel)) hK hS (ci := 8) rfl bl8 (Nat.le_of_ble_eq_true rfl) (Nat.le_of_ble_eq_true rfl) dL_law_8 hz (fun H hN hz ho hS => ?_)
  have hQ := hQ.kp (fun k hk => ho _ (qo_b s.heap.size hk).2)
  refine lv_dup (pc := 11) E.1 E.2 dL_law_11 rfl ?_
  refine z_wI (pc := 12) (P := fun H : Heap => oB G 8 (s.heap.size + 187) [.null, .null, .null, .int (iI 0), .int (iI 0), .null, .int (iI 0), .int (iI 0), .int (iI 0), .int (iI 0), .int (iI 0), .int (iI 0), .int (iI 0), .int (iI 0), .int (iI 0), .long (iL 0), .null, .int (iI 0)] H ∧ H.size = s.heap.size + 187 + 1) (P1 := fun H : Heap => W8 G (fun k => s.heap.size + 187 + k) (mV (fun k => s.heap.size + 187 + k) (zu (fun _ => 0) 14 (-1))) iniT iniT (fun _ => 0) (fun _ => 0) (fun _ => 0) H ∧ H.size = s.heap.size + 187 + 6) (As := []) (rest := [.ref (s.heap.size + 187)]) E hml hown hts (mX8_init l G (s.heap.size + 187)) (cwI 0 hts gL_law_X8_init rfl rfl rfl (htb (.initialized RX8) (by decide +kernel)) (htb (.methodLink RL 140 yX8_init) (by decide +kernel)) (htb (.instanceMethod yX8_init) (by decide +kernel)) rfl vdX8_init.2 ⟨(Nat.le_of_ble_eq_true rfl), (Nat.le_of_ble_eq_true rfl)⟩) ⟨hN, hz⟩ hK hS (fun q h => Nat.le_trans (Nat.le_add_right _ _) h) rfl hl.1 rfl dL_law_12 ⟨(Nat.le_of_ble_eq_true rfl), (Nat.le_of_ble_eq_true rfl)⟩ (Nat.le_of_ble_eq_true rfl) (fun H locs hP1 hsz hoth hS => ?_)
  have ho : ∀ q, q < s.heap.size + 187 → H[q]? = _ := fun q hq => hoth q (by omega) (by show ¬ (s.heap.size + 187 ≤ q); omega)
  obtain ⟨hW, hz⟩ := hP1
  have hQ := hQ.kp (fun k hk => ho _ (qo_b s.heap.size hk).2)
  refine lv_astore_n (pc := 15) (lv' := [(2, .ref (s.heap.size + 187)), (1, .ref s.heap.size), (0, .ref b)]) E.1 E.2 dL_law_15 rfl hl (by decide) rfl (fun ls hl => ?_)
  refine z_iconst (pc := 16) E dL_law_16 ?_
  refine z_newL (pc := 17) E (htb (.arrayClass .long) (by decide +kernel)) hK hS (N := 1) rfl (Nat.le_of_ble_eq_true rfl) (Nat.le_of_ble_eq_true rfl) (Nat.le_of_ble_eq_true rfl) dL_law_17 hz (fun H hA hz ho hS => ?_)
  have hQ := hQ.kp (fun k hk => ho _ (by have := qo_b s.heap.size hk; omega))
  have hW := hW.kp (fun k hk => ho (s.heap.size + 187 + k) (by omega))
  refine lv_astore_n (pc := 19) (lv' := [(3, .ref (s.heap.size + 193)), (2, .ref (s.heap.size + 187)), (1, .ref s.heap.size), (0, .ref b)]) E.1 E.2 dL_law_19 rfl hl (by decide) rfl (fun ls hl => ?_)
  refine z_iconst (pc := 20) E dL_law_20 ?_
  refine z_newD (pc := 21) E (htb (.arrayClass .double) (by decide +kernel)) hK hS (Nat.le_of_ble_eq_true rfl) (Nat.le_of_ble_eq_true rfl) dL_law_21 hz (fun H hD hz ho hS => ?_)
  have hQ := hQ.kp (fun k hk => ho _ (by have := qo_b s.heap.size hk; omega))
  have hW := hW.kp (fun k hk => ho (s.heap.size + 187 + k) (by omega))
  have hA := hA.kp (ho (s.heap.size + 193) (by omega))
  refine lv_astore (pc := 23) (lv' := [(4, .ref (s.heap.size + 194)), (3, .ref (s.heap.size + 193)), (2, .ref (s.heap.size + 187)), (1, .ref s.heap.size), (0, .ref b)]) E.1 E.2 dL_law_23 hl (by decide) rfl (fun ls hl => ?_)
  refine z_iconst (pc := 25) E dL_law_25 ?_
  refine lv_istore (pc := 26) (lv' := [(5, .int (iI 0)), (4, .ref (s.heap.size + 194)), (3, .ref (s.heap.size + 193)), (2, .ref (s.heap.size + 187)), (1, .ref s.heap.size), (0, .ref b)]) E.1 E.2 dL_law_26 hl (by decide) rfl (fun ls hl => ?_)
  have hR : LR 0 nuI iniT (fun _ => iniT) (fun _ => 0) (fun _ => 0) (zu (fun _ => 0) 14 (-1)) (fun _ => 0) := LR.ini
  have hJ : LH G 0 s.heap.size H := ⟨⟨nuI, iniT, fun _ => iniT, iniT, fun _ => 0, fun _ => 0, zu (fun _ => 0) 14 (-1), iniT, fun _ => 0, hQ, hW, hR⟩, ⟨_, hA⟩, ⟨_, hD⟩⟩
  refine W.widen (k := 195 + 0) (n := 10456 + 6 * 0) (Nat.le_of_ble_eq_true rfl) (Nat.le_of_ble_eq_true rfl) ?_
  refine lw_loop X (fun H locs ls hS => ?_) (L + 1) 0 0 H locs ls rfl (by omega) (by omega) hJ hS (lv_sub hl [5, 4, 3, 2, 1, 0] rfl)
  refine W.forget (locs := []) (L := locs) (fun q hq => hS.2.2 q hq) ?_
  refine z_iconst (pc := 2828) E dL_law_2828 ?_
  exact kk H ls
