/-- the object while its past is being made -/
def J7 (G : GG) (a n : Nat) (H : Heap) : Prop := oB G 7 a [.ref (a + 1), .ref (a + 19), .int (iI 0), .int (iI 0), .ref (a + 20), .ref (a + 22), .ref (a + 24)] H ∧ H.size = a + 43 + 18 * n ∧ ST G (fun k => a + 1 + k) iniT H ∧ aSo G (a + 19) 8 (fun j => if j < n then some (a + 43 + 18 * j) else none) H ∧ BYr G (fun k => a + 20 + k) [.ref (a + 21), .int (iI 0)] (fun _ => 0) H ∧ BYr G (fun k => a + 22 + k) [.ref (a + 23), .int (iI 0)] (fun _ => 0) H ∧ oB G 5 (a + 24) [.ref (a + 25), .int (iI 0), .int (iI (-1)), .ref (a + 21), .int (iI 0), .int (iI 0), .int (iI 0)] H ∧ ST G (fun k => a + 25 + k) iniT H ∧ ∀ i, i < n → ST G (fun k => a + 43 + 18 * i + k) iniT H
theorem J7.done {G : GG} {a : Nat} {H : Heap} (h : J7 G a 8 H) : QT G (qo a) nuI iniT (fun _ => iniT) iniT (fun _ => 0) (fun _ => 0) H ∧ H.size = a + 187 := by
  obtain ⟨hO, hz, hNo, hP, hTx, hWr, hR, hD, hq⟩ := h
  refine ⟨⟨hO, hNo.oeq (fun k hk => ?_), hP.aS (f := fun i => qo a (20 + 18 * i)) (fun j hj => ?_), fun i hi => (hq i hi).oeq (fun k hk => ?_), hTx.oeq (fun k hk => ?_), hWr.oeq (fun k hk => ?_), hR, hD.oeq (fun k hk => ?_), qo_ij a⟩, by omega⟩
  all_goals simp only [qo]
  all_goals try rw [if_pos hj]
  all_goals (repeat' split) <;> first | omega | exact congrArg some (by omega)
theorem J7.kp {G : GG} {a n : Nat} {H H1 : Heap} (h : J7 G a n H) (ho : ∀ q, q < a + 43 + 18 * n → H1[q]? = H[q]?) :
    oB G 7 a [.ref (a + 1), .ref (a + 19), .int (iI 0), .int (iI 0), .ref (a + 20), .ref (a + 22), .ref (a + 24)] H1 ∧ ST G (fun k => a + 1 + k) iniT H1 ∧ aSo G (a + 19) 8 (fun j => if j < n then some (a + 43 + 18 * j) else none) H1 ∧ BYr G (fun k => a + 20 + k) [.ref (a + 21), .int (iI 0)] (fun _ => 0) H1 ∧ BYr G (fun k => a + 22 + k) [.ref (a + 23), .int (iI 0)] (fun _ => 0) H1 ∧ oB G 5 (a + 24) [.ref (a + 25), .int (iI 0), .int (iI (-1)), .ref (a + 21), .int (iI 0), .int (iI 0), .int (iI 0)] H1 ∧ ST G (fun k => a + 25 + k) iniT H1 ∧ ∀ i, i < n → ST G (fun k => a + 43 + 18 * i + k) iniT H1 := by
  obtain ⟨hO, hz, hNo, hP, hTx, hWr, hR, hD, hq⟩ := h
  exact ⟨hO.kp (ho _ (by omega)), hNo.kp (fun k hk => ho (a + 1 + k) (by omega)), hP.kp (ho _ (by omega)), hTx.kp (fun k hk => ho (a + 20 + k) (by omega)), hWr.kp (fun k hk => ho (a + 22 + k) (by omega)), hR.kp (ho _ (by omega)), hD.kp (fun k hk => ho (a + 25 + k) (by omega)), fun i hi => (hq i hi).kp (fun k hk => ho (a + 43 + 18 * i + k) (by omega))⟩
set_option maxHeartbeats 1000000 in
set_option maxRecDepth 100000 in
theorem x7_lp (lL : Launch) (G : GG) (a : Nat) {pp : Program} {ee : Env} {ss : State} {mm : MethodId} {below : List Frame} {meth : Method} {cC : Code} {Q : State → Prop} (E : pp.tables.exec = Jvm.exec ∧ cC.code = cX7_init) (hml : cC.maxLocals = 2) (hown : ss.vm.findClass yX7_init.cls = some mm.cls) (hts : ∀ w ∈ wsX7_init, w.before [Value.ref a].toArray ss = true) (hK : KK G ss) : ∀ n k : Nat, k + n = 8 → ∀ (H : Heap) (locs : List Loc), J7 G a k H → va_S (fun q => a ≤ q) ss.heap H locs → ∀ ls : Array Slot, lv_has ls 2 [(1, .int (iI (k : Int))), (0, .ref a)] → (∀ (H : Heap) (locs : List Loc) (ls : Array Slot), J7 G a 8 H → va_S (fun q => a ≤ q) ss.heap H locs → lv_has ls 2 [(1, .int (iI ((8 : Nat) : Int))), (0, .ref a)] → W pp lL ee ({ frames := 8, cells := 186, slots := 5559, locals := 200 } : Room) ss mm [Value.ref a].toArray below meth cC H locs 186 5559 Q (F0 mm 88 ls [])) → W pp lL ee ({ frames := 8, cells := 186, slots := 5559, locals := 200 } : Room) ss mm [Value.ref a].toArray below meth cC H locs (42 + 18 * k) (2567 + 374 * k) Q (F0 mm 63 ls []) := by
  have hin6 : ∀ w ∈ wsX60, w ∈ wsX7_init := fun w h => List.mem_cons_of_mem _ (List.mem_append_left _ (List.mem_append_left _ (List.mem_append_left _ (List.mem_append_left _ (List.mem_append_left _ (List.mem_append_left _ (List.mem_append_left _ (List.mem_append_right _ (h)))))))))
  have hin7 : ∀ w ∈ wsX70, w ∈ wsX7_init := fun w h => List.mem_cons_of_mem _ (List.mem_append_left _ (List.mem_append_left _ (List.mem_append_left _ (List.mem_append_left _ (List.mem_append_left _ (List.mem_append_left _ (List.mem_append_right _ (h))))))))
  intro n
  induction n with
  | zero =>
    intro k hk8 H locs hJ hS ls hl kk
    obtain rfl : k = 8 := by omega
    refine lv_iload_n (pc := 63) E.1 E.2 dX7_init_63 rfl (lv_at hl 0 rfl) ?_
    refine z_bipush (pc := 64) E (by decide) dX7_init_64 ?_
    refine z_icmp_ge (pc := 66) (tgt := 88) E (by decide) (by decide) dX7_init_66 (by decide) (fun h66 => ?_) (fun h66 => absurd h66 (by decide))
    exact kk H locs ls hJ hS hl
  | succ n ih =>
    intro k hk8 H locs hJ hS ls hl kk
    have hz := hJ.2.1
    refine lv_iload_n (pc := 63) E.1 E.2 dX7_init_63 rfl (lv_at hl 0 rfl) ?_
    refine z_bipush (pc := 64) E (by decide) dX7_init_64 ?_
    refine z_icmp_ge (pc := 66) (tgt := 88) E ⟨by omega, by omega⟩ (by decide) dX7_init_66 (by decide) (fun h66 => absurd h66 (by omega)) (fun h66 => ?_)
    refine lv_aload_n (pc := 69) E.1 E.2 dX7_init_69 rfl (lv_at hl 1 rfl) ?_
    refine g7_1 (pc := 70) E hts hin7 hown hK hJ.1 (hts _ (List.mem_of_getElem? (i := 8) rfl)) dX7_init_70 ?_
    refine lv_iload_n (pc := 73) E.1 E.2 dX7_init_73 rfl (lv_at hl 0 rfl) ?_
    refine z_new (pc := 74) E hts hin6 tyX6 tyX6_ok hown (hts _ (List.mem_of_getElem? (i := 4) rfl)) (hts _ (List.mem_of_getElem? (i := 5) rfl)) (hts _ (List.mem_of_getElem? (i := 6) rfl)) hK hS (ci := 6) rfl bl6 (by show 42 + 18 * k + 1 ≤ 186; omega) (by show 2567 + 374 * k + 6 ≤ 5559; omega) dX7_init_74 hz (fun H hN hz1 ho hS => ?_)
    have hJ1 := hJ.kp ho
    refine lv_dup (pc := 77) E.1 E.2 dX7_init_77 rfl ?_
    refine z_wIN (pc := 78) (P := fun H : Heap => oB G 6 (a + 43 + 18 * k) [.null, .null, .null, .null, .int (iI 0), .int (iI 0)] H ∧ H.size = a + 43 + 18 * k + 1) (P1 := fun H : Heap => ST G (fun j => a + 43 + 18 * k + j) iniT H ∧ H.size = a + 43 + 18 * k + 18) (As := []) (rest := [.ref (a + 43 + 18 * k), .int (iI (k : Int)), .ref (a + 19)]) E hml hown hts (mX6_init lL G (a + 43 + 18 * k)) ⟨va_cnB 0 hts gX7_init_X6_init_n11 rfl rfl rfl hK.2.1 (hts _ (List.mem_of_getElem? (i := 6) rfl)) vdX6_init.2 ⟨Nat.le_of_ble_eq_true rfl, Nat.le_of_ble_eq_true rfl⟩, rfl, (hts _ (List.mem_of_getElem? (i := 18) rfl))⟩ ⟨hN, hz1⟩ hK hS (fun q h => Nat.le_trans (by omega) h) rfl hl.1 rfl dX7_init_78 ⟨by show 42 + 18 * k + 1 + 17 ≤ 186; omega, by show 2567 + 374 * k + 6 + 368 ≤ 5559; omega⟩ (Nat.le_of_ble_eq_true rfl) (fun H locs hP1 hsz hoth hS => ?_)
    have ho : ∀ q, q < a + 43 + 18 * k → H[q]? = _ := fun q hq => hoth q (by omega) (by show ¬ (a + 43 + 18 * k ≤ q); omega)
    obtain ⟨hQ, hz⟩ := hP1
    obtain ⟨hO, hNo, hP, hTx, hWr, hR, hD, hq⟩ := hJ1
    have hO := hO.kp (ho _ (by omega))
    have hNo := hNo.kp (fun k hk => ho (a + 1 + k) (by omega))
    have hP := hP.kp (ho _ (by omega))
    have hTx := hTx.kp (fun k hk => ho (a + 20 + k) (by omega))
    have hWr := hWr.kp (fun k hk => ho (a + 22 + k) (by omega))
    have hR := hR.kp (ho _ (by omega))
    have hD := hD.kp (fun k hk => ho (a + 25 + k) (by omega))
    have hq : ∀ i, i < k → ST G (fun j => a + 43 + 18 * i + j) iniT H := fun i hi => (hq i hi).kp (fun k hk => ho (a + 43 + 18 * i + k) (by omega))
    refine z_aastS (pc := 81) E hK hP hQ.1 hS (by show a ≤ a + 19; omega) ⟨by omega, by omega⟩ (by decide) dX7_init_81 (fun H locs hP ho hzz hS => ?_)
    have hO := hO.kp (ho _ (by omega))
    have hNo := hNo.kp (fun k hk => ho (a + 1 + k) (by omega))
    have hTx := hTx.kp (fun k hk => ho (a + 20 + k) (by omega))
    have hWr := hWr.kp (fun k hk => ho (a + 22 + k) (by omega))
    have hR := hR.kp (ho _ (by omega))
    have hD := hD.kp (fun k hk => ho (a + 25 + k) (by omega))
    have hq : ∀ i, i < k → ST G (fun j => a + 43 + 18 * i + j) iniT H := fun i hi => (hq i hi).kp (fun k hk => ho (a + 43 + 18 * i + k) (by omega))
    have hQ := hQ.kp (fun j hj => ho (a + 43 + 18 * k + j) (by omega))
    refine lv_iinc (pc := 82) (v := iI (((k + 1 : Nat)) : Int)) (lv' := [(1, .int (iI ((k + 1 : Nat) : Int))), (0, .ref a)]) E.1 E.2 dX7_init_82 hl (k := 0) rfl (iI_add _ _) (by decide) rfl (fun ls hl => ?_)
    refine lv_goto (pc := 85) (tgt := 63) E.1 E.2 dX7_init_85 (by decide) ?_
    refine W.widen (k := 42 + 18 * (k + 1)) (n := 2567 + 374 * (k + 1)) (by omega) (by omega) ?_
    refine ih (k + 1) (by omega) H locs ⟨hO, by omega, hNo, ?_, hTx, hWr, hR, hD, fun i hi => ?_⟩ hS ls hl kk
    · have e : (fun j => if j = ((k : Int)).toNat then some (a + 43 + 18 * k) else if j < k then some (a + 43 + 18 * j) else none) = (fun j => if j < k + 1 then some (a + 43 + 18 * j) else none) := by
        funext j
        rw [Int.toNat_natCast]
        by_cases h1 : j = k
        · subst h1; rw [if_pos rfl, if_pos (by omega)]
        · rw [if_neg h1]; by_cases h2 : j < k
          · rw [if_pos h2, if_pos (by omega)]
          · rw [if_neg h2, if_neg (by omega)]
      rw [← e]; exact hP
    · by_cases h1 : i = k
      · subst h1; exact hQ
      · exact hq i (by omega)
set_option maxHeartbeats 1000000 in
set_option maxRecDepth 100000 in
theorem mX7_init (lL : Launch) (G : GG) (a : Nat) : Met lL yX7_init wsX7_init ({ frames := 8, cells := 186, slots := 5559, locals := 200 } : Room) (va_Pc [.ref a] (fun U => (oB G 7 a [.null, .null, .int (iI 0), .int (iI 0), .null, .null, .null] U.heap ∧ U.heap.size = a + 1) ∧ KK G U ∧ va_AO RX6 U)) (va_Qv (fun _ : Unit => True) (fun _ tZ => QT G (qo a) nuI iniT (fun _ => iniT) iniT (fun _ => 0) (fun _ => 0) tZ.heap ∧ tZ.heap.size = a + 187) (fun q : Nat => a ≤ q)) 186 5559 (fun q : Nat => a ≤ q) := by
  refine z_metIO (P := fun H : Heap => oB G 7 a [.null, .null, .int (iI 0), .int (iI 0), .null, .null, .null] H ∧ H.size = a + 1) (by decide) rfl rfl (Nat.le_of_ble_eq_true rfl) (fun pp ee ss mm below meth cC E hr hml hown hts hlocks hmn hP hK hAO ls hl => ?_)
  have hl : lv_has ls 2 [(0, .ref a)] := hl
  obtain ⟨hO, hz⟩ := hP
  have hS : va_S (fun q : Nat => a ≤ q) ss.heap ss.heap [] := va_S.rf
  have hin1 : ∀ w ∈ wsX10, w ∈ wsX7_init := fun w h => List.mem_cons_of_mem _ (List.mem_append_left _ (List.mem_append_left _ (List.mem_append_left _ (List.mem_append_left _ (List.mem_append_left _ (List.mem_append_right _ (h)))))))
  have hin5 : ∀ w ∈ wsX50, w ∈ wsX7_init := fun w h => List.mem_cons_of_mem _ (List.mem_append_left _ (List.mem_append_left _ (List.mem_append_left _ (List.mem_append_left _ (List.mem_append_right _ (h))))))
  have hin6 : ∀ w ∈ wsX60, w ∈ wsX7_init := fun w h => List.mem_cons_of_mem _ (List.mem_append_left _ (List.mem_append_left _ (List.mem_append_left _ (List.mem_append_left _ (List.mem_append_left _ (List.mem_append_left _ (List.mem_append_left _ (List.mem_append_right _ (h)))))))))
  have hin7 : ∀ w ∈ wsX70, w ∈ wsX7_init := fun w h => List.mem_cons_of_mem _ (List.mem_append_left _ (List.mem_append_left _ (List.mem_append_left _ (List.mem_append_left _ (List.mem_append_left _ (List.mem_append_left _ (List.mem_append_right _ (h))))))))
  refine lv_aload_n (pc := 0) E.1 E.2 dX7_init_0 rfl (lv_at hl 0 rfl) ?_
  refine W.objInit E.1 E.2 hown (hts _ (List.mem_of_getElem? (i := 1) rfl)) (hts _ (List.mem_of_getElem? (i := 2) rfl)) (hts _ (List.mem_of_getElem? (i := 3) rfl)) rfl (hl.1.trans hml.symm) rfl dX7_init_1 (Nat.le_of_ble_eq_true rfl) (Nat.le_of_ble_eq_true rfl) ?_
  refine W.eq (g2 := F0 mm 4 ls []) rfl ?_
  refine lv_aload_n (pc := 4) E.1 E.2 dX7_init_4 rfl (lv_at hl 0 rfl) ?_
  refine z_new (pc := 5) E hts hin6 tyX6 tyX6_ok hown (hts _ (List.mem_of_getElem? (i := 4) rfl)) (hts _ (List.mem_of_getElem? (i := 5) rfl)) (hts _ (List.mem_of_getElem? (i := 6) rfl)) hK hS (ci := 6) rfl bl6 (Nat.le_of_ble_eq_true rfl) (Nat.le_of_ble_eq_true rfl) dX7_init_5 hz (fun H hN hz ho hS => ?_)
  have hO := hO.kp (ho _ (by omega))
  have hz : H.size = a + 2 := hz
  refine lv_dup (pc := 8) E.1 E.2 dX7_init_8 rfl ?_
  refine z_wIN (pc := 9) (P := fun H : Heap => oB G 6 (a + 1) [.null, .null, .null, .null, .int (iI 0), .int (iI 0)] H ∧ H.size = a + 1 + 1) (P1 := fun H : Heap => ST G (fun k => a + 1 + k) iniT H ∧ H.size = a + 1 + 18) (As := []) (rest := [.ref (a + 1), .ref a]) E hml hown hts (mX6_init lL G (a + 1)) ⟨va_cnB 0 hts gX7_init_X6_init_n11 rfl rfl rfl hK.2.1 (hts _ (List.mem_of_getElem? (i := 6) rfl)) vdX6_init.2 ⟨Nat.le_of_ble_eq_true rfl, Nat.le_of_ble_eq_true rfl⟩, rfl, (hts _ (List.mem_of_getElem? (i := 18) rfl))⟩ ⟨hN, hz⟩ hK hS (fun q h => Nat.le_trans (Nat.le_add_right _ _) h) rfl hl.1 rfl dX7_init_9 ⟨Nat.le_of_ble_eq_true rfl, Nat.le_of_ble_eq_true rfl⟩ (Nat.le_of_ble_eq_true rfl) (fun H locs hP1 hsz hoth hS => ?_)
  have ho : ∀ q, q < a + 1 → H[q]? = _ := fun q hq => hoth q (by omega) (by show ¬ (a + 1 ≤ q); omega)
  obtain ⟨hNo, hz⟩ := hP1
  have hz : H.size = a + 19 := hz
  have hO := hO.kp (ho _ (by omega))
  refine z_putF (pc := 12) E hts hin7 tyX7 tyX7_ok nmX7 hown hK hO rfl hS (Nat.le_refl _) 0 (by decide) (hts _ (List.mem_of_getElem? (i := 7) rfl)) rfl hmn rfl (tyX7_ok 0 (by decide)) rfl rfl (Nat.le_of_ble_eq_true rfl) dX7_init_12 (fun H locs hO ho hzz hS => ?_)
  have hO : oB G 7 a [.ref (a + 1), .null, .int (iI 0), .int (iI 0), .null, .null, .null] H := hO
  have hz := hzz.trans hz
  have hNo := hNo.kp (fun k hk => ho (a + 1 + k) (by omega))
  refine lv_aload_n (pc := 15) E.1 E.2 dX7_init_15 rfl (lv_at hl 0 rfl) ?_
  refine z_bipush (pc := 16) E (by decide) dX7_init_16 ?_
  refine z_newS (pc := 18) E hown (hts _ (List.mem_of_getElem? (i := 4) rfl)) hAO hK hS (Nat.le_of_ble_eq_true rfl) (Nat.le_of_ble_eq_true rfl) dX7_init_18 hz (fun H hP hz ho hS => ?_)
  have hO := hO.kp (ho _ (by omega))
  have hNo := hNo.kp (fun k hk => ho (a + 1 + k) (by omega))
  have hz : H.size = a + 20 := hz
  refine z_putF (pc := 21) E hts hin7 tyX7 tyX7_ok nmX7 hown hK hO rfl hS (Nat.le_refl _) 1 (by decide) (hts _ (List.mem_of_getElem? (i := 8) rfl)) rfl hmn rfl (tyX7_ok 1 (by decide)) rfl rfl (Nat.le_of_ble_eq_true rfl) dX7_init_21 (fun H locs hO ho hzz hS => ?_)
  have hO : oB G 7 a [.ref (a + 1), .ref (a + 19), .int (iI 0), .int (iI 0), .null, .null, .null] H := hO
  have hz := hzz.trans hz
  have hNo := hNo.kp (fun k hk => ho (a + 1 + k) (by omega))
  have hP := hP.kp (ho _ (by omega))
  refine lv_aload_n (pc := 24) E.1 E.2 dX7_init_24 rfl (lv_at hl 0 rfl) ?_
  refine z_new (pc := 25) E hts hin1 tyX1 tyX1_ok hown (hts _ (List.mem_of_getElem? (i := 9) rfl)) (hts _ (List.mem_of_getElem? (i := 10) rfl)) (hts _ (List.mem_of_getElem? (i := 11) rfl)) hK hS (ci := 1) rfl bl1 (Nat.le_of_ble_eq_true rfl) (Nat.le_of_ble_eq_true rfl) dX7_init_25 hz (fun H hN hz ho hS => ?_)
  have hO := hO.kp (ho _ (by omega))
  have hNo := hNo.kp (fun k hk => ho (a + 1 + k) (by omega))
  have hP := hP.kp (ho _ (by omega))
  have hz : H.size = a + 21 := hz
  refine lv_dup (pc := 28) E.1 E.2 dX7_init_28 rfl ?_
  refine z_wIN (pc := 29) (P := fun H : Heap => oB G 1 (a + 20) [.null, .int (iI 0)] H ∧ H.size = a + 20 + 1) (P1 := fun H : Heap => BYr G (fun k => a + 20 + k) [.ref (a + 20 + 1), .int (iI 0)] (fun _ => 0) H ∧ H.size = a + 20 + 2) (As := []) (rest := [.ref (a + 20), .ref a]) E hml hown hts (mX1_init lL G (a + 20)) ⟨va_cnB 0 hts gX7_init_X1_init_n22 rfl rfl rfl hK.2.2.1 (hts _ (List.mem_of_getElem? (i := 11) rfl)) vdX1_init.2 ⟨Nat.le_of_ble_eq_true rfl, Nat.le_of_ble_eq_true rfl⟩, rfl, (hts _ (List.mem_of_getElem? (i := 77) rfl))⟩ ⟨hN, hz⟩ hK hS (fun q h => Nat.le_trans (Nat.le_add_right _ _) h) rfl hl.1 rfl dX7_init_29 ⟨Nat.le_of_ble_eq_true rfl, Nat.le_of_ble_eq_true rfl⟩ (Nat.le_of_ble_eq_true rfl) (fun H locs hP1 hsz hoth hS => ?_)
  have ho : ∀ q, q < a + 20 → H[q]? = _ := fun q hq => hoth q (by omega) (by show ¬ (a + 20 ≤ q); omega)
  obtain ⟨hTx, hz⟩ := hP1
  have hz : H.size = a + 22 := hz
  have hO := hO.kp (ho _ (by omega))
  have hNo := hNo.kp (fun k hk => ho (a + 1 + k) (by omega))
  have hP := hP.kp (ho _ (by omega))
  refine z_putF (pc := 32) E hts hin7 tyX7 tyX7_ok nmX7 hown hK hO rfl hS (Nat.le_refl _) 4 (by decide) (hts _ (List.mem_of_getElem? (i := 12) rfl)) rfl hmn rfl (tyX7_ok 4 (by decide)) rfl rfl (Nat.le_of_ble_eq_true rfl) dX7_init_32 (fun H locs hO ho hzz hS => ?_)
  have hO : oB G 7 a [.ref (a + 1), .ref (a + 19), .int (iI 0), .int (iI 0), .ref (a + 20), .null, .null] H := hO
  have hz := hzz.trans hz
  have hNo := hNo.kp (fun k hk => ho (a + 1 + k) (by omega))
  have hP := hP.kp (ho _ (by omega))
  have hTx := hTx.kp (fun k hk => ho (a + 20 + k) (by omega))
  refine lv_aload_n (pc := 35) E.1 E.2 dX7_init_35 rfl (lv_at hl 0 rfl) ?_
  refine z_new (pc := 36) E hts hin1 tyX1 tyX1_ok hown (hts _ (List.mem_of_getElem? (i := 9) rfl)) (hts _ (List.mem_of_getElem? (i := 10) rfl)) (hts _ (List.mem_of_getElem? (i := 11) rfl)) hK hS (ci := 1) rfl bl1 (Nat.le_of_ble_eq_true rfl) (Nat.le_of_ble_eq_true rfl) dX7_init_36 hz (fun H hN hz ho hS => ?_)
  have hO := hO.kp (ho _ (by omega))
  have hNo := hNo.kp (fun k hk => ho (a + 1 + k) (by omega))
  have hP := hP.kp (ho _ (by omega))
  have hTx := hTx.kp (fun k hk => ho (a + 20 + k) (by omega))
  have hz : H.size = a + 23 := hz
  refine lv_dup (pc := 39) E.1 E.2 dX7_init_39 rfl ?_
  refine z_wIN (pc := 40) (P := fun H : Heap => oB G 1 (a + 22) [.null, .int (iI 0)] H ∧ H.size = a + 22 + 1) (P1 := fun H : Heap => BYr G (fun k => a + 22 + k) [.ref (a + 22 + 1), .int (iI 0)] (fun _ => 0) H ∧ H.size = a + 22 + 2) (As := []) (rest := [.ref (a + 22), .ref a]) E hml hown hts (mX1_init lL G (a + 22)) ⟨va_cnB 0 hts gX7_init_X1_init_n22 rfl rfl rfl hK.2.2.1 (hts _ (List.mem_of_getElem? (i := 11) rfl)) vdX1_init.2 ⟨Nat.le_of_ble_eq_true rfl, Nat.le_of_ble_eq_true rfl⟩, rfl, (hts _ (List.mem_of_getElem? (i := 77) rfl))⟩ ⟨hN, hz⟩ hK hS (fun q h => Nat.le_trans (Nat.le_add_right _ _) h) rfl hl.1 rfl dX7_init_40 ⟨Nat.le_of_ble_eq_true rfl, Nat.le_of_ble_eq_true rfl⟩ (Nat.le_of_ble_eq_true rfl) (fun H locs hP1 hsz hoth hS => ?_)
  have ho : ∀ q, q < a + 22 → H[q]? = _ := fun q hq => hoth q (by omega) (by show ¬ (a + 22 ≤ q); omega)
  obtain ⟨hWr, hz⟩ := hP1
  have hz : H.size = a + 24 := hz
  have hO := hO.kp (ho _ (by omega))
  have hNo := hNo.kp (fun k hk => ho (a + 1 + k) (by omega))
  have hP := hP.kp (ho _ (by omega))
  have hTx := hTx.kp (fun k hk => ho (a + 20 + k) (by omega))
  refine z_putF (pc := 43) E hts hin7 tyX7 tyX7_ok nmX7 hown hK hO rfl hS (Nat.le_refl _) 5 (by decide) (hts _ (List.mem_of_getElem? (i := 13) rfl)) rfl hmn rfl (tyX7_ok 5 (by decide)) rfl rfl (Nat.le_of_ble_eq_true rfl) dX7_init_43 (fun H locs hO ho hzz hS => ?_)
  have hO : oB G 7 a [.ref (a + 1), .ref (a + 19), .int (iI 0), .int (iI 0), .ref (a + 20), .ref (a + 22), .null] H := hO
  have hz := hzz.trans hz
  have hNo := hNo.kp (fun k hk => ho (a + 1 + k) (by omega))
  have hP := hP.kp (ho _ (by omega))
  have hTx := hTx.kp (fun k hk => ho (a + 20 + k) (by omega))
  have hWr := hWr.kp (fun k hk => ho (a + 22 + k) (by omega))
  refine lv_aload_n (pc := 46) E.1 E.2 dX7_init_46 rfl (lv_at hl 0 rfl) ?_
  refine z_new (pc := 47) E hts hin5 tyX5 tyX5_ok hown (hts _ (List.mem_of_getElem? (i := 14) rfl)) (hts _ (List.mem_of_getElem? (i := 15) rfl)) (hts _ (List.mem_of_getElem? (i := 16) rfl)) hK hS (ci := 5) rfl bl5 (Nat.le_of_ble_eq_true rfl) (Nat.le_of_ble_eq_true rfl) dX7_init_47 hz (fun H hN hz ho hS => ?_)
  have hO := hO.kp (ho _ (by omega))
  have hNo := hNo.kp (fun k hk => ho (a + 1 + k) (by omega))
  have hP := hP.kp (ho _ (by omega))
  have hTx := hTx.kp (fun k hk => ho (a + 20 + k) (by omega))
  have hWr := hWr.kp (fun k hk => ho (a + 22 + k) (by omega))
  have hz : H.size = a + 25 := hz
  refine lv_dup (pc := 50) E.1 E.2 dX7_init_50 rfl ?_
  refine lv_aload_n (pc := 51) E.1 E.2 dX7_init_51 rfl (lv_at hl 0 rfl) ?_
  refine g7_4 (pc := 52) E hts hin7 hown hK hO (hts _ (List.mem_of_getElem? (i := 12) rfl)) dX7_init_52 ?_
  refine z_wI (pc := 55) (P := fun H : Heap => oB G 5 (a + 24) [.null, .int (iI 0), .int (iI 0), .null, .int (iI 0), .int (iI 0), .int (iI 0)] H ∧ H.size = a + 24 + 1 ∧ oB G 1 (a + 20) [.ref (a + 21), .int (iI 0)] H ∧ a + 20 < a + 24) (P1 := fun H : Heap => oB G 5 (a + 24) [.ref (a + 25), .int (iI 0), .int (iI (-1)), .ref (a + 21), .int (iI 0), .int (iI 0), .int (iI 0)] H ∧ ST G (fun k => a + 25 + k) iniT H ∧ H.size = a + 24 + 19) (As := [.ref (a + 20)]) (rest := [.ref (a + 24), .ref a]) E hml hown hts (mX5_init lL G (a + 24) (a + 20) (a + 21) (.int (iI 0))) (cwI 1 hts gX7_init_X5_init rfl rfl rfl (hts _ (List.mem_of_getElem? (i := 16) rfl)) (hts _ (List.mem_of_getElem? (i := 82) rfl)) (hts _ (List.mem_of_getElem? (i := 83) rfl)) rfl vdX5_init.2 ⟨Nat.le_of_ble_eq_true rfl, Nat.le_of_ble_eq_true rfl⟩) ⟨hN, hz, hTx.1, by omega⟩ hK hS (fun q h => Nat.le_trans (Nat.le_add_right _ _) h) rfl hl.1 rfl dX7_init_55 ⟨Nat.le_of_ble_eq_true rfl, Nat.le_of_ble_eq_true rfl⟩ (Nat.le_of_ble_eq_true rfl) (fun H locs hP1 hsz hoth hS => ?_)
  have ho : ∀ q, q < a + 24 → H[q]? = _ := fun q hq => hoth q (by omega) (by show ¬ (a + 24 ≤ q); omega)
  obtain ⟨hR, hD, hz⟩ := hP1
  have hz : H.size = a + 43 := hz
  have hO := hO.kp (ho _ (by omega))
  have hNo := hNo.kp (fun k hk => ho (a + 1 + k) (by omega))
  have hP := hP.kp (ho _ (by omega))
  have hTx := hTx.kp (fun k hk => ho (a + 20 + k) (by omega))
  have hWr := hWr.kp (fun k hk => ho (a + 22 + k) (by omega))
  refine z_putF (pc := 58) E hts hin7 tyX7 tyX7_ok nmX7 hown hK hO rfl hS (Nat.le_refl _) 6 (by decide) (hts _ (List.mem_of_getElem? (i := 17) rfl)) rfl hmn rfl (tyX7_ok 6 (by decide)) rfl rfl (Nat.le_of_ble_eq_true rfl) dX7_init_58 (fun H locs hO ho hzz hS => ?_)
  have hO : oB G 7 a [.ref (a + 1), .ref (a + 19), .int (iI 0), .int (iI 0), .ref (a + 20), .ref (a + 22), .ref (a + 24)] H := hO
  have hz := hzz.trans hz
  have hNo := hNo.kp (fun k hk => ho (a + 1 + k) (by omega))
  have hP := hP.kp (ho _ (by omega))
  have hTx := hTx.kp (fun k hk => ho (a + 20 + k) (by omega))
  have hWr := hWr.kp (fun k hk => ho (a + 22 + k) (by omega))
  have hR := hR.kp (ho _ (by omega))
  have hD := hD.kp (fun k hk => ho (a + 25 + k) (by omega))
  refine z_iconst (pc := 61) E dX7_init_61 ?_
  refine lv_istore_n (pc := 62) (lv' := [(1, .int (iI 0)), (0, .ref a)]) E.1 E.2 dX7_init_62 rfl hl (by decide) rfl (fun ls hl => ?_)
  have hP : aSo G (a + 19) 8 (fun j => if j < 0 then some (a + 43 + 18 * j) else none) H := by simpa only [Nat.not_lt_zero, if_false] using hP
  refine x7_lp lL G a E hml hown hts hK 8 0 rfl H locs ⟨hO, hz, hNo, hP, hTx, hWr, hR, hD, fun i hi => absurd hi (Nat.not_lt_zero _)⟩ hS ls hl (fun H locs ls hJ hS hl => ?_)
  exact z_retC (P1 := fun H : Heap => QT G (qo a) nuI iniT (fun _ => iniT) iniT (fun _ => 0) (fun _ => 0) H ∧ H.size = a + 187) E hr hJ.done hS hlocks dX7_init_88
