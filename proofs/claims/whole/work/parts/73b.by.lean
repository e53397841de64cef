theorem vdX1_putName : yX1_putName.cls = RX1 ∧ yX1_putName.cls ≠ "java/lang/invoke/MethodHandle" ∧ yX1_putName.cls ≠ "java/lang/invoke/VarHandle" ∧ (parseMethodDescriptor yX1_putName.desc).map (fun d => d.parameters.length) = some 1 := by decide +kernel
theorem vdX1_putNumber : yX1_putNumber.cls = RX1 ∧ yX1_putNumber.cls ≠ "java/lang/invoke/MethodHandle" ∧ yX1_putNumber.cls ≠ "java/lang/invoke/VarHandle" ∧ (parseMethodDescriptor yX1_putNumber.desc).map (fun d => d.parameters.length) = some 1 := by decide +kernel
theorem vdX1_byteAt : yX1_byteAt.cls = RX1 ∧ yX1_byteAt.cls ≠ "java/lang/invoke/MethodHandle" ∧ yX1_byteAt.cls ≠ "java/lang/invoke/VarHandle" ∧ (parseMethodDescriptor yX1_byteAt.desc).map (fun d => d.parameters.length) = some 1 := by decide +kernel
theorem vdX7_writePath : yX7_writePath.cls = RX7 ∧ yX7_writePath.cls ≠ "java/lang/invoke/MethodHandle" ∧ yX7_writePath.cls ≠ "java/lang/invoke/VarHandle" ∧ (parseMethodDescriptor yX7_writePath.desc).map (fun d => d.parameters.length) = some 1 := by decide +kernel
theorem vdX7_putAccount : yX7_putAccount.cls = RX7 ∧ yX7_putAccount.cls ≠ "java/lang/invoke/MethodHandle" ∧ yX7_putAccount.cls ≠ "java/lang/invoke/VarHandle" ∧ (parseMethodDescriptor yX7_putAccount.desc).map (fun d => d.parameters.length) = some 2 := by decide +kernel
theorem vdX7_writeAccounts : yX7_writeAccounts.cls = RX7 ∧ yX7_writeAccounts.cls ≠ "java/lang/invoke/MethodHandle" ∧ yX7_writeAccounts.cls ≠ "java/lang/invoke/VarHandle" ∧ (parseMethodDescriptor yX7_writeAccounts.desc).map (fun d => d.parameters.length) = some 1 := by decide +kernel
theorem vdX7_writtenByte : yX7_writtenByte.cls = RX7 ∧ yX7_writtenByte.cls ≠ "java/lang/invoke/MethodHandle" ∧ yX7_writtenByte.cls ≠ "java/lang/invoke/VarHandle" ∧ (parseMethodDescriptor yX7_writtenByte.desc).map (fun d => d.parameters.length) = some 1 := by decide +kernel
theorem vdX7_load : yX7_load.cls = RX7 ∧ yX7_load.cls ≠ "java/lang/invoke/MethodHandle" ∧ yX7_load.cls ≠ "java/lang/invoke/VarHandle" ∧ (parseMethodDescriptor yX7_load.desc).map (fun d => d.parameters.length) = some 1 := by decide +kernel
theorem vdX7_share : yX7_share.cls = RX7 ∧ yX7_share.cls ≠ "java/lang/invoke/MethodHandle" ∧ yX7_share.cls ≠ "java/lang/invoke/VarHandle" ∧ (parseMethodDescriptor yX7_share.desc).map (fun d => d.parameters.length) = some 2 := by decide +kernel
set_option maxHeartbeats 1000000 in
set_option maxRecDepth 100000 in
theorem mX1_putName (lL : Launch) (G : GG) (o : Nat → Nat) (m : Int) (τ : Int → Int) (x : Int) (hx : nmk x) (hm : 0 ≤ m ∧ m + 8 ≤ 900) : Met lL yX1_putName wsX1_putName ({ frames := 1, cells := 0, slots := 0, locals := 21 } : Room) (va_Pc [.ref (o 0), .long (iL x)] (fun U => BYr G o [.ref (o 1), .int (iI m)] τ U.heap ∧ KK G U)) (va_Qv (fun _ : Unit => True) (fun _ tZ => BYr G o [.ref (o 1), .int (iI (m + ((naL 7 x).length : Int)))] (ouA τ m (naL 7 x)) tZ.heap) (Ax o 2)) 0 0 (Ax o 2) := by
  refine z_met (P := (fun H : Heap => BYr G o [.ref (o 1), .int (iI m)] τ H)) (by decide) rfl (Nat.le_of_ble_eq_true rfl) (fun pp ee ss mm below meth cC E hr hml hown hts hlocks hM hK ls hl => ?_)
  have hl : lv_has ls 5 [(0, .ref (o 0)), (1, .long (iL x))] := hl
  have hcs : 0 ≤ (({ frames := 1, cells := 0, slots := 0, locals := 21 } : Room)).cells ∧ 0 ≤ (({ frames := 1, cells := 0, slots := 0, locals := 21 } : Room)).slots := ⟨Nat.zero_le _, Nat.zero_le _⟩
  have hS : va_S (Ax o 2) ss.heap ss.heap [] := va_S.rf
  have hxb := nmk_b hx
  refine z_bipush (pc := 0) E (by decide) dX1_putName_0 ?_
  refine lv_istore_n (pc := 2) (lv' := [(3, .int (iI 35)), (0, .ref (o 0)), (1, .long (iL x))]) E.1 E.2 dX1_putName_2 rfl hl (by decide) rfl (fun ls hl => ?_)
  suffices L3 : ∀ (nf : Nat), ∀ (s : Int) (d : Int), (0 ≤ d ∧ d ≤ 8) → (s = 35 - 5 * d) → ((8 - d).toNat) < nf → ∀  (H : Heap) (locs : List Loc), BYr G o [.ref (o 1), .int (iI (m + ((naS x d.toNat).length : Int)))] (ouA τ m (naS x d.toNat)) H → va_S (Ax o 2) ss.heap H locs → ∀ ls : Array Slot, lv_has ls 5 [(3, .int (iI s)), (0, .ref (o 0)), (1, .long (iL x))] → W pp lL ee ({ frames := 1, cells := 0, slots := 0, locals := 21 } : Room) ss mm [.ref (o 0), .long (iL x)].toArray below meth cC H locs 0 0 (MQ below (va_Qv (fun _ : Unit => True) (fun _ tZ => BYr G o [.ref (o 1), .int (iI (m + ((naL 7 x).length : Int)))] (ouA τ m (naL 7 x)) tZ.heap) (Ax o 2)) [.ref (o 0), .long (iL x)].toArray ss 0 0 (Ax o 2)) (F0 mm 3 ls []) from L3 _ 35 0 (by omega) (by omega) (Nat.lt_succ_self _)  _ _ (by rw [show naS x (0 : Int).toNat = [] from naS_0 hx]; show BYr G o [.ref (o 1), .int (iI (m + 0))] τ ss.heap; rw [Int.add_zero]; exact hM) hS ls (lv_sub hl [0, 1, 2] rfl)
  intro nfL3
  induction nfL3 with
  | zero => intro s d hd hs hmzL3; exact absurd hmzL3 (Nat.not_lt_zero _)
  | succ nfL3 ihL3 =>
    intro s d hd hs hmzL3  H locs hM hS ls hl
    refine lv_iload_n (pc := 3) E.1 E.2 dX1_putName_3 rfl (lv_at hl 0 rfl) ?_
    refine z_if_lt (pc := 4) (tgt := 39) E ⟨by omega, by omega⟩ dX1_putName_4 (by decide) (fun h4 => ?_) (fun h4 => ?_)
    · exact z_retWv E hr (by rw [show naS x d.toNat = naL 7 x by rw [show d.toNat = 8 by omega]; exact naS_8 hx] at hM; exact hM) hS hlocks dX1_putName_39
    · have hd7 : 0 ≤ d ∧ d ≤ 7 := by omega
      have hq := naS_s hx hd7
      have hl := hl
      have hlb := naS_l hx hd7
      refine lv_lload_n (pc := 7) E.1 E.2 dX1_putName_7 rfl (lv_at hl 2 rfl) ?_
      refine lv_iload_n (pc := 8) E.1 E.2 dX1_putName_8 rfl (lv_at hl 0 rfl) ?_
      refine z_lshr (pc := 9) (n := (35 - (5 * d)).toNat) E ⟨by omega, by omega⟩ (by rw [hs]; exact sh5 hd7) dX1_putName_9 ?_
      refine lv_ldc2 (pc := 10) (v := iL (31)) E.1 E.2 hown (show (Jvm.Cond.constantLong RX1 23 (iL (31))).before _ ss = true from (hts _ (List.mem_of_getElem? (i := 1) rfl))) dX1_putName_10 ?_
      refine z_land31 (pc := 13) E dX1_putName_13 ?_
      refine z_l2i (pc := 14) E dX1_putName_14 ?_
      refine lv_istore (pc := 15) (lv' := [(4, .int (iI ((x / ((2 ^ ((35 - (5 * d)).toNat) : Nat) : Int)) % 32))), (3, .int (iI s)), (0, .ref (o 0)), (1, .long (iL x))]) E.1 E.2 dX1_putName_15 hl (by decide) rfl (fun ls hl => ?_)
      refine lv_iload (pc := 17) E.1 E.2 dX1_putName_17 (lv_at hl 0 rfl) ?_
      refine z_if_le (pc := 19) (tgt := 33) E ⟨by omega, by omega⟩ dX1_putName_19 (by decide) (fun h19 => ?_) (fun h19 => ?_)
      · have hno := hq.2 (by omega)
        refine lv_iinc (pc := 33) (v := iI (s + (-5))) (lv' := [(3, .int (iI (s + (-5)))), (4, .int (iI ((x / ((2 ^ ((35 - (5 * d)).toNat) : Nat) : Int)) % 32))), (0, .ref (o 0)), (1, .long (iL x))]) E.1 E.2 dX1_putName_33 hl (k := 1) rfl (iI_add _ _) (by decide) rfl (fun ls hl => ?_)
        refine lv_goto (pc := 36) (tgt := 3) E.1 E.2 dX1_putName_36 (by decide) ?_
        exact ihL3 (s + (-5)) (d + 1) (by omega) (by omega) (by omega)  _ _ (by rw [hno]; exact hM) hS ls (lv_sub hl [0, 2, 3] rfl)
      · have hns := hq.1 (by omega)
        refine lv_aload_n (pc := 22) E.1 E.2 dX1_putName_22 rfl (lv_at hl 2 rfl) ?_
        refine z_bipush (pc := 23) E (by decide) dX1_putName_23 ?_
        refine lv_iload (pc := 25) E.1 E.2 dX1_putName_25 (lv_at hl 0 rfl) ?_
        refine z_iadd (pc := 27) E dX1_putName_27 ?_
        refine z_iconst (pc := 28) E dX1_putName_28 ?_
        refine z_isub (pc := 29) E dX1_putName_29 ?_
        refine z_wVv (pc := 30) (As := [.int (iI ((97 + ((x / ((2 ^ ((35 - (5 * d)).toNat) : Nat) : Int)) % 32)) - 1))]) (rest := []) E hml hown hts (mX1_put lL G o (m + ((naS x d.toNat).length : Int)) (ouA τ m (naS x d.toNat)) ((97 + ((x / ((2 ^ ((35 - (5 * d)).toNat) : Nat) : Int)) % 32)) - 1) (by omega) (by omega)) (cwV 1 hts gX1_putName_X1_put rfl rfl rfl vdX1_put ⟨Nat.le_of_ble_eq_true rfl, Nat.le_of_ble_eq_true rfl⟩) (oB.recv hK hM.1 rfl) hM hK hS (fun _ h => h) rfl hl.1 rfl dX1_putName_30 hcs (Nat.le_of_ble_eq_true rfl) (fun H locs hnew hsz hoth hS => ?_)
        have hM := hnew
        have hM : BYr G o [.ref (o 1), .int (iI (m + ((naS x (d + 1).toNat).length : Int)))] (ouA τ m (naS x (d + 1).toNat)) H := by rw [hns.2, ← ouA_2, ← ouA_l2]; rw [show sg8 (97 + ((x / ((2 ^ (35 - (5 * d)).toNat : Nat) : Int)) % 32) - 1) = 96 + ((x / ((2 ^ (35 - (5 * d)).toNat : Nat) : Int)) % 32) from sg8_lo (by omega) (by omega)] at hM; exact hM
        refine lv_iinc (pc := 33) (v := iI (s + (-5))) (lv' := [(3, .int (iI (s + (-5)))), (4, .int (iI ((x / ((2 ^ ((35 - (5 * d)).toNat) : Nat) : Int)) % 32))), (0, .ref (o 0)), (1, .long (iL x))]) E.1 E.2 dX1_putName_33 hl (k := 1) rfl (iI_add _ _) (by decide) rfl (fun ls hl => ?_)
        refine lv_goto (pc := 36) (tgt := 3) E.1 E.2 dX1_putName_36 (by decide) ?_
        exact ihL3 (s + (-5)) (d + 1) (by omega) (by omega) (by omega)  _ _ hM hS ls (lv_sub hl [0, 2, 3] rfl)
set_option maxHeartbeats 1000000 in
set_option maxRecDepth 100000 in
theorem mX1_putNumber (lL : Launch) (G : GG) (o : Nat → Nat) (m : Int) (τ : Int → Int) (v : Int) (hv : 0 ≤ v ∧ v < 2147483648) (hm : 0 ≤ m ∧ m + 10 ≤ 900) : Met lL yX1_putNumber wsX1_putNumber ({ frames := 1, cells := 0, slots := 0, locals := 21 } : Room) (va_Pc [.ref (o 0), .int (iI v)] (fun U => BYr G o [.ref (o 1), .int (iI m)] τ U.heap ∧ KK G U)) (va_Qv (fun _ : Unit => True) (fun _ tZ => BYr G o [.ref (o 1), .int (iI (m + ((nuL 9 v).length : Int)))] (ouA τ m (nuL 9 v)) tZ.heap) (Ax o 2)) 0 0 (Ax o 2) := by
  refine z_met (P := (fun H : Heap => BYr G o [.ref (o 1), .int (iI m)] τ H)) (by decide) rfl (Nat.le_of_ble_eq_true rfl) (fun pp ee ss mm below meth cC E hr hml hown hts hlocks hM hK ls hl => ?_)
  have hl : lv_has ls 5 [(0, .ref (o 0)), (1, .int (iI v))] := hl
  have hcs : 0 ≤ (({ frames := 1, cells := 0, slots := 0, locals := 21 } : Room)).cells ∧ 0 ≤ (({ frames := 1, cells := 0, slots := 0, locals := 21 } : Room)).slots := ⟨Nat.zero_le _, Nat.zero_le _⟩
  have hS : va_S (Ax o 2) ss.heap ss.heap [] := va_S.rf
  refine z_iconst (pc := 0) E dX1_putNumber_0 ?_
  refine lv_istore_n (pc := 1) (lv' := [(2, .int (iI 0)), (0, .ref (o 0)), (1, .int (iI v))]) E.1 E.2 dX1_putNumber_1 rfl hl (by decide) rfl (fun ls hl => ?_)
  refine lv_ldc (pc := 2) (v := iI (1000000000)) E.1 E.2 hown (show (Jvm.Cond.constant RX1 25 (iI (1000000000))).before _ ss = true from (hts _ (List.mem_of_getElem? (i := 1) rfl))) dX1_putNumber_2 ?_
  refine lv_istore_n (pc := 4) (lv' := [(3, .int (iI 1000000000)), (2, .int (iI 0)), (0, .ref (o 0)), (1, .int (iI v))]) E.1 E.2 dX1_putNumber_4 rfl hl (by decide) rfl (fun ls hl => ?_)
  suffices L5 : ∀ (nf : Nat), ∀ (b u : Int), (u = 0 ∨ P10 u) → (b = 0 ∨ b = 1) → (0 < u → (b = 1 ↔ 0 < v / (10 * u))) → (0 ≤ u ∧ u ≤ 1000000000) → (u.toNat) < nf → ∀  (H : Heap) (locs : List Loc), BYr G o [.ref (o 1), .int (iI (m + ((pnL u v).length : Int)))] (ouA τ m (pnL u v)) H → va_S (Ax o 2) ss.heap H locs → ∀ ls : Array Slot, lv_has ls 5 [(3, .int (iI u)), (2, .int (iI b)), (0, .ref (o 0)), (1, .int (iI v))] → W pp lL ee ({ frames := 1, cells := 0, slots := 0, locals := 21 } : Room) ss mm [.ref (o 0), .int (iI v)].toArray below meth cC H locs 0 0 (MQ below (va_Qv (fun _ : Unit => True) (fun _ tZ => BYr G o [.ref (o 1), .int (iI (m + ((nuL 9 v).length : Int)))] (ouA τ m (nuL 9 v)) tZ.heap) (Ax o 2)) [.ref (o 0), .int (iI v)].toArray ss 0 0 (Ax o 2)) (F0 mm 5 ls []) from L5 _ 0 1000000000 (Or.inr (Or.inl rfl)) (Or.inl rfl) (fun _ => by omega) (by omega) (Nat.lt_succ_self _)  _ _ (by rw [show pnL 1000000000 v = [] by unfold pnL nuZ; rw [if_neg (by decide), if_pos (by omega)]]; show BYr G o [.ref (o 1), .int (iI (m + 0))] τ ss.heap; rw [Int.add_zero]; exact hM) hS ls (lv_sub hl [0, 1, 2, 3] rfl)
  intro nfL5
  induction nfL5 with
  | zero => intro b u hu hb hbe hur hmzL5; exact absurd hmzL5 (Nat.not_lt_zero _)
  | succ nfL5 ihL5 =>
    intro b u hu hb hbe hur hmzL5  H locs hM hS ls hl
    have hpl := pnL_l (u := u) (v := v) hu hv.1 hv.2
    refine lv_iload_n (pc := 5) E.1 E.2 dX1_putNumber_5 rfl (lv_at hl 0 rfl) ?_
    refine z_if_le (pc := 6) (tgt := 58) E ⟨by omega, by omega⟩ dX1_putNumber_6 (by decide) (fun h6 => ?_) (fun h6 => ?_)
    · exact z_retWv E hr (by rw [show pnL u v = nuL 9 v from if_pos (by omega)] at hM; exact hM) hS hlocks dX1_putNumber_58
    · have hP : P10 u := hu.resolve_left (by omega)
      have hbe2 := hbe (by omega)
      have hq0 : 0 ≤ v / u := Int.ediv_nonneg (by omega) (by omega)
      have hq1 : v / u ≤ v := Int.ediv_le_self u (by omega)
      refine lv_iload_n (pc := 9) E.1 E.2 dX1_putNumber_9 rfl (lv_at hl 3 rfl) ?_
      refine lv_iload_n (pc := 10) E.1 E.2 dX1_putNumber_10 rfl (lv_at hl 0 rfl) ?_
      refine z_idivN (pc := 11) E ⟨by omega, by omega⟩ ⟨by omega, by omega⟩ dX1_putNumber_11 ?_
      refine z_bipush (pc := 12) E (by decide) dX1_putNumber_12 ?_
      refine z_iremN (pc := 14) E ⟨by omega, by omega⟩ ⟨by omega, by omega⟩ dX1_putNumber_14 ?_
      refine lv_istore (pc := 15) (lv' := [(4, .int (iI ((v / u) % 10))), (3, .int (iI u)), (2, .int (iI b)), (0, .ref (o 0)), (1, .int (iI v))]) E.1 E.2 dX1_putNumber_15 hl (by decide) rfl (fun ls hl => ?_)
      refine lv_iload_n (pc := 17) E.1 E.2 dX1_putNumber_17 rfl (lv_at hl 2 rfl) ?_
      refine z_if_ne (pc := 18) (tgt := 31) E ⟨by omega, by omega⟩ dX1_putNumber_18 (by decide) (fun h18 => ?_) (fun h18 => ?_)
      · refine z_iconst (pc := 31) E dX1_putNumber_31 ?_
        refine lv_goto (pc := 32) (tgt := 36) E.1 E.2 dX1_putNumber_32 (by decide) ?_
        refine lv_istore_n (pc := 36) (lv' := [(2, .int (iI 1)), (4, .int (iI ((v / u) % 10))), (3, .int (iI u)), (0, .ref (o 0)), (1, .int (iI v))]) E.1 E.2 dX1_putNumber_36 rfl hl (by decide) rfl (fun ls hl => ?_)
        refine lv_iload_n (pc := 37) E.1 E.2 dX1_putNumber_37 rfl (lv_at hl 0 rfl) ?_
        refine z_if_eq (pc := 38) (tgt := 50) E (by decide) dX1_putNumber_38 (by decide) (fun h38 => ?_) (fun h38 => ?_)
        · exact absurd h38 (by decide)
        · refine lv_aload_n (pc := 41) E.1 E.2 dX1_putNumber_41 rfl (lv_at hl 3 rfl) ?_
          refine z_bipush (pc := 42) E (by decide) dX1_putNumber_42 ?_
          refine lv_iload (pc := 44) E.1 E.2 dX1_putNumber_44 (lv_at hl 1 rfl) ?_
          refine z_iadd (pc := 46) E dX1_putNumber_46 ?_
          refine z_wVv (pc := 47) (As := [.int (iI (48 + ((v / u) % 10)))]) (rest := []) E hml hown hts (mX1_put lL G o (m + ((pnL u v).length : Int)) (ouA τ m (pnL u v)) (48 + ((v / u) % 10)) (by omega) (by omega)) (cwV 1 hts gX1_putNumber_X1_put rfl rfl rfl vdX1_put ⟨Nat.le_of_ble_eq_true rfl, Nat.le_of_ble_eq_true rfl⟩) (oB.recv hK hM.1 rfl) hM hK hS (fun _ h => h) rfl hl.1 rfl dX1_putNumber_47 hcs (Nat.le_of_ble_eq_true rfl) (fun H locs hnew hsz hoth hS => ?_)
          have hM := hnew
          have hpy : pnL (u / 10) v = pnL u v ++ [48 + v / u % 10] := pn_y hP (by omega) (by omega) (by omega)
          have hM : BYr G o [.ref (o 1), .int (iI (m + ((pnL (u / 10) v).length : Int)))] (ouA τ m (pnL (u / 10) v)) H := by rw [hpy, ← ouA_2, ← ouA_l2]; rw [show sg8 (48 + v / u % 10) = 48 + v / u % 10 from sg8_lo (by omega) (by omega)] at hM; exact hM
          refine lv_iload_n (pc := 50) E.1 E.2 dX1_putNumber_50 rfl (lv_at hl 2 rfl) ?_
          refine z_bipush (pc := 51) E (by decide) dX1_putNumber_51 ?_
          refine z_idivN (pc := 53) E ⟨by omega, by omega⟩ ⟨by omega, by omega⟩ dX1_putNumber_53 ?_
          refine lv_istore_n (pc := 54) (lv' := [(3, .int (iI (u / 10))), (2, .int (iI 1)), (4, .int (iI ((v / u) % 10))), (0, .ref (o 0)), (1, .int (iI v))]) E.1 E.2 dX1_putNumber_54 rfl hl (by decide) rfl (fun ls hl => ?_)
          refine lv_goto (pc := 55) (tgt := 5) E.1 E.2 dX1_putNumber_55 (by decide) ?_
          exact ihL5 1 (u / 10) (P10_d hP) (by omega) (fun hz => by have hb9 := pn_b (v := v) hP (by omega) (by intro z; subst z; omega); have hbe9 := hbe (by omega); omega) (by omega) (by omega)  _ _ hM hS ls (lv_sub hl [0, 1, 3, 4] rfl)
      · refine lv_iload (pc := 21) E.1 E.2 dX1_putNumber_21 (lv_at hl 0 rfl) ?_
        refine z_if_gt (pc := 23) (tgt := 31) E ⟨by omega, by omega⟩ dX1_putNumber_23 (by decide) (fun h23 => ?_) (fun h23 => ?_)
        · refine z_iconst (pc := 31) E dX1_putNumber_31 ?_
          refine lv_goto (pc := 32) (tgt := 36) E.1 E.2 dX1_putNumber_32 (by decide) ?_
          refine lv_istore_n (pc := 36) (lv' := [(2, .int (iI 1)), (4, .int (iI ((v / u) % 10))), (3, .int (iI u)), (0, .ref (o 0)), (1, .int (iI v))]) E.1 E.2 dX1_putNumber_36 rfl hl (by decide) rfl (fun ls hl => ?_)
          refine lv_iload_n (pc := 37) E.1 E.2 dX1_putNumber_37 rfl (lv_at hl 0 rfl) ?_
          refine z_if_eq (pc := 38) (tgt := 50) E (by decide) dX1_putNumber_38 (by decide) (fun h38 => ?_) (fun h38 => ?_)
          · exact absurd h38 (by decide)
          · refine lv_aload_n (pc := 41) E.1 E.2 dX1_putNumber_41 rfl (lv_at hl 3 rfl) ?_
            refine z_bipush (pc := 42) E (by decide) dX1_putNumber_42 ?_
            refine lv_iload (pc := 44) E.1 E.2 dX1_putNumber_44 (lv_at hl 1 rfl) ?_
            refine z_iadd (pc := 46) E dX1_putNumber_46 ?_
            refine z_wVv (pc := 47) (As := [.int (iI (48 + ((v / u) % 10)))]) (rest := []) E hml hown hts (mX1_put lL G o (m + ((pnL u v).length : Int)) (ouA τ m (pnL u v)) (48 + ((v / u) % 10)) (by omega) (by omega)) (cwV 1 hts gX1_putNumber_X1_put rfl rfl rfl vdX1_put ⟨Nat.le_of_ble_eq_true rfl, Nat.le_of_ble_eq_true rfl⟩) (oB.recv hK hM.1 rfl) hM hK hS (fun _ h => h) rfl hl.1 rfl dX1_putNumber_47 hcs (Nat.le_of_ble_eq_true rfl) (fun H locs hnew hsz hoth hS => ?_)
            have hM := hnew
            have hpy : pnL (u / 10) v = pnL u v ++ [48 + v / u % 10] := pn_y hP (by omega) (by omega) (by omega)
            have hM : BYr G o [.ref (o 1), .int (iI (m + ((pnL (u / 10) v).length : Int)))] (ouA τ m (pnL (u / 10) v)) H := by rw [hpy, ← ouA_2, ← ouA_l2]; rw [show sg8 (48 + v / u % 10) = 48 + v / u % 10 from sg8_lo (by omega) (by omega)] at hM; exact hM
            refine lv_iload_n (pc := 50) E.1 E.2 dX1_putNumber_50 rfl (lv_at hl 2 rfl) ?_
            refine z_bipush (pc := 51) E (by decide) dX1_putNumber_51 ?_
            refine z_idivN (pc := 53) E ⟨by omega, by omega⟩ ⟨by omega, by omega⟩ dX1_putNumber_53 ?_
            refine lv_istore_n (pc := 54) (lv' := [(3, .int (iI (u / 10))), (2, .int (iI 1)), (4, .int (iI ((v / u) % 10))), (0, .ref (o 0)), (1, .int (iI v))]) E.1 E.2 dX1_putNumber_54 rfl hl (by decide) rfl (fun ls hl => ?_)
            refine lv_goto (pc := 55) (tgt := 5) E.1 E.2 dX1_putNumber_55 (by decide) ?_
            exact ihL5 1 (u / 10) (P10_d hP) (by omega) (fun hz => by have hb9 := pn_b (v := v) hP (by omega) (by intro z; subst z; omega); have hbe9 := hbe (by omega); omega) (by omega) (by omega)  _ _ hM hS ls (lv_sub hl [0, 1, 3, 4] rfl)
        · refine lv_iload_n (pc := 26) E.1 E.2 dX1_putNumber_26 rfl (lv_at hl 1 rfl) ?_
          refine z_iconst (pc := 27) E dX1_putNumber_27 ?_
          refine z_icmp_ne (pc := 28) (tgt := 35) E ⟨by omega, by omega⟩ (by decide) dX1_putNumber_28 (by decide) (fun h28 => ?_) (fun h28 => ?_)
          · refine z_iconst (pc := 35) E dX1_putNumber_35 ?_
            refine lv_istore_n (pc := 36) (lv' := [(2, .int (iI 0)), (4, .int (iI ((v / u) % 10))), (3, .int (iI u)), (0, .ref (o 0)), (1, .int (iI v))]) E.1 E.2 dX1_putNumber_36 rfl hl (by decide) rfl (fun ls hl => ?_)
            refine lv_iload_n (pc := 37) E.1 E.2 dX1_putNumber_37 rfl (lv_at hl 0 rfl) ?_
            refine z_if_eq (pc := 38) (tgt := 50) E (by decide) dX1_putNumber_38 (by decide) (fun h38 => ?_) (fun h38 => ?_)
            · refine lv_iload_n (pc := 50) E.1 E.2 dX1_putNumber_50 rfl (lv_at hl 2 rfl) ?_
              refine z_bipush (pc := 51) E (by decide) dX1_putNumber_51 ?_
              refine z_idivN (pc := 53) E ⟨by omega, by omega⟩ ⟨by omega, by omega⟩ dX1_putNumber_53 ?_
              refine lv_istore_n (pc := 54) (lv' := [(3, .int (iI (u / 10))), (2, .int (iI 0)), (4, .int (iI ((v / u) % 10))), (0, .ref (o 0)), (1, .int (iI v))]) E.1 E.2 dX1_putNumber_54 rfl hl (by decide) rfl (fun ls hl => ?_)
              refine lv_goto (pc := 55) (tgt := 5) E.1 E.2 dX1_putNumber_55 (by decide) ?_
              exact ihL5 0 (u / 10) (P10_d hP) (by omega) (fun hz => by have hb9 := pn_b (v := v) hP (by omega) (by intro z; subst z; omega); have hbe9 := hbe (by omega); omega) (by omega) (by omega)  _ _ (by rw [show pnL (u / 10) v = pnL u v from pn_n hP (by omega) (by omega) (by omega) (by omega)]; exact hM) hS ls (lv_sub hl [0, 1, 3, 4] rfl)
            · exact absurd h38 (by decide)
          · refine z_iconst (pc := 31) E dX1_putNumber_31 ?_
            refine lv_goto (pc := 32) (tgt := 36) E.1 E.2 dX1_putNumber_32 (by decide) ?_
            refine lv_istore_n (pc := 36) (lv' := [(2, .int (iI 1)), (4, .int (iI ((v / u) % 10))), (3, .int (iI u)), (0, .ref (o 0)), (1, .int (iI v))]) E.1 E.2 dX1_putNumber_36 rfl hl (by decide) rfl (fun ls hl => ?_)
            refine lv_iload_n (pc := 37) E.1 E.2 dX1_putNumber_37 rfl (lv_at hl 0 rfl) ?_
            refine z_if_eq (pc := 38) (tgt := 50) E (by decide) dX1_putNumber_38 (by decide) (fun h38 => ?_) (fun h38 => ?_)
            · exact absurd h38 (by decide)
            · refine lv_aload_n (pc := 41) E.1 E.2 dX1_putNumber_41 rfl (lv_at hl 3 rfl) ?_
              refine z_bipush (pc := 42) E (by decide) dX1_putNumber_42 ?_
              refine lv_iload (pc := 44) E.1 E.2 dX1_putNumber_44 (lv_at hl 1 rfl) ?_
              refine z_iadd (pc := 46) E dX1_putNumber_46 ?_
              refine z_wVv (pc := 47) (As := [.int (iI (48 + ((v / u) % 10)))]) (rest := []) E hml hown hts (mX1_put lL G o (m + ((pnL u v).length : Int)) (ouA τ m (pnL u v)) (48 + ((v / u) % 10)) (by omega) (by omega)) (cwV 1 hts gX1_putNumber_X1_put rfl rfl rfl vdX1_put ⟨Nat.le_of_ble_eq_true rfl, Nat.le_of_ble_eq_true rfl⟩) (oB.recv hK hM.1 rfl) hM hK hS (fun _ h => h) rfl hl.1 rfl dX1_putNumber_47 hcs (Nat.le_of_ble_eq_true rfl) (fun H locs hnew hsz hoth hS => ?_)
              have hM := hnew
              have hpy : pnL (u / 10) v = pnL u v ++ [48 + v / u % 10] := pn_y hP (by omega) (by omega) (by omega)
              have hM : BYr G o [.ref (o 1), .int (iI (m + ((pnL (u / 10) v).length : Int)))] (ouA τ m (pnL (u / 10) v)) H := by rw [hpy, ← ouA_2, ← ouA_l2]; rw [show sg8 (48 + v / u % 10) = 48 + v / u % 10 from sg8_lo (by omega) (by omega)] at hM; exact hM
              refine lv_iload_n (pc := 50) E.1 E.2 dX1_putNumber_50 rfl (lv_at hl 2 rfl) ?_
              refine z_bipush (pc := 51) E (by decide) dX1_putNumber_51 ?_
              refine z_idivN (pc := 53) E ⟨by omega, by omega⟩ ⟨by omega, by omega⟩ dX1_putNumber_53 ?_
              refine lv_istore_n (pc := 54) (lv' := [(3, .int (iI (u / 10))), (2, .int (iI 1)), (4, .int (iI ((v / u) % 10))), (0, .ref (o 0)), (1, .int (iI v))]) E.1 E.2 dX1_putNumber_54 rfl hl (by decide) rfl (fun ls hl => ?_)
              refine lv_goto (pc := 55) (tgt := 5) E.1 E.2 dX1_putNumber_55 (by decide) ?_
              exact ihL5 1 (u / 10) (P10_d hP) (by omega) (fun hz => by have hb9 := pn_b (v := v) hP (by omega) (by intro z; subst z; omega); have hbe9 := hbe (by omega); omega) (by omega) (by omega)  _ _ hM hS ls (lv_sub hl [0, 1, 3, 4] rfl)
set_option maxHeartbeats 1000000 in
set_option maxRecDepth 100000 in
theorem mX1_byteAt (lL : Launch) (G : GG) (o : Nat → Nat) (m : Int) (τ : Int → Int) (i : Int) (hi : -2147483648 ≤ i ∧ i < 2147483648) (hm : 0 ≤ m ∧ m ≤ 900) : Met lL yX1_byteAt wsX1_byteAt ({ frames := 0, cells := 0, slots := 0, locals := 0 } : Room) (va_Pc [.ref (o 0), .int (iI i)] (fun U => BYr G o [.ref (o 1), .int (iI m)] τ U.heap ∧ KK G U)) (vp_Si (fun r => r = (iI (if 0 ≤ i ∧ i < m then τ i % 256 else -1)))) 0 0 (fun _ => False) := by
  refine z_met (P := (fun H : Heap => BYr G o [.ref (o 1), .int (iI m)] τ H)) (by decide) rfl (Nat.le_of_ble_eq_true rfl) (fun pp ee ss mm below meth cC E hr hml hown hts hlocks hM hK ls hl => ?_)
  have hl : lv_has ls 2 [(0, .ref (o 0)), (1, .int (iI i))] := hl
  have hcs : 0 ≤ (({ frames := 0, cells := 0, slots := 0, locals := 0 } : Room)).cells ∧ 0 ≤ (({ frames := 0, cells := 0, slots := 0, locals := 0 } : Room)).slots := ⟨Nat.zero_le _, Nat.zero_le _⟩
  have hin1 : ∀ w ∈ wsX10, w ∈ wsX1_byteAt := fun w h => List.mem_cons_of_mem _ (List.mem_append_right _ (h))
  refine lv_iload_n (pc := 0) E.1 E.2 dX1_byteAt_0 rfl (lv_at hl 1 rfl) ?_
  refine z_if_lt (pc := 1) (tgt := 32) E ⟨by omega, by omega⟩ dX1_byteAt_1 (by decide) (fun h1 => ?_) (fun h1 => ?_)
  · refine z_iconst (pc := 32) E dX1_byteAt_32 ?_
    exact z_retRi E hr (congrArg iI (by first | exact (if_pos (by omega)).symm | exact (if_neg (by omega)).symm)) hlocks dX1_byteAt_33
  · refine lv_iload_n (pc := 4) E.1 E.2 dX1_byteAt_4 rfl (lv_at hl 1 rfl) ?_
    refine lv_aload_n (pc := 5) E.1 E.2 dX1_byteAt_5 rfl (lv_at hl 0 rfl) ?_
    refine g1_1 (pc := 6) E hts hin1 hown hK hM.1 (hts _ (List.mem_of_getElem? (i := 1) rfl)) dX1_byteAt_6 ?_
    refine z_icmp_ge (pc := 9) (tgt := 32) E ⟨by omega, by omega⟩ ⟨by omega, by omega⟩ dX1_byteAt_9 (by decide) (fun h9 => ?_) (fun h9 => ?_)
    · refine z_iconst (pc := 32) E dX1_byteAt_32 ?_
      exact z_retRi E hr (congrArg iI (by first | exact (if_pos (by omega)).symm | exact (if_neg (by omega)).symm)) hlocks dX1_byteAt_33
    · refine lv_iload_n (pc := 12) E.1 E.2 dX1_byteAt_12 rfl (lv_at hl 1 rfl) ?_
      refine z_sipush (pc := 13) E (by decide) dX1_byteAt_13 ?_
      refine z_icmp_ge (pc := 16) (tgt := 32) E ⟨by omega, by omega⟩ (by decide) dX1_byteAt_16 (by decide) (fun h16 => ?_) (fun h16 => ?_)
      · refine z_iconst (pc := 32) E dX1_byteAt_32 ?_
        exact z_retRi E hr (congrArg iI (by first | exact (if_pos (by omega)).symm | exact (if_neg (by omega)).symm)) hlocks dX1_byteAt_33
      · refine lv_aload_n (pc := 19) E.1 E.2 dX1_byteAt_19 rfl (lv_at hl 0 rfl) ?_
        refine g1_0 (pc := 20) E hts hin1 hown hK hM.1 (hts _ (List.mem_of_getElem? (i := 2) rfl)) dX1_byteAt_20 ?_
        refine lv_iload_n (pc := 23) E.1 E.2 dX1_byteAt_23 rfl (lv_at hl 1 rfl) ?_
        refine z_baload (pc := 24) E hK hM.2.1 ⟨by omega, by omega⟩ (by decide) dX1_byteAt_24 ?_
        refine z_sipush (pc := 25) E (by decide) dX1_byteAt_25 ?_
        refine z_iand255 (pc := 28) E dX1_byteAt_28 ?_
        refine lv_goto (pc := 29) (tgt := 33) E.1 E.2 dX1_byteAt_29 (by decide) ?_
        exact z_retRi E hr (congrArg iI (by first | exact (if_pos (by omega)).symm | exact (if_neg (by omega)).symm)) hlocks dX1_byteAt_33
