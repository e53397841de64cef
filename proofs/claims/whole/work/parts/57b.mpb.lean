theorem vdX8_walked : yX8_walked.cls = RX8 ∧ yX8_walked.cls ≠ "java/lang/invoke/MethodHandle" ∧ yX8_walked.cls ≠ "java/lang/invoke/VarHandle" ∧ (parseMethodDescriptor yX8_walked.desc).map (fun d => d.parameters.length) = some 1 := by decide +kernel
theorem vdX8_heaviest : yX8_heaviest.cls = RX8 ∧ yX8_heaviest.cls ≠ "java/lang/invoke/MethodHandle" ∧ yX8_heaviest.cls ≠ "java/lang/invoke/VarHandle" ∧ (parseMethodDescriptor yX8_heaviest.desc).map (fun d => d.parameters.length) = some 1 := by decide +kernel
theorem vdX8_greatest : yX8_greatest.cls = RX8 ∧ yX8_greatest.cls ≠ "java/lang/invoke/MethodHandle" ∧ yX8_greatest.cls ≠ "java/lang/invoke/VarHandle" ∧ (parseMethodDescriptor yX8_greatest.desc).map (fun d => d.parameters.length) = some 1 := by decide +kernel
theorem vdX8_room : yX8_room.cls = RX8 ∧ yX8_room.cls ≠ "java/lang/invoke/MethodHandle" ∧ yX8_room.cls ≠ "java/lang/invoke/VarHandle" ∧ (parseMethodDescriptor yX8_room.desc).map (fun d => d.parameters.length) = some 1 := by decide +kernel
theorem vdX8_nextEvent : yX8_nextEvent.cls = RX8 ∧ yX8_nextEvent.cls ≠ "java/lang/invoke/MethodHandle" ∧ yX8_nextEvent.cls ≠ "java/lang/invoke/VarHandle" ∧ (parseMethodDescriptor yX8_nextEvent.desc).map (fun d => d.parameters.length) = some 0 := by decide +kernel
set_option maxHeartbeats 1000000 in
set_option maxRecDepth 100000 in
theorem mX8_walked (lL : Launch) (G : GG) (o : Nat → Nat) (μ σ φ κ β ω : Int → Int) (w : Int) (hI : In σ) (hw : -2147483648 ≤ w ∧ w < 2147483648) : Met lL yX8_walked wsX8_walked ({ frames := 2, cells := 0, slots := 0, locals := 46 } : Room) (va_Pc [.ref (o 0), .int (iI w)] (fun U => W8 G o (mV o μ) σ φ κ β ω U.heap ∧ KK G U)) (va_Qi (fun r (_ : Unit) => r = (iI (if (kxFo σ w) = 0 then wk σ w.toNat else 0))) (fun _ tZ => W8 G o (mV o (zu μ 4 (kxFo σ w))) σ φ κ β ω tZ.heap) (Ax o 6)) 0 0 (Ax o 6) := by
  refine z_met (P := (fun H : Heap => W8 G o (mV o μ) σ φ κ β ω H)) (by decide) rfl (Nat.le_of_ble_eq_true rfl) (fun pp ee ss mm below meth cC E hr hml hown hts hlocks hM hK ls hl => ?_)
  have hl : lv_has ls 5 [(0, .ref (o 0)), (1, .int (iI w))] := hl
  have hcs : 0 ≤ (({ frames := 2, cells := 0, slots := 0, locals := 46 } : Room)).cells ∧ 0 ≤ (({ frames := 2, cells := 0, slots := 0, locals := 46 } : Room)).slots := ⟨Nat.zero_le _, Nat.zero_le _⟩
  have hS : va_S (Ax o 6) ss.heap ss.heap [] := va_S.rf
  have hin8 : ∀ w ∈ wsX80, w ∈ wsX8_walked := fun w h => List.mem_cons_of_mem _ (List.mem_append_right _ (h))
  have hF := hI.F
  have hMm := hI.M
  have hGn := hI.Gn
  have hTi := hI.ti
  have hGr := hI.gr
  refine lv_aload_n (pc := 0) E.1 E.2 dX8_walked_0 rfl (lv_at hl 0 rfl) ?_
  refine lv_aload_n (pc := 1) E.1 E.2 dX8_walked_1 rfl (lv_at hl 0 rfl) ?_
  refine lv_iload_n (pc := 2) E.1 E.2 dX8_walked_2 rfl (lv_at hl 1 rfl) ?_
  refine z_rVi (pc := 3) (As := [.int (iI w)]) (rest := [.ref (o 0)]) E hml hown hts (mX8_isFolder lL G o μ σ φ κ β ω w hI (by omega)) (cwV 1 hts gX8_walked_X8_isFolder rfl rfl rfl vdX8_isFolder ⟨Nat.le_of_ble_eq_true rfl, Nat.le_of_ble_eq_true rfl⟩) (oB.recv hK hM.1 rfl) hM hK rfl hl.1 rfl dX8_walked_3 hcs (Nat.le_of_ble_eq_true rfl) ?_
  refine z_ifb_eq (pc := 6) (tgt := 13) E dX8_walked_6 (by decide) (fun h6 => ?_) (fun h6 => ?_)
  · refine z_iconst (pc := 13) E dX8_walked_13 ?_
    refine p8_4 (pc := 14) E hts hin8 hown hK hM.1 hS (Ax.at 0 (by decide)) (hts _ (List.mem_of_getElem? (i := 1) rfl)) dX8_walked_14 (fun H locs hnew hoth hS => ?_)
    have hM := W8.p hM hnew (fun a _ h => hoth a h)
    refine z_iconst (pc := 17) E dX8_walked_17 ?_
    refine lv_istore_n (pc := 18) (lv' := [(2, .int (iI 0)), (0, .ref (o 0)), (1, .int (iI w))]) E.1 E.2 dX8_walked_18 rfl hl (by decide) rfl (fun ls hl => ?_)
    refine lv_iload_n (pc := 19) E.1 E.2 dX8_walked_19 rfl (lv_at hl 2 rfl) ?_
    refine lv_istore_n (pc := 20) (lv' := [(3, .int (iI w)), (2, .int (iI 0)), (0, .ref (o 0)), (1, .int (iI w))]) E.1 E.2 dX8_walked_20 rfl hl (by decide) rfl (fun ls hl => ?_)
    refine lv_iload_n (pc := 21) E.1 E.2 dX8_walked_21 rfl (lv_at hl 0 rfl) ?_
    refine z_if_le (pc := 22) (tgt := 76) E ⟨by omega, by omega⟩ dX8_walked_22 (by decide) (fun h22 => ?_) (fun h22 => ?_)
    · refine lv_iload_n (pc := 76) E.1 E.2 dX8_walked_76 rfl (lv_at hl 1 rfl) ?_
      exact z_retWi E hr (congrArg iI (by have e0 : (kxFo σ w) = 1 := (by unfold kxFo; (repeat' split) <;> first | rfl | omega | (exfalso; omega) | contradiction | grind); rw [e0]; exact (if_neg (by decide)).symm)) (by have e0 : (kxFo σ w) = 1 := (by unfold kxFo; (repeat' split) <;> first | rfl | omega | (exfalso; omega) | contradiction | grind); rw [e0]; exact W8.mu hM (by simp only [mV, zu, Int.reduceEq, reduceIte])) hS hlocks dX8_walked_77
    · refine lv_aload_n (pc := 25) E.1 E.2 dX8_walked_25 rfl (lv_at hl 2 rfl) ?_
      refine g8_4 (pc := 26) E hts hin8 hown hK hM.1 (hts _ (List.mem_of_getElem? (i := 1) rfl)) dX8_walked_26 ?_
      refine z_if_ne (pc := 29) (tgt := 76) E (by decide) dX8_walked_29 (by decide) (fun h29 => ?_) (fun h29 => ?_)
      · refine lv_iload_n (pc := 76) E.1 E.2 dX8_walked_76 rfl (lv_at hl 1 rfl) ?_
        exact z_retWi E hr (congrArg iI (by have e0 : (kxFo σ w) = 1 := (by unfold kxFo; (repeat' split) <;> first | rfl | omega | (exfalso; omega) | contradiction | grind); rw [e0]; exact (if_neg (by decide)).symm)) (by have e0 : (kxFo σ w) = 1 := (by unfold kxFo; (repeat' split) <;> first | rfl | omega | (exfalso; omega) | contradiction | grind); rw [e0]; exact W8.mu hM (by simp only [mV, zu, Int.reduceEq, reduceIte])) hS hlocks dX8_walked_77
      · exact absurd h29 (by decide)
  · refine z_iconst (pc := 9) E dX8_walked_9 ?_
    refine lv_goto (pc := 10) (tgt := 14) E.1 E.2 dX8_walked_10 (by decide) ?_
    refine p8_4 (pc := 14) E hts hin8 hown hK hM.1 hS (Ax.at 0 (by decide)) (hts _ (List.mem_of_getElem? (i := 1) rfl)) dX8_walked_14 (fun H locs hnew hoth hS => ?_)
    have hM := W8.p hM hnew (fun a _ h => hoth a h)
    refine z_iconst (pc := 17) E dX8_walked_17 ?_
    refine lv_istore_n (pc := 18) (lv' := [(2, .int (iI 0)), (0, .ref (o 0)), (1, .int (iI w))]) E.1 E.2 dX8_walked_18 rfl hl (by decide) rfl (fun ls hl => ?_)
    refine lv_iload_n (pc := 19) E.1 E.2 dX8_walked_19 rfl (lv_at hl 2 rfl) ?_
    refine lv_istore_n (pc := 20) (lv' := [(3, .int (iI w)), (2, .int (iI 0)), (0, .ref (o 0)), (1, .int (iI w))]) E.1 E.2 dX8_walked_20 rfl hl (by decide) rfl (fun ls hl => ?_)
    suffices L21 : ∀ (nf : Nat), ∀ (f n : Int), (0 ≤ n ∧ n ≤ w) → (f = wk σ (w - n).toNat) → ((n).toNat) < nf → ∀ ls : Array Slot, lv_has ls 5 [(3, .int (iI n)), (2, .int (iI f)), (0, .ref (o 0)), (1, .int (iI w))] → W pp lL ee ({ frames := 2, cells := 0, slots := 0, locals := 46 } : Room) ss mm [.ref (o 0), .int (iI w)].toArray below meth cC H locs 0 0 (MQ below (va_Qi (fun r (_ : Unit) => r = (iI (if (kxFo σ w) = 0 then wk σ w.toNat else 0))) (fun _ tZ => W8 G o (mV o (zu μ 4 (kxFo σ w))) σ φ κ β ω tZ.heap) (Ax o 6)) [.ref (o 0), .int (iI w)].toArray ss 0 0 (Ax o 6)) (F0 mm 21 ls []) from L21 _ 0 w (by omega) (by rw [show (w - w).toNat = 0 by omega]; rfl) (Nat.lt_succ_self _) ls (lv_sub hl [0, 1, 2, 3] rfl)
    intro nfL21
    induction nfL21 with
    | zero => intro f n hn hf hmzL21; exact absurd hmzL21 (Nat.not_lt_zero _)
    | succ nfL21 ihL21 =>
      intro f n hn hf hmzL21 ls hl
      have hfr : 0 ≤ f ∧ f < σ 2 := by rw [hf]; exact wk_v hI (by omega)
      refine lv_iload_n (pc := 21) E.1 E.2 dX8_walked_21 rfl (lv_at hl 0 rfl) ?_
      refine z_if_le (pc := 22) (tgt := 76) E ⟨by omega, by omega⟩ dX8_walked_22 (by decide) (fun h22 => ?_) (fun h22 => ?_)
      · have en : (w - n).toNat = w.toNat := by omega
        refine lv_iload_n (pc := 76) E.1 E.2 dX8_walked_76 rfl (lv_at hl 1 rfl) ?_
        exact z_retWi E hr (congrArg iI (by have e0 : (kxFo σ w) = 0 := (by unfold kxFo; (repeat' split) <;> first | rfl | omega | (exfalso; omega) | contradiction | grind); rw [e0]; refine Eq.trans ?_ (if_pos rfl).symm; (rw [hf, en]))) (by have e0 : (kxFo σ w) = 0 := (by unfold kxFo; (repeat' split) <;> first | rfl | omega | (exfalso; omega) | contradiction | grind); rw [e0]; exact W8.mu hM (by simp only [mV, zu, Int.reduceEq, reduceIte])) hS hlocks dX8_walked_77
      · refine lv_aload_n (pc := 25) E.1 E.2 dX8_walked_25 rfl (lv_at hl 2 rfl) ?_
        refine g8_4 (pc := 26) E hts hin8 hown hK hM.1 (hts _ (List.mem_of_getElem? (i := 1) rfl)) dX8_walked_26 ?_
        refine z_if_ne (pc := 29) (tgt := 76) E (by decide) dX8_walked_29 (by decide) (fun h29 => ?_) (fun h29 => ?_)
        · exact absurd h29 (by decide)
        · refine lv_aload_n (pc := 32) E.1 E.2 dX8_walked_32 rfl (lv_at hl 2 rfl) ?_
          refine lv_iload_n (pc := 33) E.1 E.2 dX8_walked_33 rfl (lv_at hl 1 rfl) ?_
          refine z_iconst (pc := 34) E dX8_walked_34 ?_
          refine z_rVi (pc := 35) (As := [.int (iI f), .int (iI 0)]) (rest := []) E hml hown hts (mX8_childBehind lL G o (zu μ 4 0) σ φ κ β ω f 0 hI (by omega) (by omega)) (cwV 2 hts gX8_walked_X8_childBehind rfl rfl rfl vdX8_childBehind ⟨Nat.le_of_ble_eq_true rfl, Nat.le_of_ble_eq_true rfl⟩) (oB.recv hK hM.1 rfl) (W8.mu hM (by simp only [mV, zu, Int.reduceEq, reduceIte])) hK rfl hl.1 rfl dX8_walked_35 hcs (Nat.le_of_ble_eq_true rfl) ?_
          have hc0 : -1 ≤ cbS σ f (0 + 1) ∧ cbS σ f (0 + 1) < 40 := by rcases cbS_b σ f (0 + 1) with z | z <;> omega
          refine lv_istore (pc := 38) (lv' := [(4, .int (iI (cbS σ f (0 + 1)))), (3, .int (iI n)), (2, .int (iI f)), (0, .ref (o 0)), (1, .int (iI w))]) E.1 E.2 dX8_walked_38 hl (by decide) rfl (fun ls hl => ?_)
          suffices L40 : ∀ (nf : Nat), ∀ (g c : Int), (0 ≤ g ∧ g < σ 2) → (-1 ≤ c ∧ c < 40) → (nw σ 40 c g = nxS σ (wk σ (w - n).toNat)) → ((dpF σ g).toNat) < nf → ∀ ls : Array Slot, lv_has ls 5 [(4, .int (iI c)), (3, .int (iI n)), (2, .int (iI g)), (0, .ref (o 0)), (1, .int (iI w))] → W pp lL ee ({ frames := 2, cells := 0, slots := 0, locals := 46 } : Room) ss mm [.ref (o 0), .int (iI w)].toArray below meth cC H locs 0 0 (MQ below (va_Qi (fun r (_ : Unit) => r = (iI (if (kxFo σ w) = 0 then wk σ w.toNat else 0))) (fun _ tZ => W8 G o (mV o (zu μ 4 (kxFo σ w))) σ φ κ β ω tZ.heap) (Ax o 6)) [.ref (o 0), .int (iI w)].toArray ss 0 0 (Ax o 6)) (F0 mm 40 ls []) from L40 _ f (cbS σ f (0 + 1)) hfr hc0 (by rw [cb01 hI hfr.1, ← hf]; rfl) (Nat.lt_succ_self _) ls (lv_sub hl [0, 1, 2, 3, 4] rfl)
          intro nfL40
          induction nfL40 with
          | zero => intro g c hg hcb hc hmzL40; exact absurd hmzL40 (Nat.not_lt_zero _)
          | succ nfL40 ihL40 =>
            intro g c hg hcb hc hmzL40 ls hl
            refine lv_iload (pc := 40) E.1 E.2 dX8_walked_40 (lv_at hl 0 rfl) ?_
            refine z_iconst (pc := 42) E dX8_walked_42 ?_
            refine z_icmp_ne (pc := 43) (tgt := 67) E ⟨by omega, by omega⟩ (by decide) dX8_walked_43 (by decide) (fun h43 => ?_) (fun h43 => ?_)
            · have hc' : nxS σ (wk σ (w - n).toNat) = c := by rw [← hc]; exact nw_y σ (by omega) g 40
              refine lv_iload (pc := 67) E.1 E.2 dX8_walked_67 (lv_at hl 0 rfl) ?_
              refine lv_istore_n (pc := 69) (lv' := [(2, .int (iI c)), (4, .int (iI c)), (3, .int (iI n)), (0, .ref (o 0)), (1, .int (iI w))]) E.1 E.2 dX8_walked_69 rfl hl (by decide) rfl (fun ls hl => ?_)
              refine lv_iinc (pc := 70) (v := iI (n + (-1))) (lv' := [(3, .int (iI (n + (-1)))), (2, .int (iI c)), (4, .int (iI c)), (0, .ref (o 0)), (1, .int (iI w))]) E.1 E.2 dX8_walked_70 hl (k := 2) rfl (iI_add _ _) (by decide) rfl (fun ls hl => ?_)
              refine lv_goto (pc := 73) (tgt := 21) E.1 E.2 dX8_walked_73 (by decide) ?_
              exact ihL21 c (n + (-1)) (by omega) (by rw [show (w - (n + -1)).toNat = (w - n).toNat + 1 by omega, wk]; exact hc'.symm) (by omega) ls (lv_sub hl [0, 1, 3, 4] rfl)
            · have hcn : c = -1 := by omega
              have hnz : ¬ nxS σ (wk σ (w - n).toNat) = -1 := wk_n hI (n := (w - n).toNat) (by omega)
              have hg0 : ¬ g = 0 := fun z => hnz (by rw [← hc, hcn, z]; exact nw_0 σ 40)
              have hpg := root_i hI hg hg0
              refine lv_aload_n (pc := 46) E.1 E.2 dX8_walked_46 rfl (lv_at hl 3 rfl) ?_
              refine lv_aload_n (pc := 47) E.1 E.2 dX8_walked_47 rfl (lv_at hl 3 rfl) ?_
              refine lv_iload_n (pc := 48) E.1 E.2 dX8_walked_48 rfl (lv_at hl 2 rfl) ?_
              refine z_rVi (pc := 49) (As := [.int (iI g)]) (rest := [.ref (o 0)]) E hml hown hts (mX8_parentOf lL G o (zu μ 4 0) σ φ κ β ω g (by omega)) (cwV 1 hts gX8_walked_X8_parentOf rfl rfl rfl vdX8_parentOf ⟨Nat.le_of_ble_eq_true rfl, Nat.le_of_ble_eq_true rfl⟩) (oB.recv hK hM.1 rfl) (W8.mu hM (by simp only [mV, zu, Int.reduceEq, reduceIte])) hK rfl hl.1 rfl dX8_walked_49 hcs (Nat.le_of_ble_eq_true rfl) ?_
              refine lv_iload_n (pc := 52) E.1 E.2 dX8_walked_52 rfl (lv_at hl 2 rfl) ?_
              refine z_rVi (pc := 53) (As := [.int (iI (σ (69 + g))), .int (iI g)]) (rest := []) E hml hown hts (mX8_childBehind lL G o (zu μ 4 0) σ φ κ β ω (σ (69 + g)) g hI (by omega) (by omega)) (cwV 2 hts gX8_walked_X8_childBehind rfl rfl rfl vdX8_childBehind ⟨Nat.le_of_ble_eq_true rfl, Nat.le_of_ble_eq_true rfl⟩) (oB.recv hK hM.1 rfl) (W8.mu hM (by simp only [mV, zu, Int.reduceEq, reduceIte])) hK rfl hl.1 rfl dX8_walked_53 hcs (Nat.le_of_ble_eq_true rfl) ?_
              have hc1 : -1 ≤ cbS σ (σ (69 + g)) (g + 1) ∧ cbS σ (σ (69 + g)) (g + 1) < 40 := by rcases cbS_b σ (σ (69 + g)) (g + 1) with z | z <;> omega
              refine lv_istore (pc := 56) (lv' := [(4, .int (iI (cbS σ (σ (69 + g)) (g + 1)))), (3, .int (iI n)), (2, .int (iI g)), (0, .ref (o 0)), (1, .int (iI w))]) E.1 E.2 dX8_walked_56 hl (by decide) rfl (fun ls hl => ?_)
              refine lv_aload_n (pc := 58) E.1 E.2 dX8_walked_58 rfl (lv_at hl 3 rfl) ?_
              refine lv_iload_n (pc := 59) E.1 E.2 dX8_walked_59 rfl (lv_at hl 2 rfl) ?_
              refine z_rVi (pc := 60) (As := [.int (iI g)]) (rest := []) E hml hown hts (mX8_parentOf lL G o (zu μ 4 0) σ φ κ β ω g (by omega)) (cwV 1 hts gX8_walked_X8_parentOf rfl rfl rfl vdX8_parentOf ⟨Nat.le_of_ble_eq_true rfl, Nat.le_of_ble_eq_true rfl⟩) (oB.recv hK hM.1 rfl) (W8.mu hM (by simp only [mV, zu, Int.reduceEq, reduceIte])) hK rfl hl.1 rfl dX8_walked_60 hcs (Nat.le_of_ble_eq_true rfl) ?_
              refine lv_istore_n (pc := 63) (lv' := [(2, .int (iI (σ (69 + g)))), (4, .int (iI (cbS σ (σ (69 + g)) (g + 1)))), (3, .int (iI n)), (0, .ref (o 0)), (1, .int (iI w))]) E.1 E.2 dX8_walked_63 rfl hl (by decide) rfl (fun ls hl => ?_)
              refine lv_goto (pc := 64) (tgt := 40) E.1 E.2 dX8_walked_64 (by decide) ?_
              exact ihL40 (σ (69 + g)) (cbS σ (σ (69 + g)) (g + 1)) hpg hc1 (by rw [← hc, hcn, nw_up hI hg.1 hg.2 hg0]) (by have e1 := dpF_s hI.cs hg.1 hg.2; have e2 := dpF_bd σ (σ (69 + g)); omega) ls (lv_sub hl [1, 2, 0, 3, 4] rfl)
set_option maxHeartbeats 1000000 in
set_option maxRecDepth 100000 in
theorem mX8_heaviest (lL : Launch) (G : GG) (o : Nat → Nat) (μ σ φ κ β ω : Int → Int) (f : Int) (hI : In σ) (hf : -2147483648 ≤ f ∧ f < 2147483648) : Met lL yX8_heaviest wsX8_heaviest ({ frames := 3, cells := 0, slots := 0, locals := 69 } : Room) (va_Pc [.ref (o 0), .int (iI f)] (fun U => W8 G o (mV o μ) σ φ κ β ω U.heap ∧ KK G U)) (va_Qi (fun r (_ : Unit) => r = (iI (if (kxHeav σ f) = 0 then hvS σ f else 0))) (fun _ tZ => W8 G o (mV o (zu μ 4 (kxHeav σ f))) σ φ κ β ω tZ.heap) (Ax o 6)) 0 0 (Ax o 6) := by
  refine z_met (P := (fun H : Heap => W8 G o (mV o μ) σ φ κ β ω H)) (by decide) rfl (Nat.le_of_ble_eq_true rfl) (fun pp ee ss mm below meth cC E hr hml hown hts hlocks hM hK ls hl => ?_)
  have hl : lv_has ls 4 [(0, .ref (o 0)), (1, .int (iI f))] := hl
  have hcs : 0 ≤ (({ frames := 3, cells := 0, slots := 0, locals := 69 } : Room)).cells ∧ 0 ≤ (({ frames := 3, cells := 0, slots := 0, locals := 69 } : Room)).slots := ⟨Nat.zero_le _, Nat.zero_le _⟩
  have hS : va_S (Ax o 6) ss.heap ss.heap [] := va_S.rf
  have hin8 : ∀ w ∈ wsX80, w ∈ wsX8_heaviest := fun w h => List.mem_cons_of_mem _ (List.mem_append_right _ (h))
  have hF := hI.F
  have hMm := hI.M
  have hGn := hI.Gn
  have hTi := hI.ti
  have hGr := hI.gr
  refine lv_aload_n (pc := 0) E.1 E.2 dX8_heaviest_0 rfl (lv_at hl 0 rfl) ?_
  refine lv_aload_n (pc := 1) E.1 E.2 dX8_heaviest_1 rfl (lv_at hl 0 rfl) ?_
  refine lv_iload_n (pc := 2) E.1 E.2 dX8_heaviest_2 rfl (lv_at hl 1 rfl) ?_
  refine z_rVi (pc := 3) (As := [.int (iI f)]) (rest := [.ref (o 0)]) E hml hown hts (mX8_isFolder lL G o μ σ φ κ β ω f hI (by omega)) (cwV 1 hts gX8_heaviest_X8_isFolder rfl rfl rfl vdX8_isFolder ⟨Nat.le_of_ble_eq_true rfl, Nat.le_of_ble_eq_true rfl⟩) (oB.recv hK hM.1 rfl) hM hK rfl hl.1 rfl dX8_heaviest_3 hcs (Nat.le_of_ble_eq_true rfl) ?_
  refine z_ifb_ne (pc := 6) (tgt := 13) E dX8_heaviest_6 (by decide) (fun h6 => ?_) (fun h6 => ?_)
  · refine lv_aload_n (pc := 13) E.1 E.2 dX8_heaviest_13 rfl (lv_at hl 0 rfl) ?_
    refine lv_iload_n (pc := 14) E.1 E.2 dX8_heaviest_14 rfl (lv_at hl 1 rfl) ?_
    refine z_rVi (pc := 15) (As := [.int (iI f)]) (rest := [.ref (o 0)]) E hml hown hts (mX8_childrenOf lL G o μ σ φ κ β ω f hI (by omega)) (cwV 1 hts gX8_heaviest_X8_childrenOf rfl rfl rfl vdX8_childrenOf ⟨Nat.le_of_ble_eq_true rfl, Nat.le_of_ble_eq_true rfl⟩) (oB.recv hK hM.1 rfl) hM hK rfl hl.1 rfl dX8_heaviest_15 hcs (Nat.le_of_ble_eq_true rfl) ?_
    have hbs := hI.biSb f
    refine z_if_ne (pc := 18) (tgt := 25) E ⟨by omega, by omega⟩ dX8_heaviest_18 (by decide) (fun h18 => ?_) (fun h18 => ?_)
    · refine z_iconst (pc := 25) E dX8_heaviest_25 ?_
      refine p8_4 (pc := 26) E hts hin8 hown hK hM.1 hS (Ax.at 0 (by decide)) (hts _ (List.mem_of_getElem? (i := 1) rfl)) dX8_heaviest_26 (fun H locs hnew hoth hS => ?_)
      have hM := W8.p hM hnew (fun a _ h => hoth a h)
      refine lv_aload_n (pc := 29) E.1 E.2 dX8_heaviest_29 rfl (lv_at hl 0 rfl) ?_
      refine g8_4 (pc := 30) E hts hin8 hown hK hM.1 (hts _ (List.mem_of_getElem? (i := 1) rfl)) dX8_heaviest_30 ?_
      refine z_if_le (pc := 33) (tgt := 38) E (by decide) dX8_heaviest_33 (by decide) (fun h33 => ?_) (fun h33 => ?_)
      · refine lv_aload_n (pc := 38) E.1 E.2 dX8_heaviest_38 rfl (lv_at hl 0 rfl) ?_
        refine lv_iload_n (pc := 39) E.1 E.2 dX8_heaviest_39 rfl (lv_at hl 1 rfl) ?_
        refine z_iconst (pc := 40) E dX8_heaviest_40 ?_
        refine z_rVi (pc := 41) (As := [.int (iI f), .int (iI 0)]) (rest := []) E hml hown hts (mX8_childBehind lL G o (zu μ 4 0) σ φ κ β ω f 0 hI (by omega) (by omega)) (cwV 2 hts gX8_heaviest_X8_childBehind rfl rfl rfl vdX8_childBehind ⟨Nat.le_of_ble_eq_true rfl, Nat.le_of_ble_eq_true rfl⟩) (oB.recv hK hM.1 rfl) (W8.mu hM (by simp only [mV, zu, Int.reduceEq, reduceIte])) hK rfl hl.1 rfl dX8_heaviest_41 hcs (Nat.le_of_ble_eq_true rfl) ?_
        refine lv_istore_n (pc := 44) (lv' := [(2, .int (iI (cbS σ f (0 + 1)))), (0, .ref (o 0)), (1, .int (iI f))]) E.1 E.2 dX8_heaviest_44 rfl hl (by decide) rfl (fun ls hl => ?_)
        refine lv_iload_n (pc := 45) E.1 E.2 dX8_heaviest_45 rfl (lv_at hl 0 rfl) ?_
        refine lv_istore_n (pc := 46) (lv' := [(3, .int (iI (cbS σ f (0 + 1)))), (2, .int (iI (cbS σ f (0 + 1)))), (0, .ref (o 0)), (1, .int (iI f))]) E.1 E.2 dX8_heaviest_46 rfl hl (by decide) rfl (fun ls hl => ?_)
        suffices L47 : ∀ (nf : Nat), ∀ (b k : Int), (k = -1 ∨ ((0 ≤ k ∧ k < σ 2) ∧ σ (69 + k) = f)) → (hvJ σ f k b) → ((if k = -1 then 0 else 41 - k).toNat) < nf → ∀ ls : Array Slot, lv_has ls 4 [(3, .int (iI k)), (2, .int (iI b)), (0, .ref (o 0)), (1, .int (iI f))] → W pp lL ee ({ frames := 3, cells := 0, slots := 0, locals := 69 } : Room) ss mm [.ref (o 0), .int (iI f)].toArray below meth cC H locs 0 0 (MQ below (va_Qi (fun r (_ : Unit) => r = (iI (if (kxHeav σ f) = 0 then hvS σ f else 0))) (fun _ tZ => W8 G o (mV o (zu μ 4 (kxHeav σ f))) σ φ κ β ω tZ.heap) (Ax o 6)) [.ref (o 0), .int (iI f)].toArray ss 0 0 (Ax o 6)) (F0 mm 47 ls []) from L47 _ (cbS σ f (0 + 1)) (cbS σ f (0 + 1)) (by rcases cbS_b σ f (0 + 1) with z | z; exact Or.inl z; exact Or.inr ⟨by omega, z.2.2⟩) (hvJ_0 hI (by omega) (by omega)) (Nat.lt_succ_self _) ls (lv_sub hl [0, 1, 2, 3] rfl)
        intro nfL47
        induction nfL47 with
        | zero => intro b k hk hj hmzL47; exact absurd hmzL47 (Nat.not_lt_zero _)
        | succ nfL47 ihL47 =>
          intro b k hk hj hmzL47 ls hl
          have hkr : -1 ≤ k ∧ k < σ 2 := by rcases hk with q | q <;> omega
          have hbr := hj.1
          refine lv_iload_n (pc := 47) E.1 E.2 dX8_heaviest_47 rfl (lv_at hl 0 rfl) ?_
          refine z_iconst (pc := 48) E dX8_heaviest_48 ?_
          refine z_icmp_eq (pc := 49) (tgt := 84) E ⟨by omega, by omega⟩ (by decide) dX8_heaviest_49 (by decide) (fun h49 => ?_) (fun h49 => ?_)
          · have ek : k = -1 := by omega
            subst ek
            refine lv_iload_n (pc := 84) E.1 E.2 dX8_heaviest_84 rfl (lv_at hl 1 rfl) ?_
            exact z_retWi E hr (congrArg iI (by have e0 : (kxHeav σ f) = 0 := (by unfold kxHeav; (repeat' split) <;> first | rfl | omega | (exfalso; omega) | contradiction | grind); rw [e0]; refine Eq.trans ?_ (if_pos rfl).symm; exact hvJ_e hj)) (by have e0 : (kxHeav σ f) = 0 := (by unfold kxHeav; (repeat' split) <;> first | rfl | omega | (exfalso; omega) | contradiction | grind); rw [e0]; exact W8.mu hM (by simp only [mV, zu, Int.reduceEq, reduceIte])) hS hlocks dX8_heaviest_85
          · have hk2 : (0 ≤ k ∧ k < σ 2) ∧ σ (69 + k) = f := by rcases hk with q | q; exact absurd q h49; exact q
            refine lv_aload_n (pc := 52) E.1 E.2 dX8_heaviest_52 rfl (lv_at hl 2 rfl) ?_
            refine lv_iload_n (pc := 53) E.1 E.2 dX8_heaviest_53 rfl (lv_at hl 0 rfl) ?_
            refine z_iconst (pc := 54) E dX8_heaviest_54 ?_
            refine z_rVl (pc := 55) (As := [.int (iI k), .int (iI 1)]) (rest := []) E hml hown hts (mX8_filesBelow lL G o (zu μ 4 0) σ φ κ β ω k 1 hI hk2.1 (by omega)) (cwV 2 hts gX8_heaviest_X8_filesBelow rfl rfl rfl vdX8_filesBelow ⟨Nat.le_of_ble_eq_true rfl, Nat.le_of_ble_eq_true rfl⟩) (oB.recv hK hM.1 rfl) (W8.mu hM (by simp only [mV, zu, Int.reduceEq, reduceIte])) hK rfl hl.1 rfl dX8_heaviest_55 hcs (Nat.le_of_ble_eq_true rfl) ?_
            have hmk := mbS_b hI k 1
            refine lv_aload_n (pc := 58) E.1 E.2 dX8_heaviest_58 rfl (lv_at hl 2 rfl) ?_
            refine lv_iload_n (pc := 59) E.1 E.2 dX8_heaviest_59 rfl (lv_at hl 1 rfl) ?_
            refine z_iconst (pc := 60) E dX8_heaviest_60 ?_
            refine z_rVl (pc := 61) (As := [.int (iI b), .int (iI 1)]) (rest := [.long (iL (mbS σ k 1))]) E hml hown hts (mX8_filesBelow lL G o (zu μ 4 0) σ φ κ β ω b 1 hI (by omega) (by omega)) (cwV 2 hts gX8_heaviest_X8_filesBelow rfl rfl rfl vdX8_filesBelow ⟨Nat.le_of_ble_eq_true rfl, Nat.le_of_ble_eq_true rfl⟩) (oB.recv hK hM.1 rfl) (W8.mu hM (by simp only [mV, zu, Int.reduceEq, reduceIte])) hK rfl hl.1 rfl dX8_heaviest_61 hcs (Nat.le_of_ble_eq_true rfl) ?_
            have hmb := mbS_b hI b 1
            refine z_lcmp_le (pc := 64) (tgt := 72) E ⟨by omega, by omega⟩ ⟨by omega, by omega⟩ dX8_heaviest_64 dX8_heaviest_65 (by decide) (fun h64 => ?_) (fun h64 => ?_)
            · refine lv_iload_n (pc := 72) E.1 E.2 dX8_heaviest_72 rfl (lv_at hl 1 rfl) ?_
              refine lv_istore_n (pc := 73) (lv' := [(2, .int (iI b)), (3, .int (iI k)), (0, .ref (o 0)), (1, .int (iI f))]) E.1 E.2 dX8_heaviest_73 rfl hl (by decide) rfl (fun ls hl => ?_)
              refine lv_aload_n (pc := 74) E.1 E.2 dX8_heaviest_74 rfl (lv_at hl 2 rfl) ?_
              refine lv_iload_n (pc := 75) E.1 E.2 dX8_heaviest_75 rfl (lv_at hl 3 rfl) ?_
              refine lv_iload_n (pc := 76) E.1 E.2 dX8_heaviest_76 rfl (lv_at hl 1 rfl) ?_
              refine z_rVi (pc := 77) (As := [.int (iI f), .int (iI k)]) (rest := []) E hml hown hts (mX8_childBehind lL G o (zu μ 4 0) σ φ κ β ω f k hI (by omega) (by omega)) (cwV 2 hts gX8_heaviest_X8_childBehind rfl rfl rfl vdX8_childBehind ⟨Nat.le_of_ble_eq_true rfl, Nat.le_of_ble_eq_true rfl⟩) (oB.recv hK hM.1 rfl) (W8.mu hM (by simp only [mV, zu, Int.reduceEq, reduceIte])) hK rfl hl.1 rfl dX8_heaviest_77 hcs (Nat.le_of_ble_eq_true rfl) ?_
              refine lv_istore_n (pc := 80) (lv' := [(3, .int (iI (cbS σ f (k + 1)))), (2, .int (iI b)), (0, .ref (o 0)), (1, .int (iI f))]) E.1 E.2 dX8_heaviest_80 rfl hl (by decide) rfl (fun ls hl => ?_)
              refine lv_goto (pc := 81) (tgt := 47) E.1 E.2 dX8_heaviest_81 (by decide) ?_
              exact ihL47 b (cbS σ f (k + 1)) (by rcases cbS_b σ f (k + 1) with z | z; exact Or.inl z; exact Or.inr ⟨by omega, z.2.2⟩) (by have e := hvJ_s hk2.1 hk2.2 hj; first | (rw [if_pos (show mbS σ b 1 < mbS σ k 1 by omega)] at e; exact e) | (rw [if_neg (show ¬ mbS σ b 1 < mbS σ k 1 by omega)] at e; exact e)) (by have e1 : (if k = -1 then (0 : Int) else 41 - k) = 41 - k := if_neg (by omega); rw [e1] at hmzL47; rcases cbS_b σ f (k + 1) with z | z; rw [z, if_pos rfl]; omega; rw [if_neg (by omega)]; omega) ls (lv_sub hl [0, 1, 2, 3] rfl)
            · refine lv_iload_n (pc := 68) E.1 E.2 dX8_heaviest_68 rfl (lv_at hl 0 rfl) ?_
              refine lv_goto (pc := 69) (tgt := 73) E.1 E.2 dX8_heaviest_69 (by decide) ?_
              refine lv_istore_n (pc := 73) (lv' := [(2, .int (iI k)), (3, .int (iI k)), (0, .ref (o 0)), (1, .int (iI f))]) E.1 E.2 dX8_heaviest_73 rfl hl (by decide) rfl (fun ls hl => ?_)
              refine lv_aload_n (pc := 74) E.1 E.2 dX8_heaviest_74 rfl (lv_at hl 2 rfl) ?_
              refine lv_iload_n (pc := 75) E.1 E.2 dX8_heaviest_75 rfl (lv_at hl 3 rfl) ?_
              refine lv_iload_n (pc := 76) E.1 E.2 dX8_heaviest_76 rfl (lv_at hl 1 rfl) ?_
              refine z_rVi (pc := 77) (As := [.int (iI f), .int (iI k)]) (rest := []) E hml hown hts (mX8_childBehind lL G o (zu μ 4 0) σ φ κ β ω f k hI (by omega) (by omega)) (cwV 2 hts gX8_heaviest_X8_childBehind rfl rfl rfl vdX8_childBehind ⟨Nat.le_of_ble_eq_true rfl, Nat.le_of_ble_eq_true rfl⟩) (oB.recv hK hM.1 rfl) (W8.mu hM (by simp only [mV, zu, Int.reduceEq, reduceIte])) hK rfl hl.1 rfl dX8_heaviest_77 hcs (Nat.le_of_ble_eq_true rfl) ?_
              refine lv_istore_n (pc := 80) (lv' := [(3, .int (iI (cbS σ f (k + 1)))), (2, .int (iI k)), (0, .ref (o 0)), (1, .int (iI f))]) E.1 E.2 dX8_heaviest_80 rfl hl (by decide) rfl (fun ls hl => ?_)
              refine lv_goto (pc := 81) (tgt := 47) E.1 E.2 dX8_heaviest_81 (by decide) ?_
              exact ihL47 k (cbS σ f (k + 1)) (by rcases cbS_b σ f (k + 1) with z | z; exact Or.inl z; exact Or.inr ⟨by omega, z.2.2⟩) (by have e := hvJ_s hk2.1 hk2.2 hj; first | (rw [if_pos (show mbS σ b 1 < mbS σ k 1 by omega)] at e; exact e) | (rw [if_neg (show ¬ mbS σ b 1 < mbS σ k 1 by omega)] at e; exact e)) (by have e1 : (if k = -1 then (0 : Int) else 41 - k) = 41 - k := if_neg (by omega); rw [e1] at hmzL47; rcases cbS_b σ f (k + 1) with z | z; rw [z, if_pos rfl]; omega; rw [if_neg (by omega)]; omega) ls (lv_sub hl [0, 1, 2, 3] rfl)
      · exact absurd h33 (by decide)
    · refine z_iconst (pc := 21) E dX8_heaviest_21 ?_
      refine lv_goto (pc := 22) (tgt := 26) E.1 E.2 dX8_heaviest_22 (by decide) ?_
      refine p8_4 (pc := 26) E hts hin8 hown hK hM.1 hS (Ax.at 0 (by decide)) (hts _ (List.mem_of_getElem? (i := 1) rfl)) dX8_heaviest_26 (fun H locs hnew hoth hS => ?_)
      have hM := W8.p hM hnew (fun a _ h => hoth a h)
      refine lv_aload_n (pc := 29) E.1 E.2 dX8_heaviest_29 rfl (lv_at hl 0 rfl) ?_
      refine g8_4 (pc := 30) E hts hin8 hown hK hM.1 (hts _ (List.mem_of_getElem? (i := 1) rfl)) dX8_heaviest_30 ?_
      refine z_if_le (pc := 33) (tgt := 38) E (by decide) dX8_heaviest_33 (by decide) (fun h33 => ?_) (fun h33 => ?_)
      · exact absurd h33 (by decide)
      · refine z_iconst (pc := 36) E dX8_heaviest_36 ?_
        exact z_retWi E hr (congrArg iI (by have e0 : (kxHeav σ f) = 2 := (by unfold kxHeav; (repeat' split) <;> first | rfl | omega | (exfalso; omega) | contradiction | grind); rw [e0]; exact (if_neg (by decide)).symm)) (by have e0 : (kxHeav σ f) = 2 := (by unfold kxHeav; (repeat' split) <;> first | rfl | omega | (exfalso; omega) | contradiction | grind); rw [e0]; exact W8.mu hM (by simp only [mV, zu, Int.reduceEq, reduceIte])) hS hlocks dX8_heaviest_37
  · refine z_iconst (pc := 9) E dX8_heaviest_9 ?_
    refine lv_goto (pc := 10) (tgt := 26) E.1 E.2 dX8_heaviest_10 (by decide) ?_
    refine p8_4 (pc := 26) E hts hin8 hown hK hM.1 hS (Ax.at 0 (by decide)) (hts _ (List.mem_of_getElem? (i := 1) rfl)) dX8_heaviest_26 (fun H locs hnew hoth hS => ?_)
    have hM := W8.p hM hnew (fun a _ h => hoth a h)
    refine lv_aload_n (pc := 29) E.1 E.2 dX8_heaviest_29 rfl (lv_at hl 0 rfl) ?_
    refine g8_4 (pc := 30) E hts hin8 hown hK hM.1 (hts _ (List.mem_of_getElem? (i := 1) rfl)) dX8_heaviest_30 ?_
    refine z_if_le (pc := 33) (tgt := 38) E (by decide) dX8_heaviest_33 (by decide) (fun h33 => ?_) (fun h33 => ?_)
    · exact absurd h33 (by decide)
    · refine z_iconst (pc := 36) E dX8_heaviest_36 ?_
      exact z_retWi E hr (congrArg iI (by have e0 : (kxHeav σ f) = 1 := (by unfold kxHeav; (repeat' split) <;> first | rfl | omega | (exfalso; omega) | contradiction | grind); rw [e0]; exact (if_neg (by decide)).symm)) (by have e0 : (kxHeav σ f) = 1 := (by unfold kxHeav; (repeat' split) <;> first | rfl | omega | (exfalso; omega) | contradiction | grind); rw [e0]; exact W8.mu hM (by simp only [mV, zu, Int.reduceEq, reduceIte])) hS hlocks dX8_heaviest_37
set_option maxHeartbeats 1000000 in
set_option maxRecDepth 100000 in
theorem mX8_greatest (lL : Launch) (G : GG) (o : Nat → Nat) (μ σ φ κ β ω : Int → Int) (p : Int) (hI : In σ) (hp : -2147483648 ≤ p ∧ p < 2147483648) : Met lL yX8_greatest wsX8_greatest ({ frames := 3, cells := 0, slots := 0, locals := 68 } : Room) (va_Pc [.ref (o 0), .int (iI p)] (fun U => W8 G o (mV o μ) σ φ κ β ω U.heap ∧ KK G U)) (va_Qi (fun r (_ : Unit) => r = (iI (if (kxGreat σ p) = 0 then gfS σ p else 0))) (fun _ tZ => W8 G o (mV o (zu μ 4 (kxGreat σ p))) σ φ κ β ω tZ.heap) (Ax o 6)) 0 0 (Ax o 6) := by
  refine z_met (P := (fun H : Heap => W8 G o (mV o μ) σ φ κ β ω H)) (by decide) rfl (Nat.le_of_ble_eq_true rfl) (fun pp ee ss mm below meth cC E hr hml hown hts hlocks hM hK ls hl => ?_)
  have hl : lv_has ls 4 [(0, .ref (o 0)), (1, .int (iI p))] := hl
  have hcs : 0 ≤ (({ frames := 3, cells := 0, slots := 0, locals := 68 } : Room)).cells ∧ 0 ≤ (({ frames := 3, cells := 0, slots := 0, locals := 68 } : Room)).slots := ⟨Nat.zero_le _, Nat.zero_le _⟩
  have hS : va_S (Ax o 6) ss.heap ss.heap [] := va_S.rf
  have hin8 : ∀ w ∈ wsX80, w ∈ wsX8_greatest := fun w h => List.mem_cons_of_mem _ (List.mem_append_right _ (h))
  have hF := hI.F
  have hMm := hI.M
  have hGn := hI.Gn
  have hTi := hI.ti
  have hGr := hI.gr
  refine lv_aload_n (pc := 0) E.1 E.2 dX8_greatest_0 rfl (lv_at hl 0 rfl) ?_
  refine lv_iload_n (pc := 1) E.1 E.2 dX8_greatest_1 rfl (lv_at hl 1 rfl) ?_
  refine z_rSi (pc := 2) (P := fun _ => True) (As := [.int (iI p)]) (rest := [.ref (o 0)]) E hml hown hts (mX8_isProject lL G p ⟨by omega, by omega⟩) (va_cwS 1 hts gX8_greatest_X8_isProject rfl rfl rfl vdX8_isProject.2 ⟨Nat.le_of_ble_eq_true rfl, Nat.le_of_ble_eq_true rfl⟩) trivial hK rfl hl.1 rfl dX8_greatest_2 hcs (Nat.le_of_ble_eq_true rfl) ?_
  refine z_ifb_ne (pc := 5) (tgt := 12) E dX8_greatest_5 (by decide) (fun h5 => ?_) (fun h5 => ?_)
  · refine lv_aload_n (pc := 12) E.1 E.2 dX8_greatest_12 rfl (lv_at hl 0 rfl) ?_
    refine lv_iload_n (pc := 13) E.1 E.2 dX8_greatest_13 rfl (lv_at hl 1 rfl) ?_
    refine z_iconst (pc := 14) E dX8_greatest_14 ?_
    refine z_rVl (pc := 15) (As := [.int (iI p), .int (iI 1)]) (rest := [.ref (o 0)]) E hml hown hts (mX8_countedOf lL G o μ σ φ κ β ω p 1 hI (by omega) (by omega)) (cwV 2 hts gX8_greatest_X8_countedOf rfl rfl rfl vdX8_countedOf ⟨Nat.le_of_ble_eq_true rfl, Nat.le_of_ble_eq_true rfl⟩) (oB.recv hK hM.1 rfl) hM hK rfl hl.1 rfl dX8_greatest_15 hcs (Nat.le_of_ble_eq_true rfl) ?_
    have hcb := coS_b hI p 1
    refine z_lconst (pc := 18) (v := 0) E (by decide) dX8_greatest_18 ?_
    refine z_lcmp_ne (pc := 19) (tgt := 27) E ⟨by omega, by omega⟩ (by decide) dX8_greatest_19 dX8_greatest_20 (by decide) (fun h19 => ?_) (fun h19 => ?_)
    · refine z_iconst (pc := 27) E dX8_greatest_27 ?_
      refine p8_4 (pc := 28) E hts hin8 hown hK hM.1 hS (Ax.at 0 (by decide)) (hts _ (List.mem_of_getElem? (i := 1) rfl)) dX8_greatest_28 (fun H locs hnew hoth hS => ?_)
      have hM := W8.p hM hnew (fun a _ h => hoth a h)
      refine z_iconst (pc := 31) E dX8_greatest_31 ?_
      refine lv_istore_n (pc := 32) (lv' := [(2, .int (iI (-1))), (0, .ref (o 0)), (1, .int (iI p))]) E.1 E.2 dX8_greatest_32 rfl hl (by decide) rfl (fun ls hl => ?_)
      refine z_iconst (pc := 33) E dX8_greatest_33 ?_
      refine lv_istore_n (pc := 34) (lv' := [(3, .int (iI 0)), (2, .int (iI (-1))), (0, .ref (o 0)), (1, .int (iI p))]) E.1 E.2 dX8_greatest_34 rfl hl (by decide) rfl (fun ls hl => ?_)
      suffices L35 : ∀ (nf : Nat), ∀ (b m : Int), (0 ≤ m ∧ m ≤ σ 3) → (b = gf σ p m.toNat) → ((σ 3 - m).toNat) < nf → ∀ ls : Array Slot, lv_has ls 4 [(3, .int (iI m)), (2, .int (iI b)), (0, .ref (o 0)), (1, .int (iI p))] → W pp lL ee ({ frames := 3, cells := 0, slots := 0, locals := 68 } : Room) ss mm [.ref (o 0), .int (iI p)].toArray below meth cC H locs 0 0 (MQ below (va_Qi (fun r (_ : Unit) => r = (iI (if (kxGreat σ p) = 0 then gfS σ p else 0))) (fun _ tZ => W8 G o (mV o (zu μ 4 (kxGreat σ p))) σ φ κ β ω tZ.heap) (Ax o 6)) [.ref (o 0), .int (iI p)].toArray ss 0 0 (Ax o 6)) (F0 mm 35 ls []) from L35 _ (-1) 0 (by omega) rfl (Nat.lt_succ_self _) ls (lv_sub hl [0, 1, 2, 3] rfl)
      intro nfL35
      induction nfL35 with
      | zero => intro b m hm hb hmzL35; exact absurd hmzL35 (Nat.not_lt_zero _)
      | succ nfL35 ihL35 =>
        intro b m hm hb hmzL35 ls hl
        have hbr : -1 ≤ b ∧ b < m ∨ b = -1 := by rw [hb]; have q := gf_b σ p m.toNat; rw [Int.toNat_of_nonneg hm.1] at q; exact q
        refine lv_iload_n (pc := 35) E.1 E.2 dX8_greatest_35 rfl (lv_at hl 0 rfl) ?_
        refine z_i2l (pc := 36) E ⟨by omega, by omega⟩ dX8_greatest_36 ?_
        refine lv_aload_n (pc := 37) E.1 E.2 dX8_greatest_37 rfl (lv_at hl 2 rfl) ?_
        refine g8_0 (pc := 38) E hts hin8 hown hK hM.1 (hts _ (List.mem_of_getElem? (i := 2) rfl)) dX8_greatest_38 ?_
        refine z_iconst (pc := 41) E dX8_greatest_41 ?_
        refine z_laload (pc := 42) E hK hM.2.1 ⟨by omega, by omega⟩ (by decide) dX8_greatest_42 ?_
        have hb42 := hI.bd 3
        refine z_lcmp_ge (pc := 43) (tgt := 107) E ⟨by omega, by omega⟩ ⟨by omega, by omega⟩ dX8_greatest_43 dX8_greatest_44 (by decide) (fun h43 => ?_) (fun h43 => ?_)
        · refine lv_aload_n (pc := 107) E.1 E.2 dX8_greatest_107 rfl (lv_at hl 2 rfl) ?_
          refine g8_4 (pc := 108) E hts hin8 hown hK hM.1 (hts _ (List.mem_of_getElem? (i := 1) rfl)) dX8_greatest_108 ?_
          refine z_if_le (pc := 111) (tgt := 118) E (by decide) dX8_greatest_111 (by decide) (fun h111 => ?_) (fun h111 => ?_)
          · refine lv_iload_n (pc := 118) E.1 E.2 dX8_greatest_118 rfl (lv_at hl 1 rfl) ?_
            exact z_retWi E hr (congrArg iI (by have e0 : (kxGreat σ p) = 0 := (by unfold kxGreat; (repeat' split) <;> first | rfl | omega | (exfalso; omega) | contradiction | grind); rw [e0]; refine Eq.trans ?_ (if_pos rfl).symm; (rw [hb, show m = σ 3 by omega]; rfl))) (by have e0 : (kxGreat σ p) = 0 := (by unfold kxGreat; (repeat' split) <;> first | rfl | omega | (exfalso; omega) | contradiction | grind); rw [e0]; exact W8.mu hM (by simp only [mV, zu, Int.reduceEq, reduceIte])) hS hlocks dX8_greatest_119
          · exact absurd h111 (by decide)
        · have hfk := hI.fil (k := m) hm.1 (by omega)
          refine lv_aload_n (pc := 47) E.1 E.2 dX8_greatest_47 rfl (lv_at hl 2 rfl) ?_
          refine g8_4 (pc := 48) E hts hin8 hown hK hM.1 (hts _ (List.mem_of_getElem? (i := 1) rfl)) dX8_greatest_48 ?_
          refine z_if_ne (pc := 51) (tgt := 107) E (by decide) dX8_greatest_51 (by decide) (fun h51 => ?_) (fun h51 => ?_)
          · exact absurd h51 (by decide)
          · refine lv_aload_n (pc := 54) E.1 E.2 dX8_greatest_54 rfl (lv_at hl 2 rfl) ?_
            refine lv_aload_n (pc := 55) E.1 E.2 dX8_greatest_55 rfl (lv_at hl 2 rfl) ?_
            refine lv_iload_n (pc := 56) E.1 E.2 dX8_greatest_56 rfl (lv_at hl 0 rfl) ?_
            refine z_rVi (pc := 57) (As := [.int (iI m)]) (rest := [.ref (o 0)]) E hml hown hts (mX8_folderOf lL G o (zu μ 4 0) σ φ κ β ω m (by omega)) (cwV 1 hts gX8_greatest_X8_folderOf rfl rfl rfl vdX8_folderOf ⟨Nat.le_of_ble_eq_true rfl, Nat.le_of_ble_eq_true rfl⟩) (oB.recv hK hM.1 rfl) (W8.mu hM (by simp only [mV, zu, Int.reduceEq, reduceIte])) hK rfl hl.1 rfl dX8_greatest_57 hcs (Nat.le_of_ble_eq_true rfl) ?_
            refine z_rVi (pc := 60) (As := [.int (iI (σ (189 + m)))]) (rest := []) E hml hown hts (mX8_projectOf lL G o (zu μ 4 0) σ φ κ β ω (σ (189 + m)) hI (Or.inr hfk.1)) (cwV 1 hts gX8_greatest_X8_projectOf rfl rfl rfl vdX8_projectOf ⟨Nat.le_of_ble_eq_true rfl, Nat.le_of_ble_eq_true rfl⟩) (oB.recv hK hM.1 rfl) (W8.mu hM (by simp only [mV, zu, Int.reduceEq, reduceIte])) hK rfl hl.1 rfl dX8_greatest_60 hcs (Nat.le_of_ble_eq_true rfl) ?_
            have hpk := hI.pjr (f := σ (189 + m)) (Or.inr hfk.1)
            refine lv_iload_n (pc := 63) E.1 E.2 dX8_greatest_63 rfl (lv_at hl 3 rfl) ?_
            refine z_icmp_eq (pc := 64) (tgt := 70) E ⟨by omega, by omega⟩ ⟨by omega, by omega⟩ dX8_greatest_64 (by decide) (fun h64 => ?_) (fun h64 => ?_)
            · refine lv_iload_n (pc := 70) E.1 E.2 dX8_greatest_70 rfl (lv_at hl 1 rfl) ?_
              refine z_iconst (pc := 71) E dX8_greatest_71 ?_
              refine z_icmp_eq (pc := 72) (tgt := 99) E ⟨by omega, by omega⟩ (by decide) dX8_greatest_72 (by decide) (fun h72 => ?_) (fun h72 => ?_)
              · refine lv_iload_n (pc := 99) E.1 E.2 dX8_greatest_99 rfl (lv_at hl 0 rfl) ?_
                refine lv_istore_n (pc := 100) (lv' := [(2, .int (iI m)), (3, .int (iI m)), (0, .ref (o 0)), (1, .int (iI p))]) E.1 E.2 dX8_greatest_100 rfl hl (by decide) rfl (fun ls hl => ?_)
                refine lv_iinc (pc := 101) (v := iI (m + 1)) (lv' := [(3, .int (iI (m + 1))), (2, .int (iI m)), (0, .ref (o 0)), (1, .int (iI p))]) E.1 E.2 dX8_greatest_101 hl (k := 1) rfl (iI_add _ _) (by decide) rfl (fun ls hl => ?_)
                refine lv_goto (pc := 104) (tgt := 35) E.1 E.2 dX8_greatest_104 (by decide) ?_
                exact ihL35 m (m + 1) (by omega) (by rw [show (m + 1).toNat = m.toNat + 1 by omega, gf, Int.toNat_of_nonneg hm.1, ← hb]; first | (refine (if_pos (And.intro ?_ ?_)).symm; omega; omega) | (refine (if_neg (fun z => ?_)).symm; omega)) (by omega) ls (lv_sub hl [0, 1, 2, 3] rfl)
              · refine lv_aload_n (pc := 75) E.1 E.2 dX8_greatest_75 rfl (lv_at hl 2 rfl) ?_
                refine g8_0 (pc := 76) E hts hin8 hown hK hM.1 (hts _ (List.mem_of_getElem? (i := 2) rfl)) dX8_greatest_76 ?_
                refine z_sipush (pc := 79) E (by decide) dX8_greatest_79 ?_
                refine lv_iload_n (pc := 82) E.1 E.2 dX8_greatest_82 rfl (lv_at hl 0 rfl) ?_
                refine z_iadd (pc := 83) E dX8_greatest_83 ?_
                refine z_laload (pc := 84) E hK hM.2.1 ⟨by omega, by omega⟩ (by decide) dX8_greatest_84 ?_
                have hb84 := hI.bd (249 + m)
                refine lv_aload_n (pc := 85) E.1 E.2 dX8_greatest_85 rfl (lv_at hl 2 rfl) ?_
                refine g8_0 (pc := 86) E hts hin8 hown hK hM.1 (hts _ (List.mem_of_getElem? (i := 2) rfl)) dX8_greatest_86 ?_
                refine z_sipush (pc := 89) E (by decide) dX8_greatest_89 ?_
                refine lv_iload_n (pc := 92) E.1 E.2 dX8_greatest_92 rfl (lv_at hl 1 rfl) ?_
                refine z_iadd (pc := 93) E dX8_greatest_93 ?_
                refine z_laload (pc := 94) E hK hM.2.1 ⟨by omega, by omega⟩ (by decide) dX8_greatest_94 ?_
                have hb94 := hI.bd (249 + b)
                refine z_lcmp_le (pc := 95) (tgt := 101) E ⟨by omega, by omega⟩ ⟨by omega, by omega⟩ dX8_greatest_95 dX8_greatest_96 (by decide) (fun h95 => ?_) (fun h95 => ?_)
                · refine lv_iinc (pc := 101) (v := iI (m + 1)) (lv' := [(3, .int (iI (m + 1))), (2, .int (iI b)), (0, .ref (o 0)), (1, .int (iI p))]) E.1 E.2 dX8_greatest_101 hl (k := 0) rfl (iI_add _ _) (by decide) rfl (fun ls hl => ?_)
                  refine lv_goto (pc := 104) (tgt := 35) E.1 E.2 dX8_greatest_104 (by decide) ?_
                  exact ihL35 b (m + 1) (by omega) (by rw [show (m + 1).toNat = m.toNat + 1 by omega, gf, Int.toNat_of_nonneg hm.1, ← hb]; first | (refine (if_pos (And.intro ?_ ?_)).symm; omega; omega) | (refine (if_neg (fun z => ?_)).symm; omega)) (by omega) ls (lv_sub hl [0, 1, 2, 3] rfl)
                · refine lv_iload_n (pc := 99) E.1 E.2 dX8_greatest_99 rfl (lv_at hl 0 rfl) ?_
                  refine lv_istore_n (pc := 100) (lv' := [(2, .int (iI m)), (3, .int (iI m)), (0, .ref (o 0)), (1, .int (iI p))]) E.1 E.2 dX8_greatest_100 rfl hl (by decide) rfl (fun ls hl => ?_)
                  refine lv_iinc (pc := 101) (v := iI (m + 1)) (lv' := [(3, .int (iI (m + 1))), (2, .int (iI m)), (0, .ref (o 0)), (1, .int (iI p))]) E.1 E.2 dX8_greatest_101 hl (k := 1) rfl (iI_add _ _) (by decide) rfl (fun ls hl => ?_)
                  refine lv_goto (pc := 104) (tgt := 35) E.1 E.2 dX8_greatest_104 (by decide) ?_
                  exact ihL35 m (m + 1) (by omega) (by rw [show (m + 1).toNat = m.toNat + 1 by omega, gf, Int.toNat_of_nonneg hm.1, ← hb]; first | (refine (if_pos (And.intro ?_ ?_)).symm; omega; omega) | (refine (if_neg (fun z => ?_)).symm; omega)) (by omega) ls (lv_sub hl [0, 1, 2, 3] rfl)
            · refine lv_goto (pc := 67) (tgt := 101) E.1 E.2 dX8_greatest_67 (by decide) ?_
              refine lv_iinc (pc := 101) (v := iI (m + 1)) (lv' := [(3, .int (iI (m + 1))), (2, .int (iI b)), (0, .ref (o 0)), (1, .int (iI p))]) E.1 E.2 dX8_greatest_101 hl (k := 0) rfl (iI_add _ _) (by decide) rfl (fun ls hl => ?_)
              refine lv_goto (pc := 104) (tgt := 35) E.1 E.2 dX8_greatest_104 (by decide) ?_
              exact ihL35 b (m + 1) (by omega) (by rw [show (m + 1).toNat = m.toNat + 1 by omega, gf, Int.toNat_of_nonneg hm.1, ← hb]; first | (refine (if_pos (And.intro ?_ ?_)).symm; omega; omega) | (refine (if_neg (fun z => ?_)).symm; omega)) (by omega) ls (lv_sub hl [0, 1, 2, 3] rfl)
    · refine z_iconst (pc := 23) E dX8_greatest_23 ?_
      refine lv_goto (pc := 24) (tgt := 28) E.1 E.2 dX8_greatest_24 (by decide) ?_
      refine p8_4 (pc := 28) E hts hin8 hown hK hM.1 hS (Ax.at 0 (by decide)) (hts _ (List.mem_of_getElem? (i := 1) rfl)) dX8_greatest_28 (fun H locs hnew hoth hS => ?_)
      have hM := W8.p hM hnew (fun a _ h => hoth a h)
      refine z_iconst (pc := 31) E dX8_greatest_31 ?_
      refine lv_istore_n (pc := 32) (lv' := [(2, .int (iI (-1))), (0, .ref (o 0)), (1, .int (iI p))]) E.1 E.2 dX8_greatest_32 rfl hl (by decide) rfl (fun ls hl => ?_)
      refine z_iconst (pc := 33) E dX8_greatest_33 ?_
      refine lv_istore_n (pc := 34) (lv' := [(3, .int (iI 0)), (2, .int (iI (-1))), (0, .ref (o 0)), (1, .int (iI p))]) E.1 E.2 dX8_greatest_34 rfl hl (by decide) rfl (fun ls hl => ?_)
      refine lv_iload_n (pc := 35) E.1 E.2 dX8_greatest_35 rfl (lv_at hl 0 rfl) ?_
      refine z_i2l (pc := 36) E (by decide) dX8_greatest_36 ?_
      refine lv_aload_n (pc := 37) E.1 E.2 dX8_greatest_37 rfl (lv_at hl 2 rfl) ?_
      refine g8_0 (pc := 38) E hts hin8 hown hK hM.1 (hts _ (List.mem_of_getElem? (i := 2) rfl)) dX8_greatest_38 ?_
      refine z_iconst (pc := 41) E dX8_greatest_41 ?_
      refine z_laload (pc := 42) E hK hM.2.1 ⟨by omega, by omega⟩ (by decide) dX8_greatest_42 ?_
      have hb42 := hI.bd 3
      refine z_lcmp_ge (pc := 43) (tgt := 107) E (by decide) ⟨by omega, by omega⟩ dX8_greatest_43 dX8_greatest_44 (by decide) (fun h43 => ?_) (fun h43 => ?_)
      · refine lv_aload_n (pc := 107) E.1 E.2 dX8_greatest_107 rfl (lv_at hl 2 rfl) ?_
        refine g8_4 (pc := 108) E hts hin8 hown hK hM.1 (hts _ (List.mem_of_getElem? (i := 1) rfl)) dX8_greatest_108 ?_
        refine z_if_le (pc := 111) (tgt := 118) E (by decide) dX8_greatest_111 (by decide) (fun h111 => ?_) (fun h111 => ?_)
        · exact absurd h111 (by decide)
        · refine z_iconst (pc := 114) E dX8_greatest_114 ?_
          refine lv_goto (pc := 115) (tgt := 119) E.1 E.2 dX8_greatest_115 (by decide) ?_
          exact z_retWi E hr (congrArg iI (by have e0 : (kxGreat σ p) = 2 := (by unfold kxGreat; (repeat' split) <;> first | rfl | omega | (exfalso; omega) | contradiction | grind); rw [e0]; exact (if_neg (by decide)).symm)) (by have e0 : (kxGreat σ p) = 2 := (by unfold kxGreat; (repeat' split) <;> first | rfl | omega | (exfalso; omega) | contradiction | grind); rw [e0]; exact W8.mu hM (by simp only [mV, zu, Int.reduceEq, reduceIte])) hS hlocks dX8_greatest_119
      · refine lv_aload_n (pc := 47) E.1 E.2 dX8_greatest_47 rfl (lv_at hl 2 rfl) ?_
        refine g8_4 (pc := 48) E hts hin8 hown hK hM.1 (hts _ (List.mem_of_getElem? (i := 1) rfl)) dX8_greatest_48 ?_
        refine z_if_ne (pc := 51) (tgt := 107) E (by decide) dX8_greatest_51 (by decide) (fun h51 => ?_) (fun h51 => ?_)
        · refine lv_aload_n (pc := 107) E.1 E.2 dX8_greatest_107 rfl (lv_at hl 2 rfl) ?_
          refine g8_4 (pc := 108) E hts hin8 hown hK hM.1 (hts _ (List.mem_of_getElem? (i := 1) rfl)) dX8_greatest_108 ?_
          refine z_if_le (pc := 111) (tgt := 118) E (by decide) dX8_greatest_111 (by decide) (fun h111 => ?_) (fun h111 => ?_)
          · exact absurd h111 (by decide)
          · refine z_iconst (pc := 114) E dX8_greatest_114 ?_
            refine lv_goto (pc := 115) (tgt := 119) E.1 E.2 dX8_greatest_115 (by decide) ?_
            exact z_retWi E hr (congrArg iI (by have e0 : (kxGreat σ p) = 2 := (by unfold kxGreat; (repeat' split) <;> first | rfl | omega | (exfalso; omega) | contradiction | grind); rw [e0]; exact (if_neg (by decide)).symm)) (by have e0 : (kxGreat σ p) = 2 := (by unfold kxGreat; (repeat' split) <;> first | rfl | omega | (exfalso; omega) | contradiction | grind); rw [e0]; exact W8.mu hM (by simp only [mV, zu, Int.reduceEq, reduceIte])) hS hlocks dX8_greatest_119
        · exact absurd h51 (by decide)
  · refine z_iconst (pc := 8) E dX8_greatest_8 ?_
    refine lv_goto (pc := 9) (tgt := 28) E.1 E.2 dX8_greatest_9 (by decide) ?_
    refine p8_4 (pc := 28) E hts hin8 hown hK hM.1 hS (Ax.at 0 (by decide)) (hts _ (List.mem_of_getElem? (i := 1) rfl)) dX8_greatest_28 (fun H locs hnew hoth hS => ?_)
    have hM := W8.p hM hnew (fun a _ h => hoth a h)
    refine z_iconst (pc := 31) E dX8_greatest_31 ?_
    refine lv_istore_n (pc := 32) (lv' := [(2, .int (iI (-1))), (0, .ref (o 0)), (1, .int (iI p))]) E.1 E.2 dX8_greatest_32 rfl hl (by decide) rfl (fun ls hl => ?_)
    refine z_iconst (pc := 33) E dX8_greatest_33 ?_
    refine lv_istore_n (pc := 34) (lv' := [(3, .int (iI 0)), (2, .int (iI (-1))), (0, .ref (o 0)), (1, .int (iI p))]) E.1 E.2 dX8_greatest_34 rfl hl (by decide) rfl (fun ls hl => ?_)
    refine lv_iload_n (pc := 35) E.1 E.2 dX8_greatest_35 rfl (lv_at hl 0 rfl) ?_
    refine z_i2l (pc := 36) E (by decide) dX8_greatest_36 ?_
    refine lv_aload_n (pc := 37) E.1 E.2 dX8_greatest_37 rfl (lv_at hl 2 rfl) ?_
    refine g8_0 (pc := 38) E hts hin8 hown hK hM.1 (hts _ (List.mem_of_getElem? (i := 2) rfl)) dX8_greatest_38 ?_
    refine z_iconst (pc := 41) E dX8_greatest_41 ?_
    refine z_laload (pc := 42) E hK hM.2.1 ⟨by omega, by omega⟩ (by decide) dX8_greatest_42 ?_
    have hb42 := hI.bd 3
    refine z_lcmp_ge (pc := 43) (tgt := 107) E (by decide) ⟨by omega, by omega⟩ dX8_greatest_43 dX8_greatest_44 (by decide) (fun h43 => ?_) (fun h43 => ?_)
    · refine lv_aload_n (pc := 107) E.1 E.2 dX8_greatest_107 rfl (lv_at hl 2 rfl) ?_
      refine g8_4 (pc := 108) E hts hin8 hown hK hM.1 (hts _ (List.mem_of_getElem? (i := 1) rfl)) dX8_greatest_108 ?_
      refine z_if_le (pc := 111) (tgt := 118) E (by decide) dX8_greatest_111 (by decide) (fun h111 => ?_) (fun h111 => ?_)
      · exact absurd h111 (by decide)
      · refine z_iconst (pc := 114) E dX8_greatest_114 ?_
        refine lv_goto (pc := 115) (tgt := 119) E.1 E.2 dX8_greatest_115 (by decide) ?_
        exact z_retWi E hr (congrArg iI (by have e0 : (kxGreat σ p) = 1 := (by unfold kxGreat; (repeat' split) <;> first | rfl | omega | (exfalso; omega) | contradiction | grind); rw [e0]; exact (if_neg (by decide)).symm)) (by have e0 : (kxGreat σ p) = 1 := (by unfold kxGreat; (repeat' split) <;> first | rfl | omega | (exfalso; omega) | contradiction | grind); rw [e0]; exact W8.mu hM (by simp only [mV, zu, Int.reduceEq, reduceIte])) hS hlocks dX8_greatest_119
    · refine lv_aload_n (pc := 47) E.1 E.2 dX8_greatest_47 rfl (lv_at hl 2 rfl) ?_
      refine g8_4 (pc := 48) E hts hin8 hown hK hM.1 (hts _ (List.mem_of_getElem? (i := 1) rfl)) dX8_greatest_48 ?_
      refine z_if_ne (pc := 51) (tgt := 107) E (by decide) dX8_greatest_51 (by decide) (fun h51 => ?_) (fun h51 => ?_)
      · refine lv_aload_n (pc := 107) E.1 E.2 dX8_greatest_107 rfl (lv_at hl 2 rfl) ?_
        refine g8_4 (pc := 108) E hts hin8 hown hK hM.1 (hts _ (List.mem_of_getElem? (i := 1) rfl)) dX8_greatest_108 ?_
        refine z_if_le (pc := 111) (tgt := 118) E (by decide) dX8_greatest_111 (by decide) (fun h111 => ?_) (fun h111 => ?_)
        · exact absurd h111 (by decide)
        · refine z_iconst (pc := 114) E dX8_greatest_114 ?_
          refine lv_goto (pc := 115) (tgt := 119) E.1 E.2 dX8_greatest_115 (by decide) ?_
          exact z_retWi E hr (congrArg iI (by have e0 : (kxGreat σ p) = 1 := (by unfold kxGreat; (repeat' split) <;> first | rfl | omega | (exfalso; omega) | contradiction | grind); rw [e0]; exact (if_neg (by decide)).symm)) (by have e0 : (kxGreat σ p) = 1 := (by unfold kxGreat; (repeat' split) <;> first | rfl | omega | (exfalso; omega) | contradiction | grind); rw [e0]; exact W8.mu hM (by simp only [mV, zu, Int.reduceEq, reduceIte])) hS hlocks dX8_greatest_119
      · exact absurd h51 (by decide)
set_option maxHeartbeats 1000000 in
set_option maxRecDepth 100000 in
theorem mX8_room (lL : Launch) (G : GG) (o : Nat → Nat) (μ σ φ κ β ω : Int → Int) (f : Int) (hI : In σ) (hf : -2147483648 ≤ f ∧ f < 2147483648) : Met lL yX8_room wsX8_room ({ frames := 4, cells := 0, slots := 0, locals := 101 } : Room) (va_Pc [.ref (o 0), .int (iI f)] (fun U => W8 G o (mV o μ) σ φ κ β ω U.heap ∧ KK G U)) (va_Qi (fun r (_ : Unit) => r = (iI (if (kxFo σ f) = 0 then rooS σ (pjF σ f) else 0))) (fun _ tZ => W8 G o (mV o (zu μ 4 (kxFo σ f))) σ φ κ β ω tZ.heap) (Ax o 6)) 0 0 (Ax o 6) := by
  refine z_met (P := (fun H : Heap => W8 G o (mV o μ) σ φ κ β ω H)) (by decide) rfl (Nat.le_of_ble_eq_true rfl) (fun pp ee ss mm below meth cC E hr hml hown hts hlocks hM hK ls hl => ?_)
  have hl : lv_has ls 4 [(0, .ref (o 0)), (1, .int (iI f))] := hl
  have hcs : 0 ≤ (({ frames := 4, cells := 0, slots := 0, locals := 101 } : Room)).cells ∧ 0 ≤ (({ frames := 4, cells := 0, slots := 0, locals := 101 } : Room)).slots := ⟨Nat.zero_le _, Nat.zero_le _⟩
  have hS : va_S (Ax o 6) ss.heap ss.heap [] := va_S.rf
  have hin8 : ∀ w ∈ wsX80, w ∈ wsX8_room := fun w h => List.mem_cons_of_mem _ (List.mem_append_right _ (h))
  have hF := hI.F
  have hMm := hI.M
  have hGn := hI.Gn
  have hTi := hI.ti
  have hGr := hI.gr
  refine lv_aload_n (pc := 0) E.1 E.2 dX8_room_0 rfl (lv_at hl 0 rfl) ?_
  refine lv_aload_n (pc := 1) E.1 E.2 dX8_room_1 rfl (lv_at hl 0 rfl) ?_
  refine lv_iload_n (pc := 2) E.1 E.2 dX8_room_2 rfl (lv_at hl 1 rfl) ?_
  refine z_rVi (pc := 3) (As := [.int (iI f)]) (rest := [.ref (o 0)]) E hml hown hts (mX8_isFolder lL G o μ σ φ κ β ω f hI (by omega)) (cwV 1 hts gX8_room_X8_isFolder rfl rfl rfl vdX8_isFolder ⟨Nat.le_of_ble_eq_true rfl, Nat.le_of_ble_eq_true rfl⟩) (oB.recv hK hM.1 rfl) hM hK rfl hl.1 rfl dX8_room_3 hcs (Nat.le_of_ble_eq_true rfl) ?_
  refine z_ifb_eq (pc := 6) (tgt := 13) E dX8_room_6 (by decide) (fun h6 => ?_) (fun h6 => ?_)
  · refine z_iconst (pc := 13) E dX8_room_13 ?_
    refine p8_4 (pc := 14) E hts hin8 hown hK hM.1 hS (Ax.at 0 (by decide)) (hts _ (List.mem_of_getElem? (i := 1) rfl)) dX8_room_14 (fun H locs hnew hoth hS => ?_)
    have hM := W8.p hM hnew (fun a _ h => hoth a h)
    refine lv_aload_n (pc := 17) E.1 E.2 dX8_room_17 rfl (lv_at hl 0 rfl) ?_
    refine g8_4 (pc := 18) E hts hin8 hown hK hM.1 (hts _ (List.mem_of_getElem? (i := 1) rfl)) dX8_room_18 ?_
    refine z_if_le (pc := 21) (tgt := 26) E (by decide) dX8_room_21 (by decide) (fun h21 => ?_) (fun h21 => ?_)
    · exact absurd h21 (by decide)
    · refine z_iconst (pc := 24) E dX8_room_24 ?_
      exact z_retWi E hr (congrArg iI (by have e0 : (kxFo σ f) = 1 := (by unfold kxFo; (repeat' split) <;> first | rfl | omega | (exfalso; omega) | contradiction | grind); rw [e0]; exact (if_neg (by decide)).symm)) (by have e0 : (kxFo σ f) = 1 := (by unfold kxFo; (repeat' split) <;> first | rfl | omega | (exfalso; omega) | contradiction | grind); rw [e0]; exact W8.mu hM (by simp only [mV, zu, Int.reduceEq, reduceIte])) hS hlocks dX8_room_25
  · refine z_iconst (pc := 9) E dX8_room_9 ?_
    refine lv_goto (pc := 10) (tgt := 14) E.1 E.2 dX8_room_10 (by decide) ?_
    refine p8_4 (pc := 14) E hts hin8 hown hK hM.1 hS (Ax.at 0 (by decide)) (hts _ (List.mem_of_getElem? (i := 1) rfl)) dX8_room_14 (fun H locs hnew hoth hS => ?_)
    have hM := W8.p hM hnew (fun a _ h => hoth a h)
    refine lv_aload_n (pc := 17) E.1 E.2 dX8_room_17 rfl (lv_at hl 0 rfl) ?_
    refine g8_4 (pc := 18) E hts hin8 hown hK hM.1 (hts _ (List.mem_of_getElem? (i := 1) rfl)) dX8_room_18 ?_
    refine z_if_le (pc := 21) (tgt := 26) E (by decide) dX8_room_21 (by decide) (fun h21 => ?_) (fun h21 => ?_)
    · refine lv_aload_n (pc := 26) E.1 E.2 dX8_room_26 rfl (lv_at hl 0 rfl) ?_
      refine lv_iload_n (pc := 27) E.1 E.2 dX8_room_27 rfl (lv_at hl 1 rfl) ?_
      refine z_rVi (pc := 28) (As := [.int (iI f)]) (rest := []) E hml hown hts (mX8_projectOf lL G o (zu μ 4 0) σ φ κ β ω f hI (Or.inr (by omega))) (cwV 1 hts gX8_room_X8_projectOf rfl rfl rfl vdX8_projectOf ⟨Nat.le_of_ble_eq_true rfl, Nat.le_of_ble_eq_true rfl⟩) (oB.recv hK hM.1 rfl) (W8.mu hM (by simp only [mV, zu, Int.reduceEq, reduceIte])) hK rfl hl.1 rfl dX8_room_28 hcs (Nat.le_of_ble_eq_true rfl) ?_
      have hpj := hI.pjr (f := f) (Or.inr (by omega))
      refine lv_istore_n (pc := 31) (lv' := [(2, .int (iI (pjF σ f))), (0, .ref (o 0)), (1, .int (iI f))]) E.1 E.2 dX8_room_31 rfl hl (by decide) rfl (fun ls hl => ?_)
      refine z_sipush (pc := 32) E (by decide) dX8_room_32 ?_
      refine lv_istore_n (pc := 35) (lv' := [(3, .int (iI 9999)), (2, .int (iI (pjF σ f))), (0, .ref (o 0)), (1, .int (iI f))]) E.1 E.2 dX8_room_35 rfl hl (by decide) rfl (fun ls hl => ?_)
      suffices L36 : ∀ (nf : Nat), ∀ (b : Int), (-1 ≤ b ∧ b ≤ 9999) → (∀ x : Int, b < x → x ≤ 9999 → ¬ rsS σ (pjF σ f) x 1 = 0) → ((b + 1).toNat) < nf → ∀ ls : Array Slot, lv_has ls 4 [(3, .int (iI b)), (2, .int (iI (pjF σ f))), (0, .ref (o 0)), (1, .int (iI f))] → W pp lL ee ({ frames := 4, cells := 0, slots := 0, locals := 101 } : Room) ss mm [.ref (o 0), .int (iI f)].toArray below meth cC H locs 0 0 (MQ below (va_Qi (fun r (_ : Unit) => r = (iI (if (kxFo σ f) = 0 then rooS σ (pjF σ f) else 0))) (fun _ tZ => W8 G o (mV o (zu μ 4 (kxFo σ f))) σ φ κ β ω tZ.heap) (Ax o 6)) [.ref (o 0), .int (iI f)].toArray ss 0 0 (Ax o 6)) (F0 mm 36 ls []) from L36 _ 9999 (by omega) (fun x h0 h1 => by omega) (Nat.lt_succ_self _) ls (lv_sub hl [0, 1, 2, 3] rfl)
      intro nfL36
      induction nfL36 with
      | zero => intro b hb hx hmzL36; exact absurd hmzL36 (Nat.not_lt_zero _)
      | succ nfL36 ihL36 =>
        intro b hb hx hmzL36 ls hl
        refine lv_iload_n (pc := 36) E.1 E.2 dX8_room_36 rfl (lv_at hl 0 rfl) ?_
        refine z_if_lt (pc := 37) (tgt := 57) E ⟨by omega, by omega⟩ dX8_room_37 (by decide) (fun h37 => ?_) (fun h37 => ?_)
        · refine lv_iload_n (pc := 57) E.1 E.2 dX8_room_57 rfl (lv_at hl 0 rfl) ?_
          exact z_retWi E hr (congrArg iI (by have e0 : (kxFo σ f) = 0 := (by unfold kxFo; (repeat' split) <;> first | rfl | omega | (exfalso; omega) | contradiction | grind); rw [e0]; refine Eq.trans ?_ (if_pos rfl).symm; (first | exact (roo_v (by omega) (by omega) hx).symm | (rw [roo_n (hx 0 (by omega) (by omega))]; omega)))) (by have e0 : (kxFo σ f) = 0 := (by unfold kxFo; (repeat' split) <;> first | rfl | omega | (exfalso; omega) | contradiction | grind); rw [e0]; exact W8.mu hM (by simp only [mV, zu, Int.reduceEq, reduceIte])) hS hlocks dX8_room_58
        · refine lv_aload_n (pc := 40) E.1 E.2 dX8_room_40 rfl (lv_at hl 2 rfl) ?_
          refine lv_iload_n (pc := 41) E.1 E.2 dX8_room_41 rfl (lv_at hl 1 rfl) ?_
          refine lv_iload_n (pc := 42) E.1 E.2 dX8_room_42 rfl (lv_at hl 0 rfl) ?_
          refine z_i2l (pc := 43) E ⟨by omega, by omega⟩ dX8_room_43 ?_
          refine z_lconst (pc := 44) (v := 1) E (by decide) dX8_room_44 ?_
          refine z_rVi (pc := 45) (As := [.int (iI (pjF σ f)), .long (iL b), .long (iL 1)]) (rest := []) E hml hown hts (mX8_reasonFor lL G o (zu μ 4 0) σ φ κ β ω (pjF σ f) b 1 hI (by omega) (by omega) (by omega)) (cwV 3 hts gX8_room_X8_reasonFor rfl rfl rfl vdX8_reasonFor ⟨Nat.le_of_ble_eq_true rfl, Nat.le_of_ble_eq_true rfl⟩) (oB.recv hK hM.1 rfl) (W8.mu hM (by simp only [mV, zu, Int.reduceEq, reduceIte])) hK rfl hl.1 rfl dX8_room_45 hcs (Nat.le_of_ble_eq_true rfl) ?_
          have hrs := rsS_b σ (pjF σ f) b 1
          refine z_if_le (pc := 48) (tgt := 57) E ⟨by omega, by omega⟩ dX8_room_48 (by decide) (fun h48 => ?_) (fun h48 => ?_)
          · refine lv_iload_n (pc := 57) E.1 E.2 dX8_room_57 rfl (lv_at hl 0 rfl) ?_
            exact z_retWi E hr (congrArg iI (by have e0 : (kxFo σ f) = 0 := (by unfold kxFo; (repeat' split) <;> first | rfl | omega | (exfalso; omega) | contradiction | grind); rw [e0]; refine Eq.trans ?_ (if_pos rfl).symm; (first | exact (roo_v (by omega) (by omega) hx).symm | (rw [roo_n (hx 0 (by omega) (by omega))]; omega)))) (by have e0 : (kxFo σ f) = 0 := (by unfold kxFo; (repeat' split) <;> first | rfl | omega | (exfalso; omega) | contradiction | grind); rw [e0]; exact W8.mu hM (by simp only [mV, zu, Int.reduceEq, reduceIte])) hS hlocks dX8_room_58
          · refine lv_iinc (pc := 51) (v := iI (b + (-1))) (lv' := [(3, .int (iI (b + (-1)))), (2, .int (iI (pjF σ f))), (0, .ref (o 0)), (1, .int (iI f))]) E.1 E.2 dX8_room_51 hl (k := 0) rfl (iI_add _ _) (by decide) rfl (fun ls hl => ?_)
            refine lv_goto (pc := 54) (tgt := 36) E.1 E.2 dX8_room_54 (by decide) ?_
            exact ihL36 (b + (-1)) (by omega) (fun x h0 h1 => by by_cases q : x = b; rw [q]; omega; exact hx x (by omega) h1) (by omega) ls (lv_sub hl [0, 1, 2, 3] rfl)
    · exact absurd h21 (by decide)
set_option maxHeartbeats 1000000 in
set_option maxRecDepth 100000 in
theorem mX8_nextEvent (lL : Launch) (G : GG) (o : Nat → Nat) (μ σ φ κ β ω : Int → Int) (hI : In σ) (hE : Ge σ) : Met lL yX8_nextEvent wsX8_nextEvent ({ frames := 1, cells := 0, slots := 0, locals := 24 } : Room) (va_Pc [.ref (o 0)] (fun U => W8 G o (mV o μ) σ φ κ β ω U.heap ∧ KK G U)) (va_Qi (fun r (_ : Unit) => r = (iI (axNext σ))) (fun _ tZ => W8 G o (mV o (zu μ 4 (0))) σ φ κ β ω tZ.heap) (Ax o 6)) 0 0 (Ax o 6) := by
  refine z_met (P := (fun H : Heap => W8 G o (mV o μ) σ φ κ β ω H)) (by decide) rfl (Nat.le_of_ble_eq_true rfl) (fun pp ee ss mm below meth cC E hr hml hown hts hlocks hM hK ls hl => ?_)
  have hl : lv_has ls 4 [(0, .ref (o 0))] := hl
  have hcs : 0 ≤ (({ frames := 1, cells := 0, slots := 0, locals := 24 } : Room)).cells ∧ 0 ≤ (({ frames := 1, cells := 0, slots := 0, locals := 24 } : Room)).slots := ⟨Nat.zero_le _, Nat.zero_le _⟩
  have hS : va_S (Ax o 6) ss.heap ss.heap [] := va_S.rf
  have hin8 : ∀ w ∈ wsX80, w ∈ wsX8_nextEvent := fun w h => List.mem_cons_of_mem _ (List.mem_append_right _ (h))
  have hF := hI.F
  have hMm := hI.M
  have hGn := hI.Gn
  have hTi := hI.ti
  have hGr := hI.gr
  refine lv_aload_n (pc := 0) E.1 E.2 dX8_nextEvent_0 rfl (lv_at hl 0 rfl) ?_
  refine z_iconst (pc := 1) E dX8_nextEvent_1 ?_
  refine p8_4 (pc := 2) E hts hin8 hown hK hM.1 hS (Ax.at 0 (by decide)) (hts _ (List.mem_of_getElem? (i := 1) rfl)) dX8_nextEvent_2 (fun H locs hnew hoth hS => ?_)
  have hM := W8.p hM hnew (fun a _ h => hoth a h)
  refine lv_ldc2 (pc := 5) (v := iL (-1)) E.1 E.2 hown (show (Jvm.Cond.constantLong RX8 37 (iL (-1))).before _ ss = true from (hts _ (List.mem_of_getElem? (i := 2) rfl))) dX8_nextEvent_5 ?_
  refine lv_lstore_n (pc := 8) (lv' := [(1, .long (iL (-1))), (0, .ref (o 0))]) E.1 E.2 dX8_nextEvent_8 rfl hl (by decide) rfl (fun ls hl => ?_)
  refine z_iconst (pc := 9) E dX8_nextEvent_9 ?_
  refine lv_istore_n (pc := 10) (lv' := [(3, .int (iI 0)), (1, .long (iL (-1))), (0, .ref (o 0))]) E.1 E.2 dX8_nextEvent_10 rfl hl (by decide) rfl (fun ls hl => ?_)
  suffices L11 : ∀ (nf : Nat), ∀ (n g : Int), (0 ≤ g ∧ g ≤ σ 4) → (n = fe σ g.toNat) → ((σ 4 - g).toNat) < nf → ∀ ls : Array Slot, lv_has ls 4 [(3, .int (iI g)), (1, .long (iL n)), (0, .ref (o 0))] → W pp lL ee ({ frames := 1, cells := 0, slots := 0, locals := 24 } : Room) ss mm [.ref (o 0)].toArray below meth cC H locs 0 0 (MQ below (va_Qi (fun r (_ : Unit) => r = (iI (axNext σ))) (fun _ tZ => W8 G o (mV o (zu μ 4 (0))) σ φ κ β ω tZ.heap) (Ax o 6)) [.ref (o 0)].toArray ss 0 0 (Ax o 6)) (F0 mm 11 ls []) from L11 _ (-1) 0 (by omega) rfl (Nat.lt_succ_self _) ls (lv_sub hl [0, 1, 2] rfl)
  intro nfL11
  induction nfL11 with
  | zero => intro n g hg hn hmzL11; exact absurd hmzL11 (Nat.not_lt_zero _)
  | succ nfL11 ihL11 =>
    intro n g hg hn hmzL11 ls hl
    have hnb := fe_b hI g.toNat (by omega)
    refine lv_iload_n (pc := 11) E.1 E.2 dX8_nextEvent_11 rfl (lv_at hl 0 rfl) ?_
    refine z_i2l (pc := 12) E ⟨by omega, by omega⟩ dX8_nextEvent_12 ?_
    refine lv_aload_n (pc := 13) E.1 E.2 dX8_nextEvent_13 rfl (lv_at hl 2 rfl) ?_
    refine g8_0 (pc := 14) E hts hin8 hown hK hM.1 (hts _ (List.mem_of_getElem? (i := 3) rfl)) dX8_nextEvent_14 ?_
    refine z_iconst (pc := 17) E dX8_nextEvent_17 ?_
    refine z_laload (pc := 18) E hK hM.2.1 ⟨by omega, by omega⟩ (by decide) dX8_nextEvent_18 ?_
    have hb18 := hI.bd 4
    refine z_lcmp_ge (pc := 19) (tgt := 49) E ⟨by omega, by omega⟩ ⟨by omega, by omega⟩ dX8_nextEvent_19 dX8_nextEvent_20 (by decide) (fun h19 => ?_) (fun h19 => ?_)
    · have hn' := hn
      refine z_iconst (pc := 49) E dX8_nextEvent_49 ?_
      refine lv_istore_n (pc := 50) (lv' := [(3, .int (iI 0)), (1, .long (iL n)), (0, .ref (o 0))]) E.1 E.2 dX8_nextEvent_50 rfl hl (by decide) rfl (fun ls hl => ?_)
      suffices L51 : ∀ (nf : Nat), ∀ (n k : Int), (0 ≤ k ∧ k ≤ 16) → (n = eeS σ (feS σ) (fg σ k.toNat)) → ((16 - k).toNat) < nf → ∀ ls : Array Slot, lv_has ls 4 [(3, .int (iI k)), (1, .long (iL n)), (0, .ref (o 0))] → W pp lL ee ({ frames := 1, cells := 0, slots := 0, locals := 24 } : Room) ss mm [.ref (o 0)].toArray below meth cC H locs 0 0 (MQ below (va_Qi (fun r (_ : Unit) => r = (iI (axNext σ))) (fun _ tZ => W8 G o (mV o (zu μ 4 (0))) σ φ κ β ω tZ.heap) (Ax o 6)) [.ref (o 0)].toArray ss 0 0 (Ax o 6)) (F0 mm 51 ls []) from L51 _ n 0 (by omega) (by rw [hn', show g = σ 4 by omega]; exact ee_0 hI hE) (Nat.lt_succ_self _) ls (lv_sub hl [0, 1, 2] rfl)
      intro nfL51
      induction nfL51 with
      | zero => intro n k hk hn hmzL51; exact absurd hmzL51 (Nat.not_lt_zero _)
      | succ nfL51 ihL51 =>
        intro n k hk hn hmzL51 ls hl
        have hnb : -1 ≤ n ∧ n ≤ 19999 := by rw [hn]; exact eeS_b (feS_b hI) (fg_b hI k.toNat (by omega))
        refine lv_iload_n (pc := 51) E.1 E.2 dX8_nextEvent_51 rfl (lv_at hl 0 rfl) ?_
        refine z_bipush (pc := 52) E (by decide) dX8_nextEvent_52 ?_
        refine z_icmp_ge (pc := 54) (tgt := 105) E ⟨by omega, by omega⟩ (by decide) dX8_nextEvent_54 (by decide) (fun h54 => ?_) (fun h54 => ?_)
        · refine lv_lload_n (pc := 105) E.1 E.2 dX8_nextEvent_105 rfl (lv_at hl 1 rfl) ?_
          refine z_l2i (pc := 106) E dX8_nextEvent_106 ?_
          exact z_retWi E hr (congrArg iI (by (rw [hn, show k = 16 by omega]; rfl))) (W8.mu hM (by simp only [mV, zu, Int.reduceEq, reduceIte])) hS hlocks dX8_nextEvent_107
        · refine lv_aload_n (pc := 57) E.1 E.2 dX8_nextEvent_57 rfl (lv_at hl 2 rfl) ?_
          refine g8_0 (pc := 58) E hts hin8 hown hK hM.1 (hts _ (List.mem_of_getElem? (i := 3) rfl)) dX8_nextEvent_58 ?_
          refine z_bipush (pc := 61) E (by decide) dX8_nextEvent_61 ?_
          refine lv_iload_n (pc := 63) E.1 E.2 dX8_nextEvent_63 rfl (lv_at hl 0 rfl) ?_
          refine z_iadd (pc := 64) E dX8_nextEvent_64 ?_
          refine z_laload (pc := 65) E hK hM.2.1 ⟨by omega, by omega⟩ (by decide) dX8_nextEvent_65 ?_
          have hb65 := hI.bd (53 + k)
          have hck := hI.acc (k := k) hk.1 (by omega)
          refine lv_ldc2 (pc := 66) (v := iL (-1)) E.1 E.2 hown (show (Jvm.Cond.constantLong RX8 37 (iL (-1))).before _ ss = true from (hts _ (List.mem_of_getElem? (i := 2) rfl))) dX8_nextEvent_66 ?_
          refine z_lcmp_ne (pc := 69) (tgt := 77) E ⟨by omega, by omega⟩ (by decide) dX8_nextEvent_69 dX8_nextEvent_70 (by decide) (fun h69 => ?_) (fun h69 => ?_)
          · refine lv_aload_n (pc := 77) E.1 E.2 dX8_nextEvent_77 rfl (lv_at hl 2 rfl) ?_
            refine lv_lload_n (pc := 78) E.1 E.2 dX8_nextEvent_78 rfl (lv_at hl 1 rfl) ?_
            refine lv_aload_n (pc := 79) E.1 E.2 dX8_nextEvent_79 rfl (lv_at hl 2 rfl) ?_
            refine g8_0 (pc := 80) E hts hin8 hown hK hM.1 (hts _ (List.mem_of_getElem? (i := 3) rfl)) dX8_nextEvent_80 ?_
            refine z_bipush (pc := 83) E (by decide) dX8_nextEvent_83 ?_
            refine lv_iload_n (pc := 85) E.1 E.2 dX8_nextEvent_85 rfl (lv_at hl 0 rfl) ?_
            refine z_iadd (pc := 86) E dX8_nextEvent_86 ?_
            refine z_laload (pc := 87) E hK hM.2.1 ⟨by omega, by omega⟩ (by decide) dX8_nextEvent_87 ?_
            have hb87 := hI.bd (53 + k)
            refine lv_aload_n (pc := 88) E.1 E.2 dX8_nextEvent_88 rfl (lv_at hl 2 rfl) ?_
            refine g8_0 (pc := 89) E hts hin8 hown hK hM.1 (hts _ (List.mem_of_getElem? (i := 3) rfl)) dX8_nextEvent_89 ?_
            refine z_iconst (pc := 92) E dX8_nextEvent_92 ?_
            refine z_laload (pc := 93) E hK hM.2.1 ⟨by omega, by omega⟩ (by decide) dX8_nextEvent_93 ?_
            have hb93 := hI.bd 1
            refine z_ladd (pc := 94) E dX8_nextEvent_94 ?_
            refine z_rVl (pc := 95) (As := [.long (iL n), .long (iL ((σ (53 + k)) + (σ 1)))]) (rest := []) E hml hown hts (mX8_sooner lL G o (zu μ 4 0) σ φ κ β ω n ((σ (53 + k)) + (σ 1)) hI (by omega) (by omega)) (cwV 2 hts gX8_nextEvent_X8_sooner rfl rfl rfl vdX8_sooner ⟨Nat.le_of_ble_eq_true rfl, Nat.le_of_ble_eq_true rfl⟩) (oB.recv hK hM.1 rfl) (W8.mu hM (by simp only [mV, zu, Int.reduceEq, reduceIte])) hK rfl hl.1 rfl dX8_nextEvent_95 hcs (Nat.le_of_ble_eq_true rfl) ?_
            refine lv_lstore_n (pc := 98) (lv' := [(1, .long (iL (snS σ n ((σ (53 + k)) + (σ 1))))), (3, .int (iI k)), (0, .ref (o 0))]) E.1 E.2 dX8_nextEvent_98 rfl hl (by decide) rfl (fun ls hl => ?_)
            refine lv_iinc (pc := 99) (v := iI (k + 1)) (lv' := [(3, .int (iI (k + 1))), (1, .long (iL (snS σ n ((σ (53 + k)) + (σ 1))))), (0, .ref (o 0))]) E.1 E.2 dX8_nextEvent_99 hl (k := 1) rfl (iI_add _ _) (by decide) rfl (fun ls hl => ?_)
            refine lv_goto (pc := 102) (tgt := 51) E.1 E.2 dX8_nextEvent_102 (by decide) ?_
            exact ihL51 (snS σ n ((σ (53 + k)) + (σ 1))) (k + 1) (by omega) (by rw [ee_s hI hE hk.1, hn]; first | exact (if_pos (by omega)).symm | exact (if_neg (by omega)).symm) (by omega) ls (lv_sub hl [0, 1, 2] rfl)
          · refine lv_lload_n (pc := 73) E.1 E.2 dX8_nextEvent_73 rfl (lv_at hl 1 rfl) ?_
            refine lv_goto (pc := 74) (tgt := 98) E.1 E.2 dX8_nextEvent_74 (by decide) ?_
            refine lv_lstore_n (pc := 98) (lv' := [(1, .long (iL n)), (3, .int (iI k)), (0, .ref (o 0))]) E.1 E.2 dX8_nextEvent_98 rfl hl (by decide) rfl (fun ls hl => ?_)
            refine lv_iinc (pc := 99) (v := iI (k + 1)) (lv' := [(3, .int (iI (k + 1))), (1, .long (iL n)), (0, .ref (o 0))]) E.1 E.2 dX8_nextEvent_99 hl (k := 1) rfl (iI_add _ _) (by decide) rfl (fun ls hl => ?_)
            refine lv_goto (pc := 102) (tgt := 51) E.1 E.2 dX8_nextEvent_102 (by decide) ?_
            exact ihL51 n (k + 1) (by omega) (by rw [ee_s hI hE hk.1, hn]; first | exact (if_pos (by omega)).symm | exact (if_neg (by omega)).symm) (by omega) ls (lv_sub hl [0, 1, 2] rfl)
    · refine lv_aload_n (pc := 23) E.1 E.2 dX8_nextEvent_23 rfl (lv_at hl 2 rfl) ?_
      refine lv_lload_n (pc := 24) E.1 E.2 dX8_nextEvent_24 rfl (lv_at hl 1 rfl) ?_
      refine lv_aload_n (pc := 25) E.1 E.2 dX8_nextEvent_25 rfl (lv_at hl 2 rfl) ?_
      refine g8_0 (pc := 26) E hts hin8 hown hK hM.1 (hts _ (List.mem_of_getElem? (i := 3) rfl)) dX8_nextEvent_26 ?_
      refine z_sipush (pc := 29) E (by decide) dX8_nextEvent_29 ?_
      refine z_iconst (pc := 32) E dX8_nextEvent_32 ?_
      refine lv_iload_n (pc := 33) E.1 E.2 dX8_nextEvent_33 rfl (lv_at hl 0 rfl) ?_
      refine z_imul (pc := 34) E dX8_nextEvent_34 ?_
      refine z_iadd (pc := 35) E dX8_nextEvent_35 ?_
      refine z_iconst (pc := 36) E dX8_nextEvent_36 ?_
      refine z_iadd (pc := 37) E dX8_nextEvent_37 ?_
      refine z_laload (pc := 38) E hK hM.2.1 ⟨by omega, by omega⟩ (by decide) dX8_nextEvent_38 ?_
      have hb38 := hI.bd ((309 + (4 * g)) + 3)
      have hgk := hI.gft hg.1 (by omega)
      refine z_rVl (pc := 39) (As := [.long (iL n), .long (iL (σ ((309 + (4 * g)) + 3)))]) (rest := []) E hml hown hts (mX8_sooner lL G o (zu μ 4 0) σ φ κ β ω n (σ ((309 + (4 * g)) + 3)) (by omega) (by omega) (by omega)) (cwV 2 hts gX8_nextEvent_X8_sooner rfl rfl rfl vdX8_sooner ⟨Nat.le_of_ble_eq_true rfl, Nat.le_of_ble_eq_true rfl⟩) (oB.recv hK hM.1 rfl) (W8.mu hM (by simp only [mV, zu, Int.reduceEq, reduceIte])) hK rfl hl.1 rfl dX8_nextEvent_39 hcs (Nat.le_of_ble_eq_true rfl) ?_
      refine lv_lstore_n (pc := 42) (lv' := [(1, .long (iL (snS σ n (σ ((309 + (4 * g)) + 3))))), (3, .int (iI g)), (0, .ref (o 0))]) E.1 E.2 dX8_nextEvent_42 rfl hl (by decide) rfl (fun ls hl => ?_)
      refine lv_iinc (pc := 43) (v := iI (g + 1)) (lv' := [(3, .int (iI (g + 1))), (1, .long (iL (snS σ n (σ ((309 + (4 * g)) + 3))))), (0, .ref (o 0))]) E.1 E.2 dX8_nextEvent_43 hl (k := 1) rfl (iI_add _ _) (by decide) rfl (fun ls hl => ?_)
      refine lv_goto (pc := 46) (tgt := 11) E.1 E.2 dX8_nextEvent_46 (by decide) ?_
      exact ihL11 (snS σ n (σ ((309 + (4 * g)) + 3))) (g + 1) (by omega) (by rw [hn]; exact fe_sn hI hE hg.1 (by omega)) (by omega) ls (lv_sub hl [0, 1, 2] rfl)
