theorem vdX8_moveFile : yX8_moveFile.cls = RX8 ∧ yX8_moveFile.cls ≠ "java/lang/invoke/MethodHandle" ∧ yX8_moveFile.cls ≠ "java/lang/invoke/VarHandle" ∧ (parseMethodDescriptor yX8_moveFile.desc).map (fun d => d.parameters.length) = some 2 := by decide +kernel
theorem vdX8_setLimit : yX8_setLimit.cls = RX8 ∧ yX8_setLimit.cls ≠ "java/lang/invoke/MethodHandle" ∧ yX8_setLimit.cls ≠ "java/lang/invoke/VarHandle" ∧ (parseMethodDescriptor yX8_setLimit.desc).map (fun d => d.parameters.length) = some 4 := by decide +kernel
theorem vdX8_setGrace : yX8_setGrace.cls = RX8 ∧ yX8_setGrace.cls ≠ "java/lang/invoke/MethodHandle" ∧ yX8_setGrace.cls ≠ "java/lang/invoke/VarHandle" ∧ (parseMethodDescriptor yX8_setGrace.desc).map (fun d => d.parameters.length) = some 1 := by decide +kernel
theorem vdX8_gift : yX8_gift.cls = RX8 ∧ yX8_gift.cls ≠ "java/lang/invoke/MethodHandle" ∧ yX8_gift.cls ≠ "java/lang/invoke/VarHandle" ∧ (parseMethodDescriptor yX8_gift.desc).map (fun d => d.parameters.length) = some 4 := by decide +kernel
theorem vdX8_endGift : yX8_endGift.cls = RX8 ∧ yX8_endGift.cls ≠ "java/lang/invoke/MethodHandle" ∧ yX8_endGift.cls ≠ "java/lang/invoke/VarHandle" ∧ (parseMethodDescriptor yX8_endGift.desc).map (fun d => d.parameters.length) = some 1 := by decide +kernel
theorem vdX8_adjust : yX8_adjust.cls = RX8 ∧ yX8_adjust.cls ≠ "java/lang/invoke/MethodHandle" ∧ yX8_adjust.cls ≠ "java/lang/invoke/VarHandle" ∧ (parseMethodDescriptor yX8_adjust.desc).map (fun d => d.parameters.length) = some 3 := by decide +kernel
theorem vdX8_repair : yX8_repair.cls = RX8 ∧ yX8_repair.cls ≠ "java/lang/invoke/MethodHandle" ∧ yX8_repair.cls ≠ "java/lang/invoke/VarHandle" ∧ (parseMethodDescriptor yX8_repair.desc).map (fun d => d.parameters.length) = some 0 := by decide +kernel
theorem vdX8_undo : yX8_undo.cls = RX8 ∧ yX8_undo.cls ≠ "java/lang/invoke/MethodHandle" ∧ yX8_undo.cls ≠ "java/lang/invoke/VarHandle" ∧ (parseMethodDescriptor yX8_undo.desc).map (fun d => d.parameters.length) = some 0 := by decide +kernel
theorem vdX8_tick : yX8_tick.cls = RX8 ∧ yX8_tick.cls ≠ "java/lang/invoke/MethodHandle" ∧ yX8_tick.cls ≠ "java/lang/invoke/VarHandle" ∧ (parseMethodDescriptor yX8_tick.desc).map (fun d => d.parameters.length) = some 1 := by decide +kernel
set_option maxHeartbeats 1000000 in
set_option maxRecDepth 100000 in
theorem mX8_moveFile (lL : Launch) (G : GG) (o : Nat → Nat) (μ σ φ κ β ω : Int → Int) (k : Int) (f : Int) (hI : In σ) (hk : -2147483648 ≤ k ∧ k < 2147483648) (hf : -2147483648 ≤ f ∧ f < 2147483648) (hk8 : 0 ≤ μ 3 ∧ μ 3 ≤ 8) (hU : Ub σ) : Met lL yX8_moveFile wsX8_moveFile ({ frames := 5, cells := 0, slots := 0, locals := 124 } : Room) (va_Pc [.ref (o 0), .int (iI k), .int (iI f)] (fun U => W8 G o (mV o μ) σ φ κ β ω U.heap ∧ KK G U)) (va_Qi (fun r (_ : Unit) => r = (iI (if (kxMoveFi σ k f) = 0 then axMoveFi σ k f else 0))) (fun _ tZ => W8 G o (mV o (zu (zu μ 4 (kxMoveFi σ k f)) 3 (if (kxMoveFi σ k f) = 0 then keM (μ 3) else μ 3))) (if (kxMoveFi σ k f) = 0 then nxMoveFi σ k f else σ) φ (if (kxMoveFi σ k f) = 0 then keK κ σ (μ 3) else κ) β ω tZ.heap) (Ax o 6)) 0 0 (Ax o 6) := by
  refine z_met (P := (fun H : Heap => W8 G o (mV o μ) σ φ κ β ω H)) (by decide) rfl (Nat.le_of_ble_eq_true rfl) (fun pp ee ss mm below meth cC E hr hml hown hts hlocks hM hK ls hl => ?_)
  have hl : lv_has ls 5 [(0, .ref (o 0)), (1, .int (iI k)), (2, .int (iI f))] := hl
  have hcs : 0 ≤ (({ frames := 5, cells := 0, slots := 0, locals := 124 } : Room)).cells ∧ 0 ≤ (({ frames := 5, cells := 0, slots := 0, locals := 124 } : Room)).slots := ⟨Nat.zero_le _, Nat.zero_le _⟩
  have hS : va_S (Ax o 6) ss.heap ss.heap [] := va_S.rf
  have hin8 : ∀ w ∈ wsX80, w ∈ wsX8_moveFile := fun w h => List.mem_cons_of_mem _ (List.mem_append_right _ (h))
  have hF := hI.F
  have hMm := hI.M
  have hGn := hI.Gn
  have hTi := hI.ti
  have hGr := hI.gr
  refine lv_aload_n (pc := 0) E.1 E.2 dX8_moveFile_0 rfl (lv_at hl 0 rfl) ?_
  refine lv_aload_n (pc := 1) E.1 E.2 dX8_moveFile_1 rfl (lv_at hl 0 rfl) ?_
  refine lv_iload_n (pc := 2) E.1 E.2 dX8_moveFile_2 rfl (lv_at hl 1 rfl) ?_
  refine z_rVi (pc := 3) (As := [.int (iI k)]) (rest := [.ref (o 0)]) E hml hown hts (mX8_isFile lL G o μ σ φ κ β ω k hI (by omega)) (cwV 1 hts gX8_moveFile_X8_isFile rfl rfl rfl vdX8_isFile ⟨Nat.le_of_ble_eq_true rfl, Nat.le_of_ble_eq_true rfl⟩) (oB.recv hK hM.1 rfl) hM hK rfl hl.1 rfl dX8_moveFile_3 hcs (Nat.le_of_ble_eq_true rfl) ?_
  refine z_ifb_eq (pc := 6) (tgt := 17) E dX8_moveFile_6 (by decide) (fun h6 => ?_) (fun h6 => ?_)
  · refine z_iconst (pc := 17) E dX8_moveFile_17 ?_
    refine lv_goto (pc := 18) (tgt := 35) E.1 E.2 dX8_moveFile_18 (by decide) ?_
    refine p8_4 (pc := 35) E hts hin8 hown hK hM.1 hS (Ax.at 0 (by decide)) (hts _ (List.mem_of_getElem? (i := 1) rfl)) dX8_moveFile_35 (fun H locs hnew hoth hS => ?_)
    have hM := W8.p hM hnew (fun a _ h => hoth a h)
    refine lv_aload_n (pc := 38) E.1 E.2 dX8_moveFile_38 rfl (lv_at hl 0 rfl) ?_
    refine g8_4 (pc := 39) E hts hin8 hown hK hM.1 (hts _ (List.mem_of_getElem? (i := 1) rfl)) dX8_moveFile_39 ?_
    refine z_if_le (pc := 42) (tgt := 47) E (by decide) dX8_moveFile_42 (by decide) (fun h42 => ?_) (fun h42 => ?_)
    · exact absurd h42 (by decide)
    · refine z_iconst (pc := 45) E dX8_moveFile_45 ?_
      exact z_retWi E hr (congrArg iI (by have e0 : (kxMoveFi σ k f) = 1 := (by unfold kxMoveFi; (repeat' split) <;> first | rfl | omega | (exfalso; omega) | contradiction | grind); rw [e0]; exact (if_neg (by decide)).symm)) (by have e0 : (kxMoveFi σ k f) = 1 := (by unfold kxMoveFi; (repeat' split) <;> first | rfl | omega | (exfalso; omega) | contradiction | grind); rw [e0]; rw [if_neg (by decide), if_neg (by decide), if_neg (by decide)]; exact W8.mu hM (by simp only [mV, zu, Int.reduceEq, reduceIte])) hS hlocks dX8_moveFile_46
  · refine lv_aload_n (pc := 9) E.1 E.2 dX8_moveFile_9 rfl (lv_at hl 0 rfl) ?_
    refine lv_iload_n (pc := 10) E.1 E.2 dX8_moveFile_10 rfl (lv_at hl 2 rfl) ?_
    refine z_rVi (pc := 11) (As := [.int (iI f)]) (rest := [.ref (o 0)]) E hml hown hts (mX8_isFolder lL G o μ σ φ κ β ω f hI (by omega)) (cwV 1 hts gX8_moveFile_X8_isFolder rfl rfl rfl vdX8_isFolder ⟨Nat.le_of_ble_eq_true rfl, Nat.le_of_ble_eq_true rfl⟩) (oB.recv hK hM.1 rfl) hM hK rfl hl.1 rfl dX8_moveFile_11 hcs (Nat.le_of_ble_eq_true rfl) ?_
    refine z_ifb_ne (pc := 14) (tgt := 21) E dX8_moveFile_14 (by decide) (fun h14 => ?_) (fun h14 => ?_)
    · refine lv_aload_n (pc := 21) E.1 E.2 dX8_moveFile_21 rfl (lv_at hl 0 rfl) ?_
      refine lv_iload_n (pc := 22) E.1 E.2 dX8_moveFile_22 rfl (lv_at hl 1 rfl) ?_
      refine lv_iload_n (pc := 23) E.1 E.2 dX8_moveFile_23 rfl (lv_at hl 2 rfl) ?_
      refine z_rVi (pc := 24) (As := [.int (iI k), .int (iI f)]) (rest := [.ref (o 0)]) E hml hown hts (mX8_reasonToCarry lL G o μ σ φ κ β ω k f hI (by omega) (by omega)) (cwV 2 hts gX8_moveFile_X8_reasonToCarry rfl rfl rfl vdX8_reasonToCarry ⟨Nat.le_of_ble_eq_true rfl, Nat.le_of_ble_eq_true rfl⟩) (oB.recv hK hM.1 rfl) hM hK rfl hl.1 rfl dX8_moveFile_24 hcs (Nat.le_of_ble_eq_true rfl) ?_
      have hrc := rcS_b σ k f
      refine z_if_le (pc := 27) (tgt := 34) E ⟨by omega, by omega⟩ dX8_moveFile_27 (by decide) (fun h27 => ?_) (fun h27 => ?_)
      · refine z_iconst (pc := 34) E dX8_moveFile_34 ?_
        refine p8_4 (pc := 35) E hts hin8 hown hK hM.1 hS (Ax.at 0 (by decide)) (hts _ (List.mem_of_getElem? (i := 1) rfl)) dX8_moveFile_35 (fun H locs hnew hoth hS => ?_)
        have hM := W8.p hM hnew (fun a _ h => hoth a h)
        refine lv_aload_n (pc := 38) E.1 E.2 dX8_moveFile_38 rfl (lv_at hl 0 rfl) ?_
        refine g8_4 (pc := 39) E hts hin8 hown hK hM.1 (hts _ (List.mem_of_getElem? (i := 1) rfl)) dX8_moveFile_39 ?_
        refine z_if_le (pc := 42) (tgt := 47) E (by decide) dX8_moveFile_42 (by decide) (fun h42 => ?_) (fun h42 => ?_)
        · have hk2 : 0 ≤ k ∧ k < σ 3 := by omega
          have hf2 : 0 ≤ f ∧ f < σ 2 := by omega
          have hfk := hI.fil hk2.1 hk2.2
          have hpj := hI.pjr (f := σ (189 + k)) (Or.inr hfk.1)
          have hpt := hI.pjr (f := f) (Or.inr hf2)
          refine lv_aload_n (pc := 47) E.1 E.2 dX8_moveFile_47 rfl (lv_at hl 0 rfl) ?_
          refine z_wVv (pc := 48) (As := []) (rest := []) E hml hown hts (mX8_keeps lL G o (zu μ 4 0) σ φ κ β ω  (by simpa only [zu, Int.reduceEq, reduceIte] using hk8)) (cwV 0 hts gX8_moveFile_X8_keeps rfl rfl rfl vdX8_keeps ⟨Nat.le_of_ble_eq_true rfl, Nat.le_of_ble_eq_true rfl⟩) (oB.recv hK hM.1 rfl) (W8.mu hM (by simp only [mV, zu, Int.reduceEq, reduceIte])) hK hS (fun _ h => h) rfl hl.1 rfl dX8_moveFile_48 hcs (Nat.le_of_ble_eq_true rfl) (fun H locs hnew hsz hoth hS => ?_)
          have hM : W8 G o [.ref (o 1), .ref (o 2), .ref (o 3), .int (iI (keM ((μ 3)))), .int (iI 0), .ref (o 4), .int (iI (μ 6)), .int (iI (μ 7)), .int (iI (μ 8)), .int (iI (μ 9)), .int (iI (μ 10)), .int (iI (μ 11)), .int (iI (μ 12)), .int (iI (μ 13)), .int (iI (μ 14)), .long (iL (μ 15)), .ref (o 5), .int (iI (μ 17))] σ φ (keK κ σ ((μ 3))) β ω H := W8.eq hnew (by simp only [mV, zu, Int.reduceEq, reduceIte])
          refine lv_aload_n (pc := 51) E.1 E.2 dX8_moveFile_51 rfl (lv_at hl 0 rfl) ?_
          refine lv_aload_n (pc := 52) E.1 E.2 dX8_moveFile_52 rfl (lv_at hl 0 rfl) ?_
          refine lv_iload_n (pc := 53) E.1 E.2 dX8_moveFile_53 rfl (lv_at hl 1 rfl) ?_
          refine z_rVi (pc := 54) (As := [.int (iI k)]) (rest := [.ref (o 0)]) E hml hown hts (mX8_folderOf lL G o (zu (zu μ 4 0) 3 (keM ((μ 3)))) σ φ (keK κ σ ((μ 3))) β ω k (by omega)) (cwV 1 hts gX8_moveFile_X8_folderOf rfl rfl rfl vdX8_folderOf ⟨Nat.le_of_ble_eq_true rfl, Nat.le_of_ble_eq_true rfl⟩) (oB.recv hK hM.1 rfl) (W8.mu hM (by simp only [mV, zu, Int.reduceEq, reduceIte])) hK rfl hl.1 rfl dX8_moveFile_54 hcs (Nat.le_of_ble_eq_true rfl) ?_
          refine z_rVi (pc := 57) (As := [.int (iI (σ (189 + k)))]) (rest := []) E hml hown hts (mX8_projectOf lL G o (zu (zu μ 4 0) 3 (keM ((μ 3)))) σ φ (keK κ σ ((μ 3))) β ω (σ (189 + k)) hI (Or.inr hfk.1)) (cwV 1 hts gX8_moveFile_X8_projectOf rfl rfl rfl vdX8_projectOf ⟨Nat.le_of_ble_eq_true rfl, Nat.le_of_ble_eq_true rfl⟩) (oB.recv hK hM.1 rfl) (W8.mu hM (by simp only [mV, zu, Int.reduceEq, reduceIte])) hK rfl hl.1 rfl dX8_moveFile_57 hcs (Nat.le_of_ble_eq_true rfl) ?_
          refine lv_istore_n (pc := 60) (lv' := [(3, .int (iI (pjF σ (σ (189 + k))))), (0, .ref (o 0)), (1, .int (iI k)), (2, .int (iI f))]) E.1 E.2 dX8_moveFile_60 rfl hl (by decide) rfl (fun ls hl => ?_)
          refine lv_aload_n (pc := 61) E.1 E.2 dX8_moveFile_61 rfl (lv_at hl 1 rfl) ?_
          refine lv_iload_n (pc := 62) E.1 E.2 dX8_moveFile_62 rfl (lv_at hl 3 rfl) ?_
          refine z_rVi (pc := 63) (As := [.int (iI f)]) (rest := []) E hml hown hts (mX8_projectOf lL G o (zu (zu μ 4 0) 3 (keM ((μ 3)))) σ φ (keK κ σ ((μ 3))) β ω f hI (Or.inr hf2)) (cwV 1 hts gX8_moveFile_X8_projectOf rfl rfl rfl vdX8_projectOf ⟨Nat.le_of_ble_eq_true rfl, Nat.le_of_ble_eq_true rfl⟩) (oB.recv hK hM.1 rfl) (W8.mu hM (by simp only [mV, zu, Int.reduceEq, reduceIte])) hK rfl hl.1 rfl dX8_moveFile_63 hcs (Nat.le_of_ble_eq_true rfl) ?_
          refine lv_istore (pc := 66) (lv' := [(4, .int (iI (pjF σ f))), (3, .int (iI (pjF σ (σ (189 + k))))), (0, .ref (o 0)), (1, .int (iI k)), (2, .int (iI f))]) E.1 E.2 dX8_moveFile_66 hl (by decide) rfl (fun ls hl => ?_)
          refine lv_iload_n (pc := 68) E.1 E.2 dX8_moveFile_68 rfl (lv_at hl 1 rfl) ?_
          refine lv_iload (pc := 69) E.1 E.2 dX8_moveFile_69 (lv_at hl 0 rfl) ?_
          refine z_icmp_eq (pc := 71) (tgt := 110) E ⟨by omega, by omega⟩ ⟨by omega, by omega⟩ dX8_moveFile_71 (by decide) (fun h71 => ?_) (fun h71 => ?_)
          · refine lv_aload_n (pc := 110) E.1 E.2 dX8_moveFile_110 rfl (lv_at hl 2 rfl) ?_
            refine g8_0 (pc := 111) E hts hin8 hown hK hM.1 (hts _ (List.mem_of_getElem? (i := 2) rfl)) dX8_moveFile_111 ?_
            refine z_sipush (pc := 114) E (by decide) dX8_moveFile_114 ?_
            refine lv_iload_n (pc := 117) E.1 E.2 dX8_moveFile_117 rfl (lv_at hl 3 rfl) ?_
            refine z_iadd (pc := 118) E dX8_moveFile_118 ?_
            refine lv_iload_n (pc := 119) E.1 E.2 dX8_moveFile_119 rfl (lv_at hl 4 rfl) ?_
            refine z_i2l (pc := 120) E ⟨by omega, by omega⟩ dX8_moveFile_120 ?_
            refine z_lastore (pc := 121) E hK hM.2.1 hS (Ax.at 1 (by decide)) ⟨by omega, by omega⟩ (by decide) dX8_moveFile_121 (fun H locs hnew hoth hS => ?_)
            have hM := W8.a1 hM hnew (fun a _ h => hoth a h)
            refine lv_aload_n (pc := 122) E.1 E.2 dX8_moveFile_122 rfl (lv_at hl 2 rfl) ?_
            refine z_wVv (pc := 123) (As := []) (rest := []) E hml hown hts (mX8_setsClocks lL G o (zu (zu μ 4 0) 3 (keM ((μ 3)))) (zu σ (189 + k) f) φ (keK κ σ ((μ 3))) β ω  (by first | exact (hI2.coAl hpj (by omega) (by omega)).lie (by rw [coA_n hpj (by omega), coA_n hpt (by omega)]; exact hk2) (by rw [coA_n hpj (by omega), coA_n hpt (by omega)]; exact hf2) | exact hI.lie hk2 hf2)) (cwV 0 hts gX8_moveFile_X8_setsClocks rfl rfl rfl vdX8_setsClocks ⟨Nat.le_of_ble_eq_true rfl, Nat.le_of_ble_eq_true rfl⟩) (oB.recv hK hM.1 rfl) (W8.mu hM (by simp only [mV, zu, Int.reduceEq, reduceIte])) hK hS (fun _ h => h) rfl hl.1 rfl dX8_moveFile_123 hcs (Nat.le_of_ble_eq_true rfl) (fun H locs hnew hsz hoth hS => ?_)
            have hM : W8 G o [.ref (o 1), .ref (o 2), .ref (o 3), .int (iI (keM ((μ 3)))), .int (iI 0), .ref (o 4), .int (iI (μ 6)), .int (iI (μ 7)), .int (iI (μ 8)), .int (iI (μ 9)), .int (iI (μ 10)), .int (iI (μ 11)), .int (iI (μ 12)), .int (iI (μ 13)), .int (iI (μ 14)), .long (iL (μ 15)), .ref (o 5), .int (iI (μ 17))] (scA (zu σ (189 + k) f) 16) φ (keK κ σ ((μ 3))) β ω H := W8.eq hnew (by simp only [mV, zu, Int.reduceEq, reduceIte])
            refine lv_iload_n (pc := 126) E.1 E.2 dX8_moveFile_126 rfl (lv_at hl 1 rfl) ?_
            refine lv_iload (pc := 127) E.1 E.2 dX8_moveFile_127 (lv_at hl 0 rfl) ?_
            refine z_icmp_ne (pc := 129) (tgt := 136) E ⟨by omega, by omega⟩ ⟨by omega, by omega⟩ dX8_moveFile_129 (by decide) (fun h129 => ?_) (fun h129 => ?_)
            · exact absurd h129 (by first | omega | exact h71 | exact fun q => h71 q)
            · refine z_iconst (pc := 132) E dX8_moveFile_132 ?_
              refine lv_goto (pc := 133) (tgt := 137) E.1 E.2 dX8_moveFile_133 (by decide) ?_
              exact z_retWi E hr (congrArg iI (by have e0 : (kxMoveFi σ k f) = 0 := (by unfold kxMoveFi; (repeat' split) <;> first | rfl | omega | (exfalso; omega) | contradiction | grind); rw [e0]; refine Eq.trans ?_ (if_pos rfl).symm; (unfold axMoveFi; first | exact (if_pos (by omega)).symm | exact (if_neg (by omega)).symm))) (by have e0 : (kxMoveFi σ k f) = 0 := (by unfold kxMoveFi; (repeat' split) <;> first | rfl | omega | (exfalso; omega) | contradiction | grind); rw [e0]; rw [if_pos rfl, if_pos rfl, if_pos rfl]; unfold nxMoveFi cmA; (first | rw [if_pos (show pjF σ (σ (189 + k)) = pjF σ f by omega)] | rw [if_neg (show ¬ pjF σ (σ (189 + k)) = pjF σ f by omega)]); exact W8.mu hM (by simp only [mV, zu, Int.reduceEq, reduceIte])) hS hlocks dX8_moveFile_137
          · refine lv_aload_n (pc := 74) E.1 E.2 dX8_moveFile_74 rfl (lv_at hl 2 rfl) ?_
            refine lv_iload (pc := 75) E.1 E.2 dX8_moveFile_75 (lv_at hl 0 rfl) ?_
            refine lv_aload_n (pc := 77) E.1 E.2 dX8_moveFile_77 rfl (lv_at hl 2 rfl) ?_
            refine g8_0 (pc := 78) E hts hin8 hown hK hM.1 (hts _ (List.mem_of_getElem? (i := 2) rfl)) dX8_moveFile_78 ?_
            refine z_sipush (pc := 81) E (by decide) dX8_moveFile_81 ?_
            refine lv_iload_n (pc := 84) E.1 E.2 dX8_moveFile_84 rfl (lv_at hl 3 rfl) ?_
            refine z_iadd (pc := 85) E dX8_moveFile_85 ?_
            refine z_laload (pc := 86) E hK hM.2.1 ⟨by omega, by omega⟩ (by decide) dX8_moveFile_86 ?_
            have hb86 := hI.bd (249 + k)
            refine z_lconst (pc := 87) (v := 1) E (by decide) dX8_moveFile_87 ?_
            refine z_wVv (pc := 88) (As := [.int (iI (pjF σ f)), .long (iL (σ (249 + k))), .long (iL 1)]) (rest := []) E hml hown hts (mX8_counts lL G o (zu (zu μ 4 0) 3 (keM ((μ 3)))) σ φ (keK κ σ ((μ 3))) β ω (pjF σ f) (σ (249 + k)) 1 hI.bd (by omega) (by omega) (by omega)) (cwV 3 hts gX8_moveFile_X8_counts rfl rfl rfl vdX8_counts ⟨Nat.le_of_ble_eq_true rfl, Nat.le_of_ble_eq_true rfl⟩) (oB.recv hK hM.1 rfl) (W8.mu hM (by simp only [mV, zu, Int.reduceEq, reduceIte])) hK hS (fun _ h => h) rfl hl.1 rfl dX8_moveFile_88 hcs (Nat.le_of_ble_eq_true rfl) (fun H locs hnew hsz hoth hS => ?_)
            have hM : W8 G o [.ref (o 1), .ref (o 2), .ref (o 3), .int (iI (keM ((μ 3)))), .int (iI 0), .ref (o 4), .int (iI (μ 6)), .int (iI (μ 7)), .int (iI (μ 8)), .int (iI (μ 9)), .int (iI (μ 10)), .int (iI (μ 11)), .int (iI (μ 12)), .int (iI (μ 13)), .int (iI (μ 14)), .long (iL (μ 15)), .ref (o 5), .int (iI (μ 17))] (coA σ (pjF σ f) (σ (249 + k)) 1) φ (keK κ σ ((μ 3))) β ω H := W8.eq hnew (by simp only [mV, zu, Int.reduceEq, reduceIte])
            have hI2 : In (coA σ (pjF σ f) (σ (249 + k)) 1) := hI.coAI hpt (by omega) (by omega) hU
            refine lv_aload_n (pc := 91) E.1 E.2 dX8_moveFile_91 rfl (lv_at hl 2 rfl) ?_
            refine lv_iload_n (pc := 92) E.1 E.2 dX8_moveFile_92 rfl (lv_at hl 1 rfl) ?_
            refine lv_aload_n (pc := 93) E.1 E.2 dX8_moveFile_93 rfl (lv_at hl 2 rfl) ?_
            refine g8_0 (pc := 94) E hts hin8 hown hK hM.1 (hts _ (List.mem_of_getElem? (i := 2) rfl)) dX8_moveFile_94 ?_
            refine z_sipush (pc := 97) E (by decide) dX8_moveFile_97 ?_
            refine lv_iload_n (pc := 100) E.1 E.2 dX8_moveFile_100 rfl (lv_at hl 3 rfl) ?_
            refine z_iadd (pc := 101) E dX8_moveFile_101 ?_
            refine z_laload (pc := 102) E hK hM.2.1 ⟨by omega, by omega⟩ (by decide) dX8_moveFile_102 ?_
            rw [show ((coA σ (pjF σ f) (σ (249 + k)) 1) (249 + k)) = (σ (249 + k)) from (coA_n hpt (by omega))]
            refine z_lneg (pc := 103) E dX8_moveFile_103 ?_
            refine lv_ldc2 (pc := 104) (v := iL (-1)) E.1 E.2 hown (show (Jvm.Cond.constantLong RX8 37 (iL (-1))).before _ ss = true from (hts _ (List.mem_of_getElem? (i := 3) rfl))) dX8_moveFile_104 ?_
            refine z_wVv (pc := 107) (As := [.int (iI (pjF σ (σ (189 + k)))), .long (iL (-(σ (249 + k)))), .long (iL (-1))]) (rest := []) E hml hown hts (mX8_counts lL G o (zu (zu μ 4 0) 3 (keM ((μ 3)))) (coA σ (pjF σ f) (σ (249 + k)) 1) φ (keK κ σ ((μ 3))) β ω (pjF σ (σ (189 + k))) (-(σ (249 + k))) (-1) hI2.bd (by omega) (by omega) (by omega)) (cwV 3 hts gX8_moveFile_X8_counts rfl rfl rfl vdX8_counts ⟨Nat.le_of_ble_eq_true rfl, Nat.le_of_ble_eq_true rfl⟩) (oB.recv hK hM.1 rfl) (W8.mu hM (by simp only [mV, zu, Int.reduceEq, reduceIte])) hK hS (fun _ h => h) rfl hl.1 rfl dX8_moveFile_107 hcs (Nat.le_of_ble_eq_true rfl) (fun H locs hnew hsz hoth hS => ?_)
            have hM : W8 G o [.ref (o 1), .ref (o 2), .ref (o 3), .int (iI (keM ((μ 3)))), .int (iI 0), .ref (o 4), .int (iI (μ 6)), .int (iI (μ 7)), .int (iI (μ 8)), .int (iI (μ 9)), .int (iI (μ 10)), .int (iI (μ 11)), .int (iI (μ 12)), .int (iI (μ 13)), .int (iI (μ 14)), .long (iL (μ 15)), .ref (o 5), .int (iI (μ 17))] (coA (coA σ (pjF σ f) (σ (249 + k)) 1) (pjF σ (σ (189 + k))) (-(σ (249 + k))) (-1)) φ (keK κ σ ((μ 3))) β ω H := W8.eq hnew (by simp only [mV, zu, Int.reduceEq, reduceIte])
            refine lv_aload_n (pc := 110) E.1 E.2 dX8_moveFile_110 rfl (lv_at hl 2 rfl) ?_
            refine g8_0 (pc := 111) E hts hin8 hown hK hM.1 (hts _ (List.mem_of_getElem? (i := 2) rfl)) dX8_moveFile_111 ?_
            refine z_sipush (pc := 114) E (by decide) dX8_moveFile_114 ?_
            refine lv_iload_n (pc := 117) E.1 E.2 dX8_moveFile_117 rfl (lv_at hl 3 rfl) ?_
            refine z_iadd (pc := 118) E dX8_moveFile_118 ?_
            refine lv_iload_n (pc := 119) E.1 E.2 dX8_moveFile_119 rfl (lv_at hl 4 rfl) ?_
            refine z_i2l (pc := 120) E ⟨by omega, by omega⟩ dX8_moveFile_120 ?_
            refine z_lastore (pc := 121) E hK hM.2.1 hS (Ax.at 1 (by decide)) ⟨by omega, by omega⟩ (by decide) dX8_moveFile_121 (fun H locs hnew hoth hS => ?_)
            have hM := W8.a1 hM hnew (fun a _ h => hoth a h)
            refine lv_aload_n (pc := 122) E.1 E.2 dX8_moveFile_122 rfl (lv_at hl 2 rfl) ?_
            refine z_wVv (pc := 123) (As := []) (rest := []) E hml hown hts (mX8_setsClocks lL G o (zu (zu μ 4 0) 3 (keM ((μ 3)))) (zu (coA (coA σ (pjF σ f) (σ (249 + k)) 1) (pjF σ (σ (189 + k))) (-(σ (249 + k))) (-1)) (189 + k) f) φ (keK κ σ ((μ 3))) β ω  (by first | exact (hI2.coAl hpj (by omega) (by omega)).lie (by rw [coA_n hpj (by omega), coA_n hpt (by omega)]; exact hk2) (by rw [coA_n hpj (by omega), coA_n hpt (by omega)]; exact hf2) | exact hI.lie hk2 hf2)) (cwV 0 hts gX8_moveFile_X8_setsClocks rfl rfl rfl vdX8_setsClocks ⟨Nat.le_of_ble_eq_true rfl, Nat.le_of_ble_eq_true rfl⟩) (oB.recv hK hM.1 rfl) (W8.mu hM (by simp only [mV, zu, Int.reduceEq, reduceIte])) hK hS (fun _ h => h) rfl hl.1 rfl dX8_moveFile_123 hcs (Nat.le_of_ble_eq_true rfl) (fun H locs hnew hsz hoth hS => ?_)
            have hM : W8 G o [.ref (o 1), .ref (o 2), .ref (o 3), .int (iI (keM ((μ 3)))), .int (iI 0), .ref (o 4), .int (iI (μ 6)), .int (iI (μ 7)), .int (iI (μ 8)), .int (iI (μ 9)), .int (iI (μ 10)), .int (iI (μ 11)), .int (iI (μ 12)), .int (iI (μ 13)), .int (iI (μ 14)), .long (iL (μ 15)), .ref (o 5), .int (iI (μ 17))] (scA (zu (coA (coA σ (pjF σ f) (σ (249 + k)) 1) (pjF σ (σ (189 + k))) (-(σ (249 + k))) (-1)) (189 + k) f) 16) φ (keK κ σ ((μ 3))) β ω H := W8.eq hnew (by simp only [mV, zu, Int.reduceEq, reduceIte])
            refine lv_iload_n (pc := 126) E.1 E.2 dX8_moveFile_126 rfl (lv_at hl 1 rfl) ?_
            refine lv_iload (pc := 127) E.1 E.2 dX8_moveFile_127 (lv_at hl 0 rfl) ?_
            refine z_icmp_ne (pc := 129) (tgt := 136) E ⟨by omega, by omega⟩ ⟨by omega, by omega⟩ dX8_moveFile_129 (by decide) (fun h129 => ?_) (fun h129 => ?_)
            · refine z_iconst (pc := 136) E dX8_moveFile_136 ?_
              exact z_retWi E hr (congrArg iI (by have e0 : (kxMoveFi σ k f) = 0 := (by unfold kxMoveFi; (repeat' split) <;> first | rfl | omega | (exfalso; omega) | contradiction | grind); rw [e0]; refine Eq.trans ?_ (if_pos rfl).symm; (unfold axMoveFi; first | exact (if_pos (by omega)).symm | exact (if_neg (by omega)).symm))) (by have e0 : (kxMoveFi σ k f) = 0 := (by unfold kxMoveFi; (repeat' split) <;> first | rfl | omega | (exfalso; omega) | contradiction | grind); rw [e0]; rw [if_pos rfl, if_pos rfl, if_pos rfl]; unfold nxMoveFi cmA; (first | rw [if_pos (show pjF σ (σ (189 + k)) = pjF σ f by omega)] | rw [if_neg (show ¬ pjF σ (σ (189 + k)) = pjF σ f by omega)]); exact W8.mu hM (by simp only [mV, zu, Int.reduceEq, reduceIte])) hS hlocks dX8_moveFile_137
            · exact absurd h129 (by first | omega | exact h71 | exact fun q => h71 q)
        · exact absurd h42 (by decide)
      · refine z_iconst (pc := 30) E dX8_moveFile_30 ?_
        refine lv_goto (pc := 31) (tgt := 35) E.1 E.2 dX8_moveFile_31 (by decide) ?_
        refine p8_4 (pc := 35) E hts hin8 hown hK hM.1 hS (Ax.at 0 (by decide)) (hts _ (List.mem_of_getElem? (i := 1) rfl)) dX8_moveFile_35 (fun H locs hnew hoth hS => ?_)
        have hM := W8.p hM hnew (fun a _ h => hoth a h)
        refine lv_aload_n (pc := 38) E.1 E.2 dX8_moveFile_38 rfl (lv_at hl 0 rfl) ?_
        refine g8_4 (pc := 39) E hts hin8 hown hK hM.1 (hts _ (List.mem_of_getElem? (i := 1) rfl)) dX8_moveFile_39 ?_
        refine z_if_le (pc := 42) (tgt := 47) E (by decide) dX8_moveFile_42 (by decide) (fun h42 => ?_) (fun h42 => ?_)
        · exact absurd h42 (by decide)
        · refine z_iconst (pc := 45) E dX8_moveFile_45 ?_
          exact z_retWi E hr (congrArg iI (by have e0 : (kxMoveFi σ k f) = 2 := (by unfold kxMoveFi; (repeat' split) <;> first | rfl | omega | (exfalso; omega) | contradiction | grind); rw [e0]; exact (if_neg (by decide)).symm)) (by have e0 : (kxMoveFi σ k f) = 2 := (by unfold kxMoveFi; (repeat' split) <;> first | rfl | omega | (exfalso; omega) | contradiction | grind); rw [e0]; rw [if_neg (by decide), if_neg (by decide), if_neg (by decide)]; exact W8.mu hM (by simp only [mV, zu, Int.reduceEq, reduceIte])) hS hlocks dX8_moveFile_46
    · refine z_iconst (pc := 17) E dX8_moveFile_17 ?_
      refine lv_goto (pc := 18) (tgt := 35) E.1 E.2 dX8_moveFile_18 (by decide) ?_
      refine p8_4 (pc := 35) E hts hin8 hown hK hM.1 hS (Ax.at 0 (by decide)) (hts _ (List.mem_of_getElem? (i := 1) rfl)) dX8_moveFile_35 (fun H locs hnew hoth hS => ?_)
      have hM := W8.p hM hnew (fun a _ h => hoth a h)
      refine lv_aload_n (pc := 38) E.1 E.2 dX8_moveFile_38 rfl (lv_at hl 0 rfl) ?_
      refine g8_4 (pc := 39) E hts hin8 hown hK hM.1 (hts _ (List.mem_of_getElem? (i := 1) rfl)) dX8_moveFile_39 ?_
      refine z_if_le (pc := 42) (tgt := 47) E (by decide) dX8_moveFile_42 (by decide) (fun h42 => ?_) (fun h42 => ?_)
      · exact absurd h42 (by decide)
      · refine z_iconst (pc := 45) E dX8_moveFile_45 ?_
        exact z_retWi E hr (congrArg iI (by have e0 : (kxMoveFi σ k f) = 1 := (by unfold kxMoveFi; (repeat' split) <;> first | rfl | omega | (exfalso; omega) | contradiction | grind); rw [e0]; exact (if_neg (by decide)).symm)) (by have e0 : (kxMoveFi σ k f) = 1 := (by unfold kxMoveFi; (repeat' split) <;> first | rfl | omega | (exfalso; omega) | contradiction | grind); rw [e0]; rw [if_neg (by decide), if_neg (by decide), if_neg (by decide)]; exact W8.mu hM (by simp only [mV, zu, Int.reduceEq, reduceIte])) hS hlocks dX8_moveFile_46
set_option maxHeartbeats 1000000 in
set_option maxRecDepth 100000 in
theorem mX8_setLimit (lL : Launch) (G : GG) (o : Nat → Nat) (μ σ φ κ β ω : Int → Int) (p : Int) (k : Int) (s : Int) (h : Int) (hI : In σ) (hp : -2147483648 ≤ p ∧ p < 2147483648) (hk : -2147483648 ≤ k ∧ k < 2147483648) (hs : -2147483648 ≤ s ∧ s < 2147483648) (hh : -2147483648 ≤ h ∧ h < 2147483648) (hk8 : 0 ≤ μ 3 ∧ μ 3 ≤ 8) : Met lL yX8_setLimit wsX8_setLimit ({ frames := 4, cells := 0, slots := 0, locals := 98 } : Room) (va_Pc [.ref (o 0), .int (iI p), .int (iI k), .int (iI s), .int (iI h)] (fun U => W8 G o (mV o μ) σ φ κ β ω U.heap ∧ KK G U)) (va_Qi (fun r (_ : Unit) => r = (iI (if (kxSetL σ p k s h) = 0 then stS (nxSetL σ p k s h) p k else 0))) (fun _ tZ => W8 G o (mV o (zu (zu μ 4 (kxSetL σ p k s h)) 3 (if (kxSetL σ p k s h) = 0 then keM (μ 3) else μ 3))) (if (kxSetL σ p k s h) = 0 then nxSetL σ p k s h else σ) φ (if (kxSetL σ p k s h) = 0 then keK κ σ (μ 3) else κ) β ω tZ.heap) (Ax o 6)) 0 0 (Ax o 6) := by
  refine z_met (P := (fun H : Heap => W8 G o (mV o μ) σ φ κ β ω H)) (by decide) rfl (Nat.le_of_ble_eq_true rfl) (fun pp ee ss mm below meth cC E hr hml hown hts hlocks hM hK ls hl => ?_)
  have hl : lv_has ls 6 [(0, .ref (o 0)), (1, .int (iI p)), (2, .int (iI k)), (3, .int (iI s)), (4, .int (iI h))] := hl
  have hcs : 0 ≤ (({ frames := 4, cells := 0, slots := 0, locals := 98 } : Room)).cells ∧ 0 ≤ (({ frames := 4, cells := 0, slots := 0, locals := 98 } : Room)).slots := ⟨Nat.zero_le _, Nat.zero_le _⟩
  have hS : va_S (Ax o 6) ss.heap ss.heap [] := va_S.rf
  have hin8 : ∀ w ∈ wsX80, w ∈ wsX8_setLimit := fun w h => List.mem_cons_of_mem _ (List.mem_append_right _ (h))
  have hF := hI.F
  have hMm := hI.M
  have hGn := hI.Gn
  have hTi := hI.ti
  have hGr := hI.gr
  refine lv_iload_n (pc := 0) E.1 E.2 dX8_setLimit_0 rfl (lv_at hl 1 rfl) ?_
  refine z_rSi (pc := 1) (P := fun _ => True) (As := [.int (iI p)]) (rest := []) E hml hown hts (mX8_isProject lL G p ⟨by omega, by omega⟩) (va_cwS 1 hts gX8_setLimit_X8_isProject rfl rfl rfl vdX8_isProject.2 ⟨Nat.le_of_ble_eq_true rfl, Nat.le_of_ble_eq_true rfl⟩) trivial hK rfl hl.1 rfl dX8_setLimit_1 hcs (Nat.le_of_ble_eq_true rfl) ?_
  refine z_ifb_eq (pc := 4) (tgt := 54) E dX8_setLimit_4 (by decide) (fun h4 => ?_) (fun h4 => ?_)
  · refine z_iconst (pc := 54) E dX8_setLimit_54 ?_
    refine lv_istore (pc := 55) (lv' := [(5, .int (iI 0)), (0, .ref (o 0)), (1, .int (iI p)), (2, .int (iI k)), (3, .int (iI s)), (4, .int (iI h))]) E.1 E.2 dX8_setLimit_55 hl (by decide) rfl (fun ls hl => ?_)
    refine lv_aload_n (pc := 57) E.1 E.2 dX8_setLimit_57 rfl (lv_at hl 1 rfl) ?_
    refine lv_iload (pc := 58) E.1 E.2 dX8_setLimit_58 (lv_at hl 0 rfl) ?_
    refine z_if_ne (pc := 60) (tgt := 67) E (by decide) dX8_setLimit_60 (by decide) (fun h60 => ?_) (fun h60 => ?_)
    · exact absurd h60 (by decide)
    · refine z_iconst (pc := 63) E dX8_setLimit_63 ?_
      refine lv_goto (pc := 64) (tgt := 89) E.1 E.2 dX8_setLimit_64 (by decide) ?_
      refine p8_4 (pc := 89) E hts hin8 hown hK hM.1 hS (Ax.at 0 (by decide)) (hts _ (List.mem_of_getElem? (i := 2) rfl)) dX8_setLimit_89 (fun H locs hnew hoth hS => ?_)
      have hM := W8.p hM hnew (fun a _ h => hoth a h)
      refine lv_aload_n (pc := 92) E.1 E.2 dX8_setLimit_92 rfl (lv_at hl 1 rfl) ?_
      refine g8_4 (pc := 93) E hts hin8 hown hK hM.1 (hts _ (List.mem_of_getElem? (i := 2) rfl)) dX8_setLimit_93 ?_
      refine z_if_le (pc := 96) (tgt := 101) E (by decide) dX8_setLimit_96 (by decide) (fun h96 => ?_) (fun h96 => ?_)
      · exact absurd h96 (by decide)
      · refine z_iconst (pc := 99) E dX8_setLimit_99 ?_
        exact z_retWi E hr (congrArg iI (by have e0 : (kxSetL σ p k s h) = 1 := (by unfold kxSetL; (repeat' split) <;> first | rfl | omega | (exfalso; omega) | contradiction | grind); rw [e0]; exact (if_neg (by decide)).symm)) (by have e0 : (kxSetL σ p k s h) = 1 := (by unfold kxSetL; (repeat' split) <;> first | rfl | omega | (exfalso; omega) | contradiction | grind); rw [e0]; rw [if_neg (by decide), if_neg (by decide), if_neg (by decide)]; exact W8.mu hM (by simp only [mV, zu, Int.reduceEq, reduceIte])) hS hlocks dX8_setLimit_100
  · refine lv_iload_n (pc := 7) E.1 E.2 dX8_setLimit_7 rfl (lv_at hl 2 rfl) ?_
    refine z_rSi (pc := 8) (P := fun _ => True) (As := [.int (iI k)]) (rest := []) E hml hown hts (mX8_isKind lL G k ⟨by omega, by omega⟩) (va_cwS 1 hts gX8_setLimit_X8_isKind rfl rfl rfl vdX8_isKind.2 ⟨Nat.le_of_ble_eq_true rfl, Nat.le_of_ble_eq_true rfl⟩) trivial hK rfl hl.1 rfl dX8_setLimit_8 hcs (Nat.le_of_ble_eq_true rfl) ?_
    refine z_ifb_eq (pc := 11) (tgt := 54) E dX8_setLimit_11 (by decide) (fun h11 => ?_) (fun h11 => ?_)
    · refine z_iconst (pc := 54) E dX8_setLimit_54 ?_
      refine lv_istore (pc := 55) (lv' := [(5, .int (iI 0)), (0, .ref (o 0)), (1, .int (iI p)), (2, .int (iI k)), (3, .int (iI s)), (4, .int (iI h))]) E.1 E.2 dX8_setLimit_55 hl (by decide) rfl (fun ls hl => ?_)
      refine lv_aload_n (pc := 57) E.1 E.2 dX8_setLimit_57 rfl (lv_at hl 1 rfl) ?_
      refine lv_iload (pc := 58) E.1 E.2 dX8_setLimit_58 (lv_at hl 0 rfl) ?_
      refine z_if_ne (pc := 60) (tgt := 67) E (by decide) dX8_setLimit_60 (by decide) (fun h60 => ?_) (fun h60 => ?_)
      · exact absurd h60 (by decide)
      · refine z_iconst (pc := 63) E dX8_setLimit_63 ?_
        refine lv_goto (pc := 64) (tgt := 89) E.1 E.2 dX8_setLimit_64 (by decide) ?_
        refine p8_4 (pc := 89) E hts hin8 hown hK hM.1 hS (Ax.at 0 (by decide)) (hts _ (List.mem_of_getElem? (i := 2) rfl)) dX8_setLimit_89 (fun H locs hnew hoth hS => ?_)
        have hM := W8.p hM hnew (fun a _ h => hoth a h)
        refine lv_aload_n (pc := 92) E.1 E.2 dX8_setLimit_92 rfl (lv_at hl 1 rfl) ?_
        refine g8_4 (pc := 93) E hts hin8 hown hK hM.1 (hts _ (List.mem_of_getElem? (i := 2) rfl)) dX8_setLimit_93 ?_
        refine z_if_le (pc := 96) (tgt := 101) E (by decide) dX8_setLimit_96 (by decide) (fun h96 => ?_) (fun h96 => ?_)
        · exact absurd h96 (by decide)
        · refine z_iconst (pc := 99) E dX8_setLimit_99 ?_
          exact z_retWi E hr (congrArg iI (by have e0 : (kxSetL σ p k s h) = 1 := (by unfold kxSetL; (repeat' split) <;> first | rfl | omega | (exfalso; omega) | contradiction | grind); rw [e0]; exact (if_neg (by decide)).symm)) (by have e0 : (kxSetL σ p k s h) = 1 := (by unfold kxSetL; (repeat' split) <;> first | rfl | omega | (exfalso; omega) | contradiction | grind); rw [e0]; rw [if_neg (by decide), if_neg (by decide), if_neg (by decide)]; exact W8.mu hM (by simp only [mV, zu, Int.reduceEq, reduceIte])) hS hlocks dX8_setLimit_100
    · refine lv_iload_n (pc := 14) E.1 E.2 dX8_setLimit_14 rfl (lv_at hl 3 rfl) ?_
      refine z_i2l (pc := 15) E ⟨by omega, by omega⟩ dX8_setLimit_15 ?_
      refine z_lconst (pc := 16) (v := 0) E (by decide) dX8_setLimit_16 ?_
      refine lv_ldc2 (pc := 17) (v := iL (99999)) E.1 E.2 hown (show (Jvm.Cond.constantLong RX8 329 (iL (99999))).before _ ss = true from (hts _ (List.mem_of_getElem? (i := 1) rfl))) dX8_setLimit_17 ?_
      refine z_rSi (pc := 20) (P := fun _ => True) (As := [.long (iL s), .long (iL 0), .long (iL 99999)]) (rest := []) E hml hown hts (mX8_isIn lL G s 0 99999 ⟨by omega, by omega⟩ ⟨by omega, by omega⟩ ⟨by omega, by omega⟩) (va_cwS 3 hts gX8_setLimit_X8_isIn rfl rfl rfl vdX8_isIn.2 ⟨Nat.le_of_ble_eq_true rfl, Nat.le_of_ble_eq_true rfl⟩) trivial hK rfl hl.1 rfl dX8_setLimit_20 hcs (Nat.le_of_ble_eq_true rfl) ?_
      refine z_ifb_eq (pc := 23) (tgt := 54) E dX8_setLimit_23 (by decide) (fun h23 => ?_) (fun h23 => ?_)
      · refine z_iconst (pc := 54) E dX8_setLimit_54 ?_
        refine lv_istore (pc := 55) (lv' := [(5, .int (iI 0)), (0, .ref (o 0)), (1, .int (iI p)), (2, .int (iI k)), (3, .int (iI s)), (4, .int (iI h))]) E.1 E.2 dX8_setLimit_55 hl (by decide) rfl (fun ls hl => ?_)
        refine lv_aload_n (pc := 57) E.1 E.2 dX8_setLimit_57 rfl (lv_at hl 1 rfl) ?_
        refine lv_iload (pc := 58) E.1 E.2 dX8_setLimit_58 (lv_at hl 0 rfl) ?_
        refine z_if_ne (pc := 60) (tgt := 67) E (by decide) dX8_setLimit_60 (by decide) (fun h60 => ?_) (fun h60 => ?_)
        · exact absurd h60 (by decide)
        · refine z_iconst (pc := 63) E dX8_setLimit_63 ?_
          refine lv_goto (pc := 64) (tgt := 89) E.1 E.2 dX8_setLimit_64 (by decide) ?_
          refine p8_4 (pc := 89) E hts hin8 hown hK hM.1 hS (Ax.at 0 (by decide)) (hts _ (List.mem_of_getElem? (i := 2) rfl)) dX8_setLimit_89 (fun H locs hnew hoth hS => ?_)
          have hM := W8.p hM hnew (fun a _ h => hoth a h)
          refine lv_aload_n (pc := 92) E.1 E.2 dX8_setLimit_92 rfl (lv_at hl 1 rfl) ?_
          refine g8_4 (pc := 93) E hts hin8 hown hK hM.1 (hts _ (List.mem_of_getElem? (i := 2) rfl)) dX8_setLimit_93 ?_
          refine z_if_le (pc := 96) (tgt := 101) E (by decide) dX8_setLimit_96 (by decide) (fun h96 => ?_) (fun h96 => ?_)
          · exact absurd h96 (by decide)
          · refine z_iconst (pc := 99) E dX8_setLimit_99 ?_
            exact z_retWi E hr (congrArg iI (by have e0 : (kxSetL σ p k s h) = 1 := (by unfold kxSetL; (repeat' split) <;> first | rfl | omega | (exfalso; omega) | contradiction | grind); rw [e0]; exact (if_neg (by decide)).symm)) (by have e0 : (kxSetL σ p k s h) = 1 := (by unfold kxSetL; (repeat' split) <;> first | rfl | omega | (exfalso; omega) | contradiction | grind); rw [e0]; rw [if_neg (by decide), if_neg (by decide), if_neg (by decide)]; exact W8.mu hM (by simp only [mV, zu, Int.reduceEq, reduceIte])) hS hlocks dX8_setLimit_100
      · refine lv_iload (pc := 26) E.1 E.2 dX8_setLimit_26 (lv_at hl 4 rfl) ?_
        refine z_i2l (pc := 28) E ⟨by omega, by omega⟩ dX8_setLimit_28 ?_
        refine z_lconst (pc := 29) (v := 0) E (by decide) dX8_setLimit_29 ?_
        refine lv_ldc2 (pc := 30) (v := iL (99999)) E.1 E.2 hown (show (Jvm.Cond.constantLong RX8 329 (iL (99999))).before _ ss = true from (hts _ (List.mem_of_getElem? (i := 1) rfl))) dX8_setLimit_30 ?_
        refine z_rSi (pc := 33) (P := fun _ => True) (As := [.long (iL h), .long (iL 0), .long (iL 99999)]) (rest := []) E hml hown hts (mX8_isIn lL G h 0 99999 ⟨by omega, by omega⟩ ⟨by omega, by omega⟩ ⟨by omega, by omega⟩) (va_cwS 3 hts gX8_setLimit_X8_isIn rfl rfl rfl vdX8_isIn.2 ⟨Nat.le_of_ble_eq_true rfl, Nat.le_of_ble_eq_true rfl⟩) trivial hK rfl hl.1 rfl dX8_setLimit_33 hcs (Nat.le_of_ble_eq_true rfl) ?_
        refine z_ifb_eq (pc := 36) (tgt := 54) E dX8_setLimit_36 (by decide) (fun h36 => ?_) (fun h36 => ?_)
        · refine z_iconst (pc := 54) E dX8_setLimit_54 ?_
          refine lv_istore (pc := 55) (lv' := [(5, .int (iI 0)), (0, .ref (o 0)), (1, .int (iI p)), (2, .int (iI k)), (3, .int (iI s)), (4, .int (iI h))]) E.1 E.2 dX8_setLimit_55 hl (by decide) rfl (fun ls hl => ?_)
          refine lv_aload_n (pc := 57) E.1 E.2 dX8_setLimit_57 rfl (lv_at hl 1 rfl) ?_
          refine lv_iload (pc := 58) E.1 E.2 dX8_setLimit_58 (lv_at hl 0 rfl) ?_
          refine z_if_ne (pc := 60) (tgt := 67) E (by decide) dX8_setLimit_60 (by decide) (fun h60 => ?_) (fun h60 => ?_)
          · exact absurd h60 (by decide)
          · refine z_iconst (pc := 63) E dX8_setLimit_63 ?_
            refine lv_goto (pc := 64) (tgt := 89) E.1 E.2 dX8_setLimit_64 (by decide) ?_
            refine p8_4 (pc := 89) E hts hin8 hown hK hM.1 hS (Ax.at 0 (by decide)) (hts _ (List.mem_of_getElem? (i := 2) rfl)) dX8_setLimit_89 (fun H locs hnew hoth hS => ?_)
            have hM := W8.p hM hnew (fun a _ h => hoth a h)
            refine lv_aload_n (pc := 92) E.1 E.2 dX8_setLimit_92 rfl (lv_at hl 1 rfl) ?_
            refine g8_4 (pc := 93) E hts hin8 hown hK hM.1 (hts _ (List.mem_of_getElem? (i := 2) rfl)) dX8_setLimit_93 ?_
            refine z_if_le (pc := 96) (tgt := 101) E (by decide) dX8_setLimit_96 (by decide) (fun h96 => ?_) (fun h96 => ?_)
            · exact absurd h96 (by decide)
            · refine z_iconst (pc := 99) E dX8_setLimit_99 ?_
              exact z_retWi E hr (congrArg iI (by have e0 : (kxSetL σ p k s h) = 1 := (by unfold kxSetL; (repeat' split) <;> first | rfl | omega | (exfalso; omega) | contradiction | grind); rw [e0]; exact (if_neg (by decide)).symm)) (by have e0 : (kxSetL σ p k s h) = 1 := (by unfold kxSetL; (repeat' split) <;> first | rfl | omega | (exfalso; omega) | contradiction | grind); rw [e0]; rw [if_neg (by decide), if_neg (by decide), if_neg (by decide)]; exact W8.mu hM (by simp only [mV, zu, Int.reduceEq, reduceIte])) hS hlocks dX8_setLimit_100
        · refine lv_iload (pc := 39) E.1 E.2 dX8_setLimit_39 (lv_at hl 4 rfl) ?_
          refine z_if_eq (pc := 41) (tgt := 50) E ⟨by omega, by omega⟩ dX8_setLimit_41 (by decide) (fun h41 => ?_) (fun h41 => ?_)
          · refine z_iconst (pc := 50) E dX8_setLimit_50 ?_
            refine lv_goto (pc := 51) (tgt := 55) E.1 E.2 dX8_setLimit_51 (by decide) ?_
            refine lv_istore (pc := 55) (lv' := [(5, .int (iI 1)), (0, .ref (o 0)), (1, .int (iI p)), (2, .int (iI k)), (3, .int (iI s)), (4, .int (iI h))]) E.1 E.2 dX8_setLimit_55 hl (by decide) rfl (fun ls hl => ?_)
            refine lv_aload_n (pc := 57) E.1 E.2 dX8_setLimit_57 rfl (lv_at hl 1 rfl) ?_
            refine lv_iload (pc := 58) E.1 E.2 dX8_setLimit_58 (lv_at hl 0 rfl) ?_
            refine z_if_ne (pc := 60) (tgt := 67) E (by decide) dX8_setLimit_60 (by decide) (fun h60 => ?_) (fun h60 => ?_)
            · refine lv_iload (pc := 67) E.1 E.2 dX8_setLimit_67 (lv_at hl 5 rfl) ?_
              refine z_if_ne (pc := 69) (tgt := 88) E ⟨by omega, by omega⟩ dX8_setLimit_69 (by decide) (fun h69 => ?_) (fun h69 => ?_)
              · exact absurd h69 (by first | omega | exact h41 | exact fun q => h41 q)
              · refine lv_iload_n (pc := 72) E.1 E.2 dX8_setLimit_72 rfl (lv_at hl 3 rfl) ?_
                refine z_if_ne (pc := 73) (tgt := 88) E ⟨by omega, by omega⟩ dX8_setLimit_73 (by decide) (fun h73 => ?_) (fun h73 => ?_)
                · refine z_iconst (pc := 88) E dX8_setLimit_88 ?_
                  refine p8_4 (pc := 89) E hts hin8 hown hK hM.1 hS (Ax.at 0 (by decide)) (hts _ (List.mem_of_getElem? (i := 2) rfl)) dX8_setLimit_89 (fun H locs hnew hoth hS => ?_)
                  have hM := W8.p hM hnew (fun a _ h => hoth a h)
                  refine lv_aload_n (pc := 92) E.1 E.2 dX8_setLimit_92 rfl (lv_at hl 1 rfl) ?_
                  refine g8_4 (pc := 93) E hts hin8 hown hK hM.1 (hts _ (List.mem_of_getElem? (i := 2) rfl)) dX8_setLimit_93 ?_
                  refine z_if_le (pc := 96) (tgt := 101) E (by decide) dX8_setLimit_96 (by decide) (fun h96 => ?_) (fun h96 => ?_)
                  · have hk1 : k = 0 ∨ k = 1 := by omega
                    have hp7 : 0 ≤ p ∧ p ≤ 7 := by omega
                    have hI2 : In (zu (zu σ (5 + (2 * p + k)) s) (21 + (2 * p + k)) h) := hI.lims (by omega) (by omega) (by omega)
                    have hI3 := hI2.sc (i := 16) (by omega)
                    refine lv_aload_n (pc := 101) E.1 E.2 dX8_setLimit_101 rfl (lv_at hl 1 rfl) ?_
                    refine z_wVv (pc := 102) (As := []) (rest := []) E hml hown hts (mX8_keeps lL G o (zu μ 4 0) σ φ κ β ω  (by simpa only [zu, Int.reduceEq, reduceIte] using hk8)) (cwV 0 hts gX8_setLimit_X8_keeps rfl rfl rfl vdX8_keeps ⟨Nat.le_of_ble_eq_true rfl, Nat.le_of_ble_eq_true rfl⟩) (oB.recv hK hM.1 rfl) (W8.mu hM (by simp only [mV, zu, Int.reduceEq, reduceIte])) hK hS (fun _ h => h) rfl hl.1 rfl dX8_setLimit_102 hcs (Nat.le_of_ble_eq_true rfl) (fun H locs hnew hsz hoth hS => ?_)
                    have hM : W8 G o [.ref (o 1), .ref (o 2), .ref (o 3), .int (iI (keM ((μ 3)))), .int (iI 0), .ref (o 4), .int (iI (μ 6)), .int (iI (μ 7)), .int (iI (μ 8)), .int (iI (μ 9)), .int (iI (μ 10)), .int (iI (μ 11)), .int (iI (μ 12)), .int (iI (μ 13)), .int (iI (μ 14)), .long (iL (μ 15)), .ref (o 5), .int (iI (μ 17))] σ φ (keK κ σ ((μ 3))) β ω H := W8.eq hnew (by simp only [mV, zu, Int.reduceEq, reduceIte])
                    refine lv_aload_n (pc := 105) E.1 E.2 dX8_setLimit_105 rfl (lv_at hl 1 rfl) ?_
                    refine g8_0 (pc := 106) E hts hin8 hown hK hM.1 (hts _ (List.mem_of_getElem? (i := 3) rfl)) dX8_setLimit_106 ?_
                    refine z_iconst (pc := 109) E dX8_setLimit_109 ?_
                    refine lv_iload_n (pc := 110) E.1 E.2 dX8_setLimit_110 rfl (lv_at hl 2 rfl) ?_
                    refine lv_iload_n (pc := 111) E.1 E.2 dX8_setLimit_111 rfl (lv_at hl 3 rfl) ?_
                    refine z_rSi (pc := 112) (P := fun _ => True) (As := [.int (iI p), .int (iI k)]) (rest := [.int (iI 5), .ref (o 1)]) E hml hown hts (mX8_place lL G p k) (va_cwS 2 hts gX8_setLimit_X8_place rfl rfl rfl vdX8_place.2 ⟨Nat.le_of_ble_eq_true rfl, Nat.le_of_ble_eq_true rfl⟩) trivial hK rfl hl.1 rfl dX8_setLimit_112 hcs (Nat.le_of_ble_eq_true rfl) ?_
                    refine z_iadd (pc := 115) E dX8_setLimit_115 ?_
                    refine lv_iload_n (pc := 116) E.1 E.2 dX8_setLimit_116 rfl (lv_at hl 4 rfl) ?_
                    refine z_i2l (pc := 117) E ⟨by omega, by omega⟩ dX8_setLimit_117 ?_
                    refine z_lastore (pc := 118) E hK hM.2.1 hS (Ax.at 1 (by decide)) ⟨by omega, by omega⟩ (by decide) dX8_setLimit_118 (fun H locs hnew hoth hS => ?_)
                    have hM := W8.a1 hM hnew (fun a _ h => hoth a h)
                    refine lv_aload_n (pc := 119) E.1 E.2 dX8_setLimit_119 rfl (lv_at hl 1 rfl) ?_
                    refine g8_0 (pc := 120) E hts hin8 hown hK hM.1 (hts _ (List.mem_of_getElem? (i := 3) rfl)) dX8_setLimit_120 ?_
                    refine z_bipush (pc := 123) E (by decide) dX8_setLimit_123 ?_
                    refine lv_iload_n (pc := 125) E.1 E.2 dX8_setLimit_125 rfl (lv_at hl 2 rfl) ?_
                    refine lv_iload_n (pc := 126) E.1 E.2 dX8_setLimit_126 rfl (lv_at hl 3 rfl) ?_
                    refine z_rSi (pc := 127) (P := fun _ => True) (As := [.int (iI p), .int (iI k)]) (rest := [.int (iI 21), .ref (o 1)]) E hml hown hts (mX8_place lL G p k) (va_cwS 2 hts gX8_setLimit_X8_place rfl rfl rfl vdX8_place.2 ⟨Nat.le_of_ble_eq_true rfl, Nat.le_of_ble_eq_true rfl⟩) trivial hK rfl hl.1 rfl dX8_setLimit_127 hcs (Nat.le_of_ble_eq_true rfl) ?_
                    refine z_iadd (pc := 130) E dX8_setLimit_130 ?_
                    refine lv_iload (pc := 131) E.1 E.2 dX8_setLimit_131 (lv_at hl 5 rfl) ?_
                    refine z_i2l (pc := 133) E ⟨by omega, by omega⟩ dX8_setLimit_133 ?_
                    refine z_lastore (pc := 134) E hK hM.2.1 hS (Ax.at 1 (by decide)) ⟨by omega, by omega⟩ (by decide) dX8_setLimit_134 (fun H locs hnew hoth hS => ?_)
                    have hM := W8.a1 hM hnew (fun a _ h => hoth a h)
                    refine lv_aload_n (pc := 135) E.1 E.2 dX8_setLimit_135 rfl (lv_at hl 1 rfl) ?_
                    refine z_wVv (pc := 136) (As := []) (rest := []) E hml hown hts (mX8_setsClocks lL G o (zu (zu μ 4 0) 3 (keM ((μ 3)))) (zu (zu σ (5 + (2 * p + k)) s) (21 + (2 * p + k)) h) φ (keK κ σ ((μ 3))) β ω  hI2) (cwV 0 hts gX8_setLimit_X8_setsClocks rfl rfl rfl vdX8_setsClocks ⟨Nat.le_of_ble_eq_true rfl, Nat.le_of_ble_eq_true rfl⟩) (oB.recv hK hM.1 rfl) (W8.mu hM (by simp only [mV, zu, Int.reduceEq, reduceIte])) hK hS (fun _ h => h) rfl hl.1 rfl dX8_setLimit_136 hcs (Nat.le_of_ble_eq_true rfl) (fun H locs hnew hsz hoth hS => ?_)
                    have hM : W8 G o [.ref (o 1), .ref (o 2), .ref (o 3), .int (iI (keM ((μ 3)))), .int (iI 0), .ref (o 4), .int (iI (μ 6)), .int (iI (μ 7)), .int (iI (μ 8)), .int (iI (μ 9)), .int (iI (μ 10)), .int (iI (μ 11)), .int (iI (μ 12)), .int (iI (μ 13)), .int (iI (μ 14)), .long (iL (μ 15)), .ref (o 5), .int (iI (μ 17))] (scA (zu (zu σ (5 + (2 * p + k)) s) (21 + (2 * p + k)) h) 16) φ (keK κ σ ((μ 3))) β ω H := W8.eq hnew (by simp only [mV, zu, Int.reduceEq, reduceIte])
                    refine lv_aload_n (pc := 139) E.1 E.2 dX8_setLimit_139 rfl (lv_at hl 1 rfl) ?_
                    refine lv_iload_n (pc := 140) E.1 E.2 dX8_setLimit_140 rfl (lv_at hl 2 rfl) ?_
                    refine lv_iload_n (pc := 141) E.1 E.2 dX8_setLimit_141 rfl (lv_at hl 3 rfl) ?_
                    refine z_rVi (pc := 142) (As := [.int (iI p), .int (iI k)]) (rest := []) E hml hown hts (mX8_stateOf lL G o (zu (zu μ 4 0) 3 (keM ((μ 3)))) (scA (zu (zu σ (5 + (2 * p + k)) s) (21 + (2 * p + k)) h) 16) φ (keK κ σ ((μ 3))) β ω p k hI3 (by omega) (by omega)) (cwV 2 hts gX8_setLimit_X8_stateOf rfl rfl rfl vdX8_stateOf ⟨Nat.le_of_ble_eq_true rfl, Nat.le_of_ble_eq_true rfl⟩) (oB.recv hK hM.1 rfl) (W8.mu hM (by simp only [mV, zu, Int.reduceEq, reduceIte])) hK rfl hl.1 rfl dX8_setLimit_142 hcs (Nat.le_of_ble_eq_true rfl) ?_
                    exact z_retWi E hr (congrArg iI (by have e0 : (kxSetL σ p k s h) = 0 := (by unfold kxSetL; (repeat' split) <;> first | rfl | omega | (exfalso; omega) | contradiction | grind); rw [e0]; refine Eq.trans ?_ (if_pos rfl).symm; rfl)) (by have e0 : (kxSetL σ p k s h) = 0 := (by unfold kxSetL; (repeat' split) <;> first | rfl | omega | (exfalso; omega) | contradiction | grind); rw [e0]; rw [if_pos rfl, if_pos rfl, if_pos rfl]; exact W8.mu hM (by simp only [mV, zu, Int.reduceEq, reduceIte])) hS hlocks dX8_setLimit_145
                  · exact absurd h96 (by decide)
                · refine lv_aload_n (pc := 76) E.1 E.2 dX8_setLimit_76 rfl (lv_at hl 1 rfl) ?_
                  refine lv_iload_n (pc := 77) E.1 E.2 dX8_setLimit_77 rfl (lv_at hl 2 rfl) ?_
                  refine z_rVi (pc := 78) (As := [.int (iI p)]) (rest := [.ref (o 0)]) E hml hown hts (mX8_hasGift lL G o μ σ φ κ β ω p hI (by omega)) (cwV 1 hts gX8_setLimit_X8_hasGift rfl rfl rfl vdX8_hasGift ⟨Nat.le_of_ble_eq_true rfl, Nat.le_of_ble_eq_true rfl⟩) (oB.recv hK hM.1 rfl) hM hK rfl hl.1 rfl dX8_setLimit_78 hcs (Nat.le_of_ble_eq_true rfl) ?_
                  refine z_ifb_eq (pc := 81) (tgt := 88) E dX8_setLimit_81 (by decide) (fun h81 => ?_) (fun h81 => ?_)
                  · refine z_iconst (pc := 88) E dX8_setLimit_88 ?_
                    refine p8_4 (pc := 89) E hts hin8 hown hK hM.1 hS (Ax.at 0 (by decide)) (hts _ (List.mem_of_getElem? (i := 2) rfl)) dX8_setLimit_89 (fun H locs hnew hoth hS => ?_)
                    have hM := W8.p hM hnew (fun a _ h => hoth a h)
                    refine lv_aload_n (pc := 92) E.1 E.2 dX8_setLimit_92 rfl (lv_at hl 1 rfl) ?_
                    refine g8_4 (pc := 93) E hts hin8 hown hK hM.1 (hts _ (List.mem_of_getElem? (i := 2) rfl)) dX8_setLimit_93 ?_
                    refine z_if_le (pc := 96) (tgt := 101) E (by decide) dX8_setLimit_96 (by decide) (fun h96 => ?_) (fun h96 => ?_)
                    · have hk1 : k = 0 ∨ k = 1 := by omega
                      have hp7 : 0 ≤ p ∧ p ≤ 7 := by omega
                      have hI2 : In (zu (zu σ (5 + (2 * p + k)) s) (21 + (2 * p + k)) h) := hI.lims (by omega) (by omega) (by omega)
                      have hI3 := hI2.sc (i := 16) (by omega)
                      refine lv_aload_n (pc := 101) E.1 E.2 dX8_setLimit_101 rfl (lv_at hl 1 rfl) ?_
                      refine z_wVv (pc := 102) (As := []) (rest := []) E hml hown hts (mX8_keeps lL G o (zu μ 4 0) σ φ κ β ω  (by simpa only [zu, Int.reduceEq, reduceIte] using hk8)) (cwV 0 hts gX8_setLimit_X8_keeps rfl rfl rfl vdX8_keeps ⟨Nat.le_of_ble_eq_true rfl, Nat.le_of_ble_eq_true rfl⟩) (oB.recv hK hM.1 rfl) (W8.mu hM (by simp only [mV, zu, Int.reduceEq, reduceIte])) hK hS (fun _ h => h) rfl hl.1 rfl dX8_setLimit_102 hcs (Nat.le_of_ble_eq_true rfl) (fun H locs hnew hsz hoth hS => ?_)
                      have hM : W8 G o [.ref (o 1), .ref (o 2), .ref (o 3), .int (iI (keM ((μ 3)))), .int (iI 0), .ref (o 4), .int (iI (μ 6)), .int (iI (μ 7)), .int (iI (μ 8)), .int (iI (μ 9)), .int (iI (μ 10)), .int (iI (μ 11)), .int (iI (μ 12)), .int (iI (μ 13)), .int (iI (μ 14)), .long (iL (μ 15)), .ref (o 5), .int (iI (μ 17))] σ φ (keK κ σ ((μ 3))) β ω H := W8.eq hnew (by simp only [mV, zu, Int.reduceEq, reduceIte])
                      refine lv_aload_n (pc := 105) E.1 E.2 dX8_setLimit_105 rfl (lv_at hl 1 rfl) ?_
                      refine g8_0 (pc := 106) E hts hin8 hown hK hM.1 (hts _ (List.mem_of_getElem? (i := 3) rfl)) dX8_setLimit_106 ?_
                      refine z_iconst (pc := 109) E dX8_setLimit_109 ?_
                      refine lv_iload_n (pc := 110) E.1 E.2 dX8_setLimit_110 rfl (lv_at hl 2 rfl) ?_
                      refine lv_iload_n (pc := 111) E.1 E.2 dX8_setLimit_111 rfl (lv_at hl 3 rfl) ?_
                      refine z_rSi (pc := 112) (P := fun _ => True) (As := [.int (iI p), .int (iI k)]) (rest := [.int (iI 5), .ref (o 1)]) E hml hown hts (mX8_place lL G p k) (va_cwS 2 hts gX8_setLimit_X8_place rfl rfl rfl vdX8_place.2 ⟨Nat.le_of_ble_eq_true rfl, Nat.le_of_ble_eq_true rfl⟩) trivial hK rfl hl.1 rfl dX8_setLimit_112 hcs (Nat.le_of_ble_eq_true rfl) ?_
                      refine z_iadd (pc := 115) E dX8_setLimit_115 ?_
                      refine lv_iload_n (pc := 116) E.1 E.2 dX8_setLimit_116 rfl (lv_at hl 4 rfl) ?_
                      refine z_i2l (pc := 117) E ⟨by omega, by omega⟩ dX8_setLimit_117 ?_
                      refine z_lastore (pc := 118) E hK hM.2.1 hS (Ax.at 1 (by decide)) ⟨by omega, by omega⟩ (by decide) dX8_setLimit_118 (fun H locs hnew hoth hS => ?_)
                      have hM := W8.a1 hM hnew (fun a _ h => hoth a h)
                      refine lv_aload_n (pc := 119) E.1 E.2 dX8_setLimit_119 rfl (lv_at hl 1 rfl) ?_
                      refine g8_0 (pc := 120) E hts hin8 hown hK hM.1 (hts _ (List.mem_of_getElem? (i := 3) rfl)) dX8_setLimit_120 ?_
                      refine z_bipush (pc := 123) E (by decide) dX8_setLimit_123 ?_
                      refine lv_iload_n (pc := 125) E.1 E.2 dX8_setLimit_125 rfl (lv_at hl 2 rfl) ?_
                      refine lv_iload_n (pc := 126) E.1 E.2 dX8_setLimit_126 rfl (lv_at hl 3 rfl) ?_
                      refine z_rSi (pc := 127) (P := fun _ => True) (As := [.int (iI p), .int (iI k)]) (rest := [.int (iI 21), .ref (o 1)]) E hml hown hts (mX8_place lL G p k) (va_cwS 2 hts gX8_setLimit_X8_place rfl rfl rfl vdX8_place.2 ⟨Nat.le_of_ble_eq_true rfl, Nat.le_of_ble_eq_true rfl⟩) trivial hK rfl hl.1 rfl dX8_setLimit_127 hcs (Nat.le_of_ble_eq_true rfl) ?_
                      refine z_iadd (pc := 130) E dX8_setLimit_130 ?_
                      refine lv_iload (pc := 131) E.1 E.2 dX8_setLimit_131 (lv_at hl 5 rfl) ?_
                      refine z_i2l (pc := 133) E ⟨by omega, by omega⟩ dX8_setLimit_133 ?_
                      refine z_lastore (pc := 134) E hK hM.2.1 hS (Ax.at 1 (by decide)) ⟨by omega, by omega⟩ (by decide) dX8_setLimit_134 (fun H locs hnew hoth hS => ?_)
                      have hM := W8.a1 hM hnew (fun a _ h => hoth a h)
                      refine lv_aload_n (pc := 135) E.1 E.2 dX8_setLimit_135 rfl (lv_at hl 1 rfl) ?_
                      refine z_wVv (pc := 136) (As := []) (rest := []) E hml hown hts (mX8_setsClocks lL G o (zu (zu μ 4 0) 3 (keM ((μ 3)))) (zu (zu σ (5 + (2 * p + k)) s) (21 + (2 * p + k)) h) φ (keK κ σ ((μ 3))) β ω  hI2) (cwV 0 hts gX8_setLimit_X8_setsClocks rfl rfl rfl vdX8_setsClocks ⟨Nat.le_of_ble_eq_true rfl, Nat.le_of_ble_eq_true rfl⟩) (oB.recv hK hM.1 rfl) (W8.mu hM (by simp only [mV, zu, Int.reduceEq, reduceIte])) hK hS (fun _ h => h) rfl hl.1 rfl dX8_setLimit_136 hcs (Nat.le_of_ble_eq_true rfl) (fun H locs hnew hsz hoth hS => ?_)
                      have hM : W8 G o [.ref (o 1), .ref (o 2), .ref (o 3), .int (iI (keM ((μ 3)))), .int (iI 0), .ref (o 4), .int (iI (μ 6)), .int (iI (μ 7)), .int (iI (μ 8)), .int (iI (μ 9)), .int (iI (μ 10)), .int (iI (μ 11)), .int (iI (μ 12)), .int (iI (μ 13)), .int (iI (μ 14)), .long (iL (μ 15)), .ref (o 5), .int (iI (μ 17))] (scA (zu (zu σ (5 + (2 * p + k)) s) (21 + (2 * p + k)) h) 16) φ (keK κ σ ((μ 3))) β ω H := W8.eq hnew (by simp only [mV, zu, Int.reduceEq, reduceIte])
                      refine lv_aload_n (pc := 139) E.1 E.2 dX8_setLimit_139 rfl (lv_at hl 1 rfl) ?_
                      refine lv_iload_n (pc := 140) E.1 E.2 dX8_setLimit_140 rfl (lv_at hl 2 rfl) ?_
                      refine lv_iload_n (pc := 141) E.1 E.2 dX8_setLimit_141 rfl (lv_at hl 3 rfl) ?_
                      refine z_rVi (pc := 142) (As := [.int (iI p), .int (iI k)]) (rest := []) E hml hown hts (mX8_stateOf lL G o (zu (zu μ 4 0) 3 (keM ((μ 3)))) (scA (zu (zu σ (5 + (2 * p + k)) s) (21 + (2 * p + k)) h) 16) φ (keK κ σ ((μ 3))) β ω p k hI3 (by omega) (by omega)) (cwV 2 hts gX8_setLimit_X8_stateOf rfl rfl rfl vdX8_stateOf ⟨Nat.le_of_ble_eq_true rfl, Nat.le_of_ble_eq_true rfl⟩) (oB.recv hK hM.1 rfl) (W8.mu hM (by simp only [mV, zu, Int.reduceEq, reduceIte])) hK rfl hl.1 rfl dX8_setLimit_142 hcs (Nat.le_of_ble_eq_true rfl) ?_
                      exact z_retWi E hr (congrArg iI (by have e0 : (kxSetL σ p k s h) = 0 := (by unfold kxSetL; (repeat' split) <;> first | rfl | omega | (exfalso; omega) | contradiction | grind); rw [e0]; refine Eq.trans ?_ (if_pos rfl).symm; rfl)) (by have e0 : (kxSetL σ p k s h) = 0 := (by unfold kxSetL; (repeat' split) <;> first | rfl | omega | (exfalso; omega) | contradiction | grind); rw [e0]; rw [if_pos rfl, if_pos rfl, if_pos rfl]; exact W8.mu hM (by simp only [mV, zu, Int.reduceEq, reduceIte])) hS hlocks dX8_setLimit_145
                    · exact absurd h96 (by decide)
                  · refine z_iconst (pc := 84) E dX8_setLimit_84 ?_
                    refine lv_goto (pc := 85) (tgt := 89) E.1 E.2 dX8_setLimit_85 (by decide) ?_
                    refine p8_4 (pc := 89) E hts hin8 hown hK hM.1 hS (Ax.at 0 (by decide)) (hts _ (List.mem_of_getElem? (i := 2) rfl)) dX8_setLimit_89 (fun H locs hnew hoth hS => ?_)
                    have hM := W8.p hM hnew (fun a _ h => hoth a h)
                    refine lv_aload_n (pc := 92) E.1 E.2 dX8_setLimit_92 rfl (lv_at hl 1 rfl) ?_
                    refine g8_4 (pc := 93) E hts hin8 hown hK hM.1 (hts _ (List.mem_of_getElem? (i := 2) rfl)) dX8_setLimit_93 ?_
                    refine z_if_le (pc := 96) (tgt := 101) E (by decide) dX8_setLimit_96 (by decide) (fun h96 => ?_) (fun h96 => ?_)
                    · exact absurd h96 (by decide)
                    · refine z_iconst (pc := 99) E dX8_setLimit_99 ?_
                      exact z_retWi E hr (congrArg iI (by have e0 : (kxSetL σ p k s h) = 2 := (by unfold kxSetL; (repeat' split) <;> first | rfl | omega | (exfalso; omega) | contradiction | grind); rw [e0]; exact (if_neg (by decide)).symm)) (by have e0 : (kxSetL σ p k s h) = 2 := (by unfold kxSetL; (repeat' split) <;> first | rfl | omega | (exfalso; omega) | contradiction | grind); rw [e0]; rw [if_neg (by decide), if_neg (by decide), if_neg (by decide)]; exact W8.mu hM (by simp only [mV, zu, Int.reduceEq, reduceIte])) hS hlocks dX8_setLimit_100
            · exact absurd h60 (by decide)
          · refine lv_iload_n (pc := 44) E.1 E.2 dX8_setLimit_44 rfl (lv_at hl 3 rfl) ?_
            refine lv_iload (pc := 45) E.1 E.2 dX8_setLimit_45 (lv_at hl 4 rfl) ?_
            refine z_icmp_gt (pc := 47) (tgt := 54) E ⟨by omega, by omega⟩ ⟨by omega, by omega⟩ dX8_setLimit_47 (by decide) (fun h47 => ?_) (fun h47 => ?_)
            · refine z_iconst (pc := 54) E dX8_setLimit_54 ?_
              refine lv_istore (pc := 55) (lv' := [(5, .int (iI 0)), (0, .ref (o 0)), (1, .int (iI p)), (2, .int (iI k)), (3, .int (iI s)), (4, .int (iI h))]) E.1 E.2 dX8_setLimit_55 hl (by decide) rfl (fun ls hl => ?_)
              refine lv_aload_n (pc := 57) E.1 E.2 dX8_setLimit_57 rfl (lv_at hl 1 rfl) ?_
              refine lv_iload (pc := 58) E.1 E.2 dX8_setLimit_58 (lv_at hl 0 rfl) ?_
              refine z_if_ne (pc := 60) (tgt := 67) E (by decide) dX8_setLimit_60 (by decide) (fun h60 => ?_) (fun h60 => ?_)
              · exact absurd h60 (by decide)
              · refine z_iconst (pc := 63) E dX8_setLimit_63 ?_
                refine lv_goto (pc := 64) (tgt := 89) E.1 E.2 dX8_setLimit_64 (by decide) ?_
                refine p8_4 (pc := 89) E hts hin8 hown hK hM.1 hS (Ax.at 0 (by decide)) (hts _ (List.mem_of_getElem? (i := 2) rfl)) dX8_setLimit_89 (fun H locs hnew hoth hS => ?_)
                have hM := W8.p hM hnew (fun a _ h => hoth a h)
                refine lv_aload_n (pc := 92) E.1 E.2 dX8_setLimit_92 rfl (lv_at hl 1 rfl) ?_
                refine g8_4 (pc := 93) E hts hin8 hown hK hM.1 (hts _ (List.mem_of_getElem? (i := 2) rfl)) dX8_setLimit_93 ?_
                refine z_if_le (pc := 96) (tgt := 101) E (by decide) dX8_setLimit_96 (by decide) (fun h96 => ?_) (fun h96 => ?_)
                · exact absurd h96 (by decide)
                · refine z_iconst (pc := 99) E dX8_setLimit_99 ?_
                  exact z_retWi E hr (congrArg iI (by have e0 : (kxSetL σ p k s h) = 1 := (by unfold kxSetL; (repeat' split) <;> first | rfl | omega | (exfalso; omega) | contradiction | grind); rw [e0]; exact (if_neg (by decide)).symm)) (by have e0 : (kxSetL σ p k s h) = 1 := (by unfold kxSetL; (repeat' split) <;> first | rfl | omega | (exfalso; omega) | contradiction | grind); rw [e0]; rw [if_neg (by decide), if_neg (by decide), if_neg (by decide)]; exact W8.mu hM (by simp only [mV, zu, Int.reduceEq, reduceIte])) hS hlocks dX8_setLimit_100
            · refine z_iconst (pc := 50) E dX8_setLimit_50 ?_
              refine lv_goto (pc := 51) (tgt := 55) E.1 E.2 dX8_setLimit_51 (by decide) ?_
              refine lv_istore (pc := 55) (lv' := [(5, .int (iI 1)), (0, .ref (o 0)), (1, .int (iI p)), (2, .int (iI k)), (3, .int (iI s)), (4, .int (iI h))]) E.1 E.2 dX8_setLimit_55 hl (by decide) rfl (fun ls hl => ?_)
              refine lv_aload_n (pc := 57) E.1 E.2 dX8_setLimit_57 rfl (lv_at hl 1 rfl) ?_
              refine lv_iload (pc := 58) E.1 E.2 dX8_setLimit_58 (lv_at hl 0 rfl) ?_
              refine z_if_ne (pc := 60) (tgt := 67) E (by decide) dX8_setLimit_60 (by decide) (fun h60 => ?_) (fun h60 => ?_)
              · refine lv_iload (pc := 67) E.1 E.2 dX8_setLimit_67 (lv_at hl 5 rfl) ?_
                refine z_if_ne (pc := 69) (tgt := 88) E ⟨by omega, by omega⟩ dX8_setLimit_69 (by decide) (fun h69 => ?_) (fun h69 => ?_)
                · refine z_iconst (pc := 88) E dX8_setLimit_88 ?_
                  refine p8_4 (pc := 89) E hts hin8 hown hK hM.1 hS (Ax.at 0 (by decide)) (hts _ (List.mem_of_getElem? (i := 2) rfl)) dX8_setLimit_89 (fun H locs hnew hoth hS => ?_)
                  have hM := W8.p hM hnew (fun a _ h => hoth a h)
                  refine lv_aload_n (pc := 92) E.1 E.2 dX8_setLimit_92 rfl (lv_at hl 1 rfl) ?_
                  refine g8_4 (pc := 93) E hts hin8 hown hK hM.1 (hts _ (List.mem_of_getElem? (i := 2) rfl)) dX8_setLimit_93 ?_
                  refine z_if_le (pc := 96) (tgt := 101) E (by decide) dX8_setLimit_96 (by decide) (fun h96 => ?_) (fun h96 => ?_)
                  · have hk1 : k = 0 ∨ k = 1 := by omega
                    have hp7 : 0 ≤ p ∧ p ≤ 7 := by omega
                    have hI2 : In (zu (zu σ (5 + (2 * p + k)) s) (21 + (2 * p + k)) h) := hI.lims (by omega) (by omega) (by omega)
                    have hI3 := hI2.sc (i := 16) (by omega)
                    refine lv_aload_n (pc := 101) E.1 E.2 dX8_setLimit_101 rfl (lv_at hl 1 rfl) ?_
                    refine z_wVv (pc := 102) (As := []) (rest := []) E hml hown hts (mX8_keeps lL G o (zu μ 4 0) σ φ κ β ω  (by simpa only [zu, Int.reduceEq, reduceIte] using hk8)) (cwV 0 hts gX8_setLimit_X8_keeps rfl rfl rfl vdX8_keeps ⟨Nat.le_of_ble_eq_true rfl, Nat.le_of_ble_eq_true rfl⟩) (oB.recv hK hM.1 rfl) (W8.mu hM (by simp only [mV, zu, Int.reduceEq, reduceIte])) hK hS (fun _ h => h) rfl hl.1 rfl dX8_setLimit_102 hcs (Nat.le_of_ble_eq_true rfl) (fun H locs hnew hsz hoth hS => ?_)
                    have hM : W8 G o [.ref (o 1), .ref (o 2), .ref (o 3), .int (iI (keM ((μ 3)))), .int (iI 0), .ref (o 4), .int (iI (μ 6)), .int (iI (μ 7)), .int (iI (μ 8)), .int (iI (μ 9)), .int (iI (μ 10)), .int (iI (μ 11)), .int (iI (μ 12)), .int (iI (μ 13)), .int (iI (μ 14)), .long (iL (μ 15)), .ref (o 5), .int (iI (μ 17))] σ φ (keK κ σ ((μ 3))) β ω H := W8.eq hnew (by simp only [mV, zu, Int.reduceEq, reduceIte])
                    refine lv_aload_n (pc := 105) E.1 E.2 dX8_setLimit_105 rfl (lv_at hl 1 rfl) ?_
                    refine g8_0 (pc := 106) E hts hin8 hown hK hM.1 (hts _ (List.mem_of_getElem? (i := 3) rfl)) dX8_setLimit_106 ?_
                    refine z_iconst (pc := 109) E dX8_setLimit_109 ?_
                    refine lv_iload_n (pc := 110) E.1 E.2 dX8_setLimit_110 rfl (lv_at hl 2 rfl) ?_
                    refine lv_iload_n (pc := 111) E.1 E.2 dX8_setLimit_111 rfl (lv_at hl 3 rfl) ?_
                    refine z_rSi (pc := 112) (P := fun _ => True) (As := [.int (iI p), .int (iI k)]) (rest := [.int (iI 5), .ref (o 1)]) E hml hown hts (mX8_place lL G p k) (va_cwS 2 hts gX8_setLimit_X8_place rfl rfl rfl vdX8_place.2 ⟨Nat.le_of_ble_eq_true rfl, Nat.le_of_ble_eq_true rfl⟩) trivial hK rfl hl.1 rfl dX8_setLimit_112 hcs (Nat.le_of_ble_eq_true rfl) ?_
                    refine z_iadd (pc := 115) E dX8_setLimit_115 ?_
                    refine lv_iload_n (pc := 116) E.1 E.2 dX8_setLimit_116 rfl (lv_at hl 4 rfl) ?_
                    refine z_i2l (pc := 117) E ⟨by omega, by omega⟩ dX8_setLimit_117 ?_
                    refine z_lastore (pc := 118) E hK hM.2.1 hS (Ax.at 1 (by decide)) ⟨by omega, by omega⟩ (by decide) dX8_setLimit_118 (fun H locs hnew hoth hS => ?_)
                    have hM := W8.a1 hM hnew (fun a _ h => hoth a h)
                    refine lv_aload_n (pc := 119) E.1 E.2 dX8_setLimit_119 rfl (lv_at hl 1 rfl) ?_
                    refine g8_0 (pc := 120) E hts hin8 hown hK hM.1 (hts _ (List.mem_of_getElem? (i := 3) rfl)) dX8_setLimit_120 ?_
                    refine z_bipush (pc := 123) E (by decide) dX8_setLimit_123 ?_
                    refine lv_iload_n (pc := 125) E.1 E.2 dX8_setLimit_125 rfl (lv_at hl 2 rfl) ?_
                    refine lv_iload_n (pc := 126) E.1 E.2 dX8_setLimit_126 rfl (lv_at hl 3 rfl) ?_
                    refine z_rSi (pc := 127) (P := fun _ => True) (As := [.int (iI p), .int (iI k)]) (rest := [.int (iI 21), .ref (o 1)]) E hml hown hts (mX8_place lL G p k) (va_cwS 2 hts gX8_setLimit_X8_place rfl rfl rfl vdX8_place.2 ⟨Nat.le_of_ble_eq_true rfl, Nat.le_of_ble_eq_true rfl⟩) trivial hK rfl hl.1 rfl dX8_setLimit_127 hcs (Nat.le_of_ble_eq_true rfl) ?_
                    refine z_iadd (pc := 130) E dX8_setLimit_130 ?_
                    refine lv_iload (pc := 131) E.1 E.2 dX8_setLimit_131 (lv_at hl 5 rfl) ?_
                    refine z_i2l (pc := 133) E ⟨by omega, by omega⟩ dX8_setLimit_133 ?_
                    refine z_lastore (pc := 134) E hK hM.2.1 hS (Ax.at 1 (by decide)) ⟨by omega, by omega⟩ (by decide) dX8_setLimit_134 (fun H locs hnew hoth hS => ?_)
                    have hM := W8.a1 hM hnew (fun a _ h => hoth a h)
                    refine lv_aload_n (pc := 135) E.1 E.2 dX8_setLimit_135 rfl (lv_at hl 1 rfl) ?_
                    refine z_wVv (pc := 136) (As := []) (rest := []) E hml hown hts (mX8_setsClocks lL G o (zu (zu μ 4 0) 3 (keM ((μ 3)))) (zu (zu σ (5 + (2 * p + k)) s) (21 + (2 * p + k)) h) φ (keK κ σ ((μ 3))) β ω  hI2) (cwV 0 hts gX8_setLimit_X8_setsClocks rfl rfl rfl vdX8_setsClocks ⟨Nat.le_of_ble_eq_true rfl, Nat.le_of_ble_eq_true rfl⟩) (oB.recv hK hM.1 rfl) (W8.mu hM (by simp only [mV, zu, Int.reduceEq, reduceIte])) hK hS (fun _ h => h) rfl hl.1 rfl dX8_setLimit_136 hcs (Nat.le_of_ble_eq_true rfl) (fun H locs hnew hsz hoth hS => ?_)
                    have hM : W8 G o [.ref (o 1), .ref (o 2), .ref (o 3), .int (iI (keM ((μ 3)))), .int (iI 0), .ref (o 4), .int (iI (μ 6)), .int (iI (μ 7)), .int (iI (μ 8)), .int (iI (μ 9)), .int (iI (μ 10)), .int (iI (μ 11)), .int (iI (μ 12)), .int (iI (μ 13)), .int (iI (μ 14)), .long (iL (μ 15)), .ref (o 5), .int (iI (μ 17))] (scA (zu (zu σ (5 + (2 * p + k)) s) (21 + (2 * p + k)) h) 16) φ (keK κ σ ((μ 3))) β ω H := W8.eq hnew (by simp only [mV, zu, Int.reduceEq, reduceIte])
                    refine lv_aload_n (pc := 139) E.1 E.2 dX8_setLimit_139 rfl (lv_at hl 1 rfl) ?_
                    refine lv_iload_n (pc := 140) E.1 E.2 dX8_setLimit_140 rfl (lv_at hl 2 rfl) ?_
                    refine lv_iload_n (pc := 141) E.1 E.2 dX8_setLimit_141 rfl (lv_at hl 3 rfl) ?_
                    refine z_rVi (pc := 142) (As := [.int (iI p), .int (iI k)]) (rest := []) E hml hown hts (mX8_stateOf lL G o (zu (zu μ 4 0) 3 (keM ((μ 3)))) (scA (zu (zu σ (5 + (2 * p + k)) s) (21 + (2 * p + k)) h) 16) φ (keK κ σ ((μ 3))) β ω p k hI3 (by omega) (by omega)) (cwV 2 hts gX8_setLimit_X8_stateOf rfl rfl rfl vdX8_stateOf ⟨Nat.le_of_ble_eq_true rfl, Nat.le_of_ble_eq_true rfl⟩) (oB.recv hK hM.1 rfl) (W8.mu hM (by simp only [mV, zu, Int.reduceEq, reduceIte])) hK rfl hl.1 rfl dX8_setLimit_142 hcs (Nat.le_of_ble_eq_true rfl) ?_
                    exact z_retWi E hr (congrArg iI (by have e0 : (kxSetL σ p k s h) = 0 := (by unfold kxSetL; (repeat' split) <;> first | rfl | omega | (exfalso; omega) | contradiction | grind); rw [e0]; refine Eq.trans ?_ (if_pos rfl).symm; rfl)) (by have e0 : (kxSetL σ p k s h) = 0 := (by unfold kxSetL; (repeat' split) <;> first | rfl | omega | (exfalso; omega) | contradiction | grind); rw [e0]; rw [if_pos rfl, if_pos rfl, if_pos rfl]; exact W8.mu hM (by simp only [mV, zu, Int.reduceEq, reduceIte])) hS hlocks dX8_setLimit_145
                  · exact absurd h96 (by decide)
                · exact absurd h69 (by first | omega | exact h41 | exact fun q => h41 q)
              · exact absurd h60 (by decide)
set_option maxHeartbeats 1000000 in
set_option maxRecDepth 100000 in
theorem mX8_setGrace (lL : Launch) (G : GG) (o : Nat → Nat) (μ σ φ κ β ω : Int → Int) (g : Int) (hI : In σ) (hg : -2147483648 ≤ g ∧ g < 2147483648) (hk8 : 0 ≤ μ 3 ∧ μ 3 ≤ 8) : Met lL yX8_setGrace wsX8_setGrace ({ frames := 3, cells := 0, slots := 0, locals := 74 } : Room) (va_Pc [.ref (o 0), .int (iI g)] (fun U => W8 G o (mV o μ) σ φ κ β ω U.heap ∧ KK G U)) (va_Qi (fun r (_ : Unit) => r = (iI (if (kxSetG g) = 0 then σ 1 else 0))) (fun _ tZ => W8 G o (mV o (zu (zu μ 4 (kxSetG g)) 3 (if (kxSetG g) = 0 then keM (μ 3) else μ 3))) (if (kxSetG g) = 0 then nxSetG σ g else σ) φ (if (kxSetG g) = 0 then keK κ σ (μ 3) else κ) β ω tZ.heap) (Ax o 6)) 0 0 (Ax o 6) := by
  refine z_met (P := (fun H : Heap => W8 G o (mV o μ) σ φ κ β ω H)) (by decide) rfl (Nat.le_of_ble_eq_true rfl) (fun pp ee ss mm below meth cC E hr hml hown hts hlocks hM hK ls hl => ?_)
  have hl : lv_has ls 3 [(0, .ref (o 0)), (1, .int (iI g))] := hl
  have hcs : 0 ≤ (({ frames := 3, cells := 0, slots := 0, locals := 74 } : Room)).cells ∧ 0 ≤ (({ frames := 3, cells := 0, slots := 0, locals := 74 } : Room)).slots := ⟨Nat.zero_le _, Nat.zero_le _⟩
  have hS : va_S (Ax o 6) ss.heap ss.heap [] := va_S.rf
  have hin8 : ∀ w ∈ wsX80, w ∈ wsX8_setGrace := fun w h => List.mem_cons_of_mem _ (List.mem_append_right _ (h))
  have hF := hI.F
  have hMm := hI.M
  have hGn := hI.Gn
  have hTi := hI.ti
  have hGr := hI.gr
  refine lv_aload_n (pc := 0) E.1 E.2 dX8_setGrace_0 rfl (lv_at hl 0 rfl) ?_
  refine lv_iload_n (pc := 1) E.1 E.2 dX8_setGrace_1 rfl (lv_at hl 1 rfl) ?_
  refine z_i2l (pc := 2) E ⟨by omega, by omega⟩ dX8_setGrace_2 ?_
  refine z_lconst (pc := 3) (v := 1) E (by decide) dX8_setGrace_3 ?_
  refine lv_ldc2 (pc := 4) (v := iL (99)) E.1 E.2 hown (show (Jvm.Cond.constantLong RX8 337 (iL (99))).before _ ss = true from (hts _ (List.mem_of_getElem? (i := 1) rfl))) dX8_setGrace_4 ?_
  refine z_rSi (pc := 7) (P := fun _ => True) (As := [.long (iL g), .long (iL 1), .long (iL 99)]) (rest := [.ref (o 0)]) E hml hown hts (mX8_isIn lL G g 1 99 ⟨by omega, by omega⟩ ⟨by omega, by omega⟩ ⟨by omega, by omega⟩) (va_cwS 3 hts gX8_setGrace_X8_isIn rfl rfl rfl vdX8_isIn.2 ⟨Nat.le_of_ble_eq_true rfl, Nat.le_of_ble_eq_true rfl⟩) trivial hK rfl hl.1 rfl dX8_setGrace_7 hcs (Nat.le_of_ble_eq_true rfl) ?_
  refine z_ifb_eq (pc := 10) (tgt := 17) E dX8_setGrace_10 (by decide) (fun h10 => ?_) (fun h10 => ?_)
  · refine z_iconst (pc := 17) E dX8_setGrace_17 ?_
    refine p8_4 (pc := 18) E hts hin8 hown hK hM.1 hS (Ax.at 0 (by decide)) (hts _ (List.mem_of_getElem? (i := 2) rfl)) dX8_setGrace_18 (fun H locs hnew hoth hS => ?_)
    have hM := W8.p hM hnew (fun a _ h => hoth a h)
    refine lv_aload_n (pc := 21) E.1 E.2 dX8_setGrace_21 rfl (lv_at hl 0 rfl) ?_
    refine g8_4 (pc := 22) E hts hin8 hown hK hM.1 (hts _ (List.mem_of_getElem? (i := 2) rfl)) dX8_setGrace_22 ?_
    refine z_if_le (pc := 25) (tgt := 30) E (by decide) dX8_setGrace_25 (by decide) (fun h25 => ?_) (fun h25 => ?_)
    · exact absurd h25 (by decide)
    · refine z_iconst (pc := 28) E dX8_setGrace_28 ?_
      exact z_retWi E hr (congrArg iI (by have e0 : (kxSetG g) = 1 := (by unfold kxSetG; (repeat' split) <;> first | rfl | omega | (exfalso; omega) | contradiction | grind); rw [e0]; exact (if_neg (by decide)).symm)) (by have e0 : (kxSetG g) = 1 := (by unfold kxSetG; (repeat' split) <;> first | rfl | omega | (exfalso; omega) | contradiction | grind); rw [e0]; rw [if_neg (by decide), if_neg (by decide), if_neg (by decide)]; exact W8.mu hM (by simp only [mV, zu, Int.reduceEq, reduceIte])) hS hlocks dX8_setGrace_29
  · refine z_iconst (pc := 13) E dX8_setGrace_13 ?_
    refine lv_goto (pc := 14) (tgt := 18) E.1 E.2 dX8_setGrace_14 (by decide) ?_
    refine p8_4 (pc := 18) E hts hin8 hown hK hM.1 hS (Ax.at 0 (by decide)) (hts _ (List.mem_of_getElem? (i := 2) rfl)) dX8_setGrace_18 (fun H locs hnew hoth hS => ?_)
    have hM := W8.p hM hnew (fun a _ h => hoth a h)
    refine lv_aload_n (pc := 21) E.1 E.2 dX8_setGrace_21 rfl (lv_at hl 0 rfl) ?_
    refine g8_4 (pc := 22) E hts hin8 hown hK hM.1 (hts _ (List.mem_of_getElem? (i := 2) rfl)) dX8_setGrace_22 ?_
    refine z_if_le (pc := 25) (tgt := 30) E (by decide) dX8_setGrace_25 (by decide) (fun h25 => ?_) (fun h25 => ?_)
    · refine lv_aload_n (pc := 30) E.1 E.2 dX8_setGrace_30 rfl (lv_at hl 0 rfl) ?_
      refine z_wVv (pc := 31) (As := []) (rest := []) E hml hown hts (mX8_keeps lL G o (zu μ 4 0) σ φ κ β ω  (by simpa only [zu, Int.reduceEq, reduceIte] using hk8)) (cwV 0 hts gX8_setGrace_X8_keeps rfl rfl rfl vdX8_keeps ⟨Nat.le_of_ble_eq_true rfl, Nat.le_of_ble_eq_true rfl⟩) (oB.recv hK hM.1 rfl) (W8.mu hM (by simp only [mV, zu, Int.reduceEq, reduceIte])) hK hS (fun _ h => h) rfl hl.1 rfl dX8_setGrace_31 hcs (Nat.le_of_ble_eq_true rfl) (fun H locs hnew hsz hoth hS => ?_)
      have hM : W8 G o [.ref (o 1), .ref (o 2), .ref (o 3), .int (iI (keM ((μ 3)))), .int (iI 0), .ref (o 4), .int (iI (μ 6)), .int (iI (μ 7)), .int (iI (μ 8)), .int (iI (μ 9)), .int (iI (μ 10)), .int (iI (μ 11)), .int (iI (μ 12)), .int (iI (μ 13)), .int (iI (μ 14)), .long (iL (μ 15)), .ref (o 5), .int (iI (μ 17))] σ φ (keK κ σ ((μ 3))) β ω H := W8.eq hnew (by simp only [mV, zu, Int.reduceEq, reduceIte])
      refine lv_aload_n (pc := 34) E.1 E.2 dX8_setGrace_34 rfl (lv_at hl 0 rfl) ?_
      refine g8_0 (pc := 35) E hts hin8 hown hK hM.1 (hts _ (List.mem_of_getElem? (i := 3) rfl)) dX8_setGrace_35 ?_
      refine z_iconst (pc := 38) E dX8_setGrace_38 ?_
      refine z_laload (pc := 39) E hK hM.2.1 ⟨by omega, by omega⟩ (by decide) dX8_setGrace_39 ?_
      have hb39 := hI.bd 1
      refine z_l2i (pc := 40) E dX8_setGrace_40 ?_
      refine lv_istore_n (pc := 41) (lv' := [(2, .int (iI (σ 1))), (0, .ref (o 0)), (1, .int (iI g))]) E.1 E.2 dX8_setGrace_41 rfl hl (by decide) rfl (fun ls hl => ?_)
      refine lv_aload_n (pc := 42) E.1 E.2 dX8_setGrace_42 rfl (lv_at hl 1 rfl) ?_
      refine g8_0 (pc := 43) E hts hin8 hown hK hM.1 (hts _ (List.mem_of_getElem? (i := 3) rfl)) dX8_setGrace_43 ?_
      refine z_iconst (pc := 46) E dX8_setGrace_46 ?_
      refine lv_iload_n (pc := 47) E.1 E.2 dX8_setGrace_47 rfl (lv_at hl 2 rfl) ?_
      refine z_i2l (pc := 48) E ⟨by omega, by omega⟩ dX8_setGrace_48 ?_
      refine z_lastore (pc := 49) E hK hM.2.1 hS (Ax.at 1 (by decide)) ⟨by omega, by omega⟩ (by decide) dX8_setGrace_49 (fun H locs hnew hoth hS => ?_)
      have hM := W8.a1 hM hnew (fun a _ h => hoth a h)
      refine lv_aload_n (pc := 50) E.1 E.2 dX8_setGrace_50 rfl (lv_at hl 1 rfl) ?_
      refine z_wVv (pc := 51) (As := []) (rest := []) E hml hown hts (mX8_setsClocks lL G o (zu (zu μ 4 0) 3 (keM ((μ 3)))) (zu σ 1 g) φ (keK κ σ ((μ 3))) β ω  (hI.grace (by omega))) (cwV 0 hts gX8_setGrace_X8_setsClocks rfl rfl rfl vdX8_setsClocks ⟨Nat.le_of_ble_eq_true rfl, Nat.le_of_ble_eq_true rfl⟩) (oB.recv hK hM.1 rfl) (W8.mu hM (by simp only [mV, zu, Int.reduceEq, reduceIte])) hK hS (fun _ h => h) rfl hl.1 rfl dX8_setGrace_51 hcs (Nat.le_of_ble_eq_true rfl) (fun H locs hnew hsz hoth hS => ?_)
      have hM : W8 G o [.ref (o 1), .ref (o 2), .ref (o 3), .int (iI (keM ((μ 3)))), .int (iI 0), .ref (o 4), .int (iI (μ 6)), .int (iI (μ 7)), .int (iI (μ 8)), .int (iI (μ 9)), .int (iI (μ 10)), .int (iI (μ 11)), .int (iI (μ 12)), .int (iI (μ 13)), .int (iI (μ 14)), .long (iL (μ 15)), .ref (o 5), .int (iI (μ 17))] (scA (zu σ 1 g) 16) φ (keK κ σ ((μ 3))) β ω H := W8.eq hnew (by simp only [mV, zu, Int.reduceEq, reduceIte])
      refine lv_iload_n (pc := 54) E.1 E.2 dX8_setGrace_54 rfl (lv_at hl 0 rfl) ?_
      exact z_retWi E hr (congrArg iI (by have e0 : (kxSetG g) = 0 := (by unfold kxSetG; (repeat' split) <;> first | rfl | omega | (exfalso; omega) | contradiction | grind); rw [e0]; refine Eq.trans ?_ (if_pos rfl).symm; rfl)) (by have e0 : (kxSetG g) = 0 := (by unfold kxSetG; (repeat' split) <;> first | rfl | omega | (exfalso; omega) | contradiction | grind); rw [e0]; rw [if_pos rfl, if_pos rfl, if_pos rfl]; exact W8.mu hM (by simp only [mV, zu, Int.reduceEq, reduceIte])) hS hlocks dX8_setGrace_55
    · exact absurd h25 (by decide)
set_option maxHeartbeats 1000000 in
set_option maxRecDepth 100000 in
theorem mX8_gift (lL : Launch) (G : GG) (o : Nat → Nat) (μ σ φ κ β ω : Int → Int) (a : Int) (t : Int) (b : Int) (d : Int) (hI : In σ) (ha : -2147483648 ≤ a ∧ a < 2147483648) (ht : -2147483648 ≤ t ∧ t < 2147483648) (hb : -2147483648 ≤ b ∧ b < 2147483648) (hd : -2147483648 ≤ d ∧ d < 2147483648) (hk8 : 0 ≤ μ 3 ∧ μ 3 ≤ 8) : Met lL yX8_gift wsX8_gift ({ frames := 3, cells := 0, slots := 0, locals := 74 } : Room) (va_Pc [.ref (o 0), .int (iI a), .int (iI t), .int (iI b), .int (iI d)] (fun U => W8 G o (mV o μ) σ φ κ β ω U.heap ∧ KK G U)) (va_Qi (fun r (_ : Unit) => r = (iI (if (kxGift σ a t b d) = 0 then σ 4 else 0))) (fun _ tZ => W8 G o (mV o (zu (zu μ 4 (kxGift σ a t b d)) 3 (if (kxGift σ a t b d) = 0 then keM (μ 3) else μ 3))) (if (kxGift σ a t b d) = 0 then nxGift σ a t b d else σ) φ (if (kxGift σ a t b d) = 0 then keK κ σ (μ 3) else κ) β ω tZ.heap) (Ax o 6)) 0 0 (Ax o 6) := by
  refine z_met (P := (fun H : Heap => W8 G o (mV o μ) σ φ κ β ω H)) (by decide) rfl (Nat.le_of_ble_eq_true rfl) (fun pp ee ss mm below meth cC E hr hml hown hts hlocks hM hK ls hl => ?_)
  have hl : lv_has ls 7 [(0, .ref (o 0)), (1, .int (iI a)), (2, .int (iI t)), (3, .int (iI b)), (4, .int (iI d))] := hl
  have hcs : 0 ≤ (({ frames := 3, cells := 0, slots := 0, locals := 74 } : Room)).cells ∧ 0 ≤ (({ frames := 3, cells := 0, slots := 0, locals := 74 } : Room)).slots := ⟨Nat.zero_le _, Nat.zero_le _⟩
  have hS : va_S (Ax o 6) ss.heap ss.heap [] := va_S.rf
  have hin8 : ∀ w ∈ wsX80, w ∈ wsX8_gift := fun w h => List.mem_cons_of_mem _ (List.mem_append_right _ (h))
  have hF := hI.F
  have hMm := hI.M
  have hGn := hI.Gn
  have hTi := hI.ti
  have hGr := hI.gr
  refine lv_iload_n (pc := 0) E.1 E.2 dX8_gift_0 rfl (lv_at hl 1 rfl) ?_
  refine z_rSi (pc := 1) (P := fun _ => True) (As := [.int (iI a)]) (rest := []) E hml hown hts (mX8_isProject lL G a ⟨by omega, by omega⟩) (va_cwS 1 hts gX8_gift_X8_isProject rfl rfl rfl vdX8_isProject.2 ⟨Nat.le_of_ble_eq_true rfl, Nat.le_of_ble_eq_true rfl⟩) trivial hK rfl hl.1 rfl dX8_gift_1 hcs (Nat.le_of_ble_eq_true rfl) ?_
  refine z_ifb_eq (pc := 4) (tgt := 48) E dX8_gift_4 (by decide) (fun h4 => ?_) (fun h4 => ?_)
  · refine z_iconst (pc := 48) E dX8_gift_48 ?_
    refine lv_istore (pc := 49) (lv' := [(5, .int (iI 0)), (0, .ref (o 0)), (1, .int (iI a)), (2, .int (iI t)), (3, .int (iI b)), (4, .int (iI d))]) E.1 E.2 dX8_gift_49 hl (by decide) rfl (fun ls hl => ?_)
    refine lv_aload_n (pc := 51) E.1 E.2 dX8_gift_51 rfl (lv_at hl 1 rfl) ?_
    refine lv_iload (pc := 52) E.1 E.2 dX8_gift_52 (lv_at hl 0 rfl) ?_
    refine z_if_ne (pc := 54) (tgt := 61) E (by decide) dX8_gift_54 (by decide) (fun h54 => ?_) (fun h54 => ?_)
    · exact absurd h54 (by decide)
    · refine z_iconst (pc := 57) E dX8_gift_57 ?_
      refine lv_goto (pc := 58) (tgt := 76) E.1 E.2 dX8_gift_58 (by decide) ?_
      refine p8_4 (pc := 76) E hts hin8 hown hK hM.1 hS (Ax.at 0 (by decide)) (hts _ (List.mem_of_getElem? (i := 3) rfl)) dX8_gift_76 (fun H locs hnew hoth hS => ?_)
      have hM := W8.p hM hnew (fun a _ h => hoth a h)
      refine lv_aload_n (pc := 79) E.1 E.2 dX8_gift_79 rfl (lv_at hl 1 rfl) ?_
      refine g8_4 (pc := 80) E hts hin8 hown hK hM.1 (hts _ (List.mem_of_getElem? (i := 3) rfl)) dX8_gift_80 ?_
      refine z_if_le (pc := 83) (tgt := 88) E (by decide) dX8_gift_83 (by decide) (fun h83 => ?_) (fun h83 => ?_)
      · exact absurd h83 (by decide)
      · refine z_iconst (pc := 86) E dX8_gift_86 ?_
        exact z_retWi E hr (congrArg iI (by have e0 : (kxGift σ a t b d) = 1 := (by unfold kxGift; (repeat' split) <;> first | rfl | omega | (exfalso; omega) | contradiction | grind); rw [e0]; exact (if_neg (by decide)).symm)) (by have e0 : (kxGift σ a t b d) = 1 := (by unfold kxGift; (repeat' split) <;> first | rfl | omega | (exfalso; omega) | contradiction | grind); rw [e0]; rw [if_neg (by decide), if_neg (by decide), if_neg (by decide)]; exact W8.mu hM (by simp only [mV, zu, Int.reduceEq, reduceIte])) hS hlocks dX8_gift_87
  · refine lv_iload_n (pc := 7) E.1 E.2 dX8_gift_7 rfl (lv_at hl 2 rfl) ?_
    refine z_rSi (pc := 8) (P := fun _ => True) (As := [.int (iI t)]) (rest := []) E hml hown hts (mX8_isProject lL G t ⟨by omega, by omega⟩) (va_cwS 1 hts gX8_gift_X8_isProject rfl rfl rfl vdX8_isProject.2 ⟨Nat.le_of_ble_eq_true rfl, Nat.le_of_ble_eq_true rfl⟩) trivial hK rfl hl.1 rfl dX8_gift_8 hcs (Nat.le_of_ble_eq_true rfl) ?_
    refine z_ifb_eq (pc := 11) (tgt := 48) E dX8_gift_11 (by decide) (fun h11 => ?_) (fun h11 => ?_)
    · refine z_iconst (pc := 48) E dX8_gift_48 ?_
      refine lv_istore (pc := 49) (lv' := [(5, .int (iI 0)), (0, .ref (o 0)), (1, .int (iI a)), (2, .int (iI t)), (3, .int (iI b)), (4, .int (iI d))]) E.1 E.2 dX8_gift_49 hl (by decide) rfl (fun ls hl => ?_)
      refine lv_aload_n (pc := 51) E.1 E.2 dX8_gift_51 rfl (lv_at hl 1 rfl) ?_
      refine lv_iload (pc := 52) E.1 E.2 dX8_gift_52 (lv_at hl 0 rfl) ?_
      refine z_if_ne (pc := 54) (tgt := 61) E (by decide) dX8_gift_54 (by decide) (fun h54 => ?_) (fun h54 => ?_)
      · exact absurd h54 (by decide)
      · refine z_iconst (pc := 57) E dX8_gift_57 ?_
        refine lv_goto (pc := 58) (tgt := 76) E.1 E.2 dX8_gift_58 (by decide) ?_
        refine p8_4 (pc := 76) E hts hin8 hown hK hM.1 hS (Ax.at 0 (by decide)) (hts _ (List.mem_of_getElem? (i := 3) rfl)) dX8_gift_76 (fun H locs hnew hoth hS => ?_)
        have hM := W8.p hM hnew (fun a _ h => hoth a h)
        refine lv_aload_n (pc := 79) E.1 E.2 dX8_gift_79 rfl (lv_at hl 1 rfl) ?_
        refine g8_4 (pc := 80) E hts hin8 hown hK hM.1 (hts _ (List.mem_of_getElem? (i := 3) rfl)) dX8_gift_80 ?_
        refine z_if_le (pc := 83) (tgt := 88) E (by decide) dX8_gift_83 (by decide) (fun h83 => ?_) (fun h83 => ?_)
        · exact absurd h83 (by decide)
        · refine z_iconst (pc := 86) E dX8_gift_86 ?_
          exact z_retWi E hr (congrArg iI (by have e0 : (kxGift σ a t b d) = 1 := (by unfold kxGift; (repeat' split) <;> first | rfl | omega | (exfalso; omega) | contradiction | grind); rw [e0]; exact (if_neg (by decide)).symm)) (by have e0 : (kxGift σ a t b d) = 1 := (by unfold kxGift; (repeat' split) <;> first | rfl | omega | (exfalso; omega) | contradiction | grind); rw [e0]; rw [if_neg (by decide), if_neg (by decide), if_neg (by decide)]; exact W8.mu hM (by simp only [mV, zu, Int.reduceEq, reduceIte])) hS hlocks dX8_gift_87
    · refine lv_iload_n (pc := 14) E.1 E.2 dX8_gift_14 rfl (lv_at hl 1 rfl) ?_
      refine lv_iload_n (pc := 15) E.1 E.2 dX8_gift_15 rfl (lv_at hl 2 rfl) ?_
      refine z_icmp_eq (pc := 16) (tgt := 48) E ⟨by omega, by omega⟩ ⟨by omega, by omega⟩ dX8_gift_16 (by decide) (fun h16 => ?_) (fun h16 => ?_)
      · refine z_iconst (pc := 48) E dX8_gift_48 ?_
        refine lv_istore (pc := 49) (lv' := [(5, .int (iI 0)), (0, .ref (o 0)), (1, .int (iI a)), (2, .int (iI t)), (3, .int (iI b)), (4, .int (iI d))]) E.1 E.2 dX8_gift_49 hl (by decide) rfl (fun ls hl => ?_)
        refine lv_aload_n (pc := 51) E.1 E.2 dX8_gift_51 rfl (lv_at hl 1 rfl) ?_
        refine lv_iload (pc := 52) E.1 E.2 dX8_gift_52 (lv_at hl 0 rfl) ?_
        refine z_if_ne (pc := 54) (tgt := 61) E (by decide) dX8_gift_54 (by decide) (fun h54 => ?_) (fun h54 => ?_)
        · exact absurd h54 (by decide)
        · refine z_iconst (pc := 57) E dX8_gift_57 ?_
          refine lv_goto (pc := 58) (tgt := 76) E.1 E.2 dX8_gift_58 (by decide) ?_
          refine p8_4 (pc := 76) E hts hin8 hown hK hM.1 hS (Ax.at 0 (by decide)) (hts _ (List.mem_of_getElem? (i := 3) rfl)) dX8_gift_76 (fun H locs hnew hoth hS => ?_)
          have hM := W8.p hM hnew (fun a _ h => hoth a h)
          refine lv_aload_n (pc := 79) E.1 E.2 dX8_gift_79 rfl (lv_at hl 1 rfl) ?_
          refine g8_4 (pc := 80) E hts hin8 hown hK hM.1 (hts _ (List.mem_of_getElem? (i := 3) rfl)) dX8_gift_80 ?_
          refine z_if_le (pc := 83) (tgt := 88) E (by decide) dX8_gift_83 (by decide) (fun h83 => ?_) (fun h83 => ?_)
          · exact absurd h83 (by decide)
          · refine z_iconst (pc := 86) E dX8_gift_86 ?_
            exact z_retWi E hr (congrArg iI (by have e0 : (kxGift σ a t b d) = 1 := (by unfold kxGift; (repeat' split) <;> first | rfl | omega | (exfalso; omega) | contradiction | grind); rw [e0]; exact (if_neg (by decide)).symm)) (by have e0 : (kxGift σ a t b d) = 1 := (by unfold kxGift; (repeat' split) <;> first | rfl | omega | (exfalso; omega) | contradiction | grind); rw [e0]; rw [if_neg (by decide), if_neg (by decide), if_neg (by decide)]; exact W8.mu hM (by simp only [mV, zu, Int.reduceEq, reduceIte])) hS hlocks dX8_gift_87
      · refine lv_iload_n (pc := 19) E.1 E.2 dX8_gift_19 rfl (lv_at hl 3 rfl) ?_
        refine z_i2l (pc := 20) E ⟨by omega, by omega⟩ dX8_gift_20 ?_
        refine z_lconst (pc := 21) (v := 1) E (by decide) dX8_gift_21 ?_
        refine lv_ldc2 (pc := 22) (v := iL (9999)) E.1 E.2 hown (show (Jvm.Cond.constantLong RX8 315 (iL (9999))).before _ ss = true from (hts _ (List.mem_of_getElem? (i := 1) rfl))) dX8_gift_22 ?_
        refine z_rSi (pc := 25) (P := fun _ => True) (As := [.long (iL b), .long (iL 1), .long (iL 9999)]) (rest := []) E hml hown hts (mX8_isIn lL G b 1 9999 ⟨by omega, by omega⟩ ⟨by omega, by omega⟩ ⟨by omega, by omega⟩) (va_cwS 3 hts gX8_gift_X8_isIn rfl rfl rfl vdX8_isIn.2 ⟨Nat.le_of_ble_eq_true rfl, Nat.le_of_ble_eq_true rfl⟩) trivial hK rfl hl.1 rfl dX8_gift_25 hcs (Nat.le_of_ble_eq_true rfl) ?_
        refine z_ifb_eq (pc := 28) (tgt := 48) E dX8_gift_28 (by decide) (fun h28 => ?_) (fun h28 => ?_)
        · refine z_iconst (pc := 48) E dX8_gift_48 ?_
          refine lv_istore (pc := 49) (lv' := [(5, .int (iI 0)), (0, .ref (o 0)), (1, .int (iI a)), (2, .int (iI t)), (3, .int (iI b)), (4, .int (iI d))]) E.1 E.2 dX8_gift_49 hl (by decide) rfl (fun ls hl => ?_)
          refine lv_aload_n (pc := 51) E.1 E.2 dX8_gift_51 rfl (lv_at hl 1 rfl) ?_
          refine lv_iload (pc := 52) E.1 E.2 dX8_gift_52 (lv_at hl 0 rfl) ?_
          refine z_if_ne (pc := 54) (tgt := 61) E (by decide) dX8_gift_54 (by decide) (fun h54 => ?_) (fun h54 => ?_)
          · exact absurd h54 (by decide)
          · refine z_iconst (pc := 57) E dX8_gift_57 ?_
            refine lv_goto (pc := 58) (tgt := 76) E.1 E.2 dX8_gift_58 (by decide) ?_
            refine p8_4 (pc := 76) E hts hin8 hown hK hM.1 hS (Ax.at 0 (by decide)) (hts _ (List.mem_of_getElem? (i := 3) rfl)) dX8_gift_76 (fun H locs hnew hoth hS => ?_)
            have hM := W8.p hM hnew (fun a _ h => hoth a h)
            refine lv_aload_n (pc := 79) E.1 E.2 dX8_gift_79 rfl (lv_at hl 1 rfl) ?_
            refine g8_4 (pc := 80) E hts hin8 hown hK hM.1 (hts _ (List.mem_of_getElem? (i := 3) rfl)) dX8_gift_80 ?_
            refine z_if_le (pc := 83) (tgt := 88) E (by decide) dX8_gift_83 (by decide) (fun h83 => ?_) (fun h83 => ?_)
            · exact absurd h83 (by decide)
            · refine z_iconst (pc := 86) E dX8_gift_86 ?_
              exact z_retWi E hr (congrArg iI (by have e0 : (kxGift σ a t b d) = 1 := (by unfold kxGift; (repeat' split) <;> first | rfl | omega | (exfalso; omega) | contradiction | grind); rw [e0]; exact (if_neg (by decide)).symm)) (by have e0 : (kxGift σ a t b d) = 1 := (by unfold kxGift; (repeat' split) <;> first | rfl | omega | (exfalso; omega) | contradiction | grind); rw [e0]; rw [if_neg (by decide), if_neg (by decide), if_neg (by decide)]; exact W8.mu hM (by simp only [mV, zu, Int.reduceEq, reduceIte])) hS hlocks dX8_gift_87
        · refine lv_iload (pc := 31) E.1 E.2 dX8_gift_31 (lv_at hl 4 rfl) ?_
          refine z_i2l (pc := 33) E ⟨by omega, by omega⟩ dX8_gift_33 ?_
          refine z_lconst (pc := 34) (v := 1) E (by decide) dX8_gift_34 ?_
          refine lv_ldc2 (pc := 35) (v := iL (999)) E.1 E.2 hown (show (Jvm.Cond.constantLong RX8 343 (iL (999))).before _ ss = true from (hts _ (List.mem_of_getElem? (i := 2) rfl))) dX8_gift_35 ?_
          refine z_rSi (pc := 38) (P := fun _ => True) (As := [.long (iL d), .long (iL 1), .long (iL 999)]) (rest := []) E hml hown hts (mX8_isIn lL G d 1 999 ⟨by omega, by omega⟩ ⟨by omega, by omega⟩ ⟨by omega, by omega⟩) (va_cwS 3 hts gX8_gift_X8_isIn rfl rfl rfl vdX8_isIn.2 ⟨Nat.le_of_ble_eq_true rfl, Nat.le_of_ble_eq_true rfl⟩) trivial hK rfl hl.1 rfl dX8_gift_38 hcs (Nat.le_of_ble_eq_true rfl) ?_
          refine z_ifb_eq (pc := 41) (tgt := 48) E dX8_gift_41 (by decide) (fun h41 => ?_) (fun h41 => ?_)
          · refine z_iconst (pc := 48) E dX8_gift_48 ?_
            refine lv_istore (pc := 49) (lv' := [(5, .int (iI 0)), (0, .ref (o 0)), (1, .int (iI a)), (2, .int (iI t)), (3, .int (iI b)), (4, .int (iI d))]) E.1 E.2 dX8_gift_49 hl (by decide) rfl (fun ls hl => ?_)
            refine lv_aload_n (pc := 51) E.1 E.2 dX8_gift_51 rfl (lv_at hl 1 rfl) ?_
            refine lv_iload (pc := 52) E.1 E.2 dX8_gift_52 (lv_at hl 0 rfl) ?_
            refine z_if_ne (pc := 54) (tgt := 61) E (by decide) dX8_gift_54 (by decide) (fun h54 => ?_) (fun h54 => ?_)
            · exact absurd h54 (by decide)
            · refine z_iconst (pc := 57) E dX8_gift_57 ?_
              refine lv_goto (pc := 58) (tgt := 76) E.1 E.2 dX8_gift_58 (by decide) ?_
              refine p8_4 (pc := 76) E hts hin8 hown hK hM.1 hS (Ax.at 0 (by decide)) (hts _ (List.mem_of_getElem? (i := 3) rfl)) dX8_gift_76 (fun H locs hnew hoth hS => ?_)
              have hM := W8.p hM hnew (fun a _ h => hoth a h)
              refine lv_aload_n (pc := 79) E.1 E.2 dX8_gift_79 rfl (lv_at hl 1 rfl) ?_
              refine g8_4 (pc := 80) E hts hin8 hown hK hM.1 (hts _ (List.mem_of_getElem? (i := 3) rfl)) dX8_gift_80 ?_
              refine z_if_le (pc := 83) (tgt := 88) E (by decide) dX8_gift_83 (by decide) (fun h83 => ?_) (fun h83 => ?_)
              · exact absurd h83 (by decide)
              · refine z_iconst (pc := 86) E dX8_gift_86 ?_
                exact z_retWi E hr (congrArg iI (by have e0 : (kxGift σ a t b d) = 1 := (by unfold kxGift; (repeat' split) <;> first | rfl | omega | (exfalso; omega) | contradiction | grind); rw [e0]; exact (if_neg (by decide)).symm)) (by have e0 : (kxGift σ a t b d) = 1 := (by unfold kxGift; (repeat' split) <;> first | rfl | omega | (exfalso; omega) | contradiction | grind); rw [e0]; rw [if_neg (by decide), if_neg (by decide), if_neg (by decide)]; exact W8.mu hM (by simp only [mV, zu, Int.reduceEq, reduceIte])) hS hlocks dX8_gift_87
          · refine z_iconst (pc := 44) E dX8_gift_44 ?_
            refine lv_goto (pc := 45) (tgt := 49) E.1 E.2 dX8_gift_45 (by decide) ?_
            refine lv_istore (pc := 49) (lv' := [(5, .int (iI 1)), (0, .ref (o 0)), (1, .int (iI a)), (2, .int (iI t)), (3, .int (iI b)), (4, .int (iI d))]) E.1 E.2 dX8_gift_49 hl (by decide) rfl (fun ls hl => ?_)
            refine lv_aload_n (pc := 51) E.1 E.2 dX8_gift_51 rfl (lv_at hl 1 rfl) ?_
            refine lv_iload (pc := 52) E.1 E.2 dX8_gift_52 (lv_at hl 0 rfl) ?_
            refine z_if_ne (pc := 54) (tgt := 61) E (by decide) dX8_gift_54 (by decide) (fun h54 => ?_) (fun h54 => ?_)
            · refine lv_aload_n (pc := 61) E.1 E.2 dX8_gift_61 rfl (lv_at hl 1 rfl) ?_
              refine lv_iload_n (pc := 62) E.1 E.2 dX8_gift_62 rfl (lv_at hl 2 rfl) ?_
              refine lv_iload_n (pc := 63) E.1 E.2 dX8_gift_63 rfl (lv_at hl 3 rfl) ?_
              refine lv_iload_n (pc := 64) E.1 E.2 dX8_gift_64 rfl (lv_at hl 4 rfl) ?_
              refine z_rVi (pc := 65) (As := [.int (iI a), .int (iI t), .int (iI b)]) (rest := [.ref (o 0)]) E hml hown hts (mX8_isRefused lL G o μ σ φ κ β ω a t b hI (by omega) (by omega) (by omega)) (cwV 3 hts gX8_gift_X8_isRefused rfl rfl rfl vdX8_isRefused ⟨Nat.le_of_ble_eq_true rfl, Nat.le_of_ble_eq_true rfl⟩) (oB.recv hK hM.1 rfl) hM hK rfl hl.1 rfl dX8_gift_65 hcs (Nat.le_of_ble_eq_true rfl) ?_
              refine z_ifb_eq (pc := 68) (tgt := 75) E dX8_gift_68 (by decide) (fun h68 => ?_) (fun h68 => ?_)
              · refine z_iconst (pc := 75) E dX8_gift_75 ?_
                refine p8_4 (pc := 76) E hts hin8 hown hK hM.1 hS (Ax.at 0 (by decide)) (hts _ (List.mem_of_getElem? (i := 3) rfl)) dX8_gift_76 (fun H locs hnew hoth hS => ?_)
                have hM := W8.p hM hnew (fun a _ h => hoth a h)
                refine lv_aload_n (pc := 79) E.1 E.2 dX8_gift_79 rfl (lv_at hl 1 rfl) ?_
                refine g8_4 (pc := 80) E hts hin8 hown hK hM.1 (hts _ (List.mem_of_getElem? (i := 3) rfl)) dX8_gift_80 ?_
                refine z_if_le (pc := 83) (tgt := 88) E (by decide) dX8_gift_83 (by decide) (fun h83 => ?_) (fun h83 => ?_)
                · have hnr : ¬ rfS σ a t b := by assumption
                  have h12 : σ 4 < 12 := by simp only [rfS] at hnr; omega
                  refine lv_aload_n (pc := 88) E.1 E.2 dX8_gift_88 rfl (lv_at hl 1 rfl) ?_
                  refine z_wVv (pc := 89) (As := []) (rest := []) E hml hown hts (mX8_keeps lL G o (zu μ 4 0) σ φ κ β ω  (by simpa only [zu, Int.reduceEq, reduceIte] using hk8)) (cwV 0 hts gX8_gift_X8_keeps rfl rfl rfl vdX8_keeps ⟨Nat.le_of_ble_eq_true rfl, Nat.le_of_ble_eq_true rfl⟩) (oB.recv hK hM.1 rfl) (W8.mu hM (by simp only [mV, zu, Int.reduceEq, reduceIte])) hK hS (fun _ h => h) rfl hl.1 rfl dX8_gift_89 hcs (Nat.le_of_ble_eq_true rfl) (fun H locs hnew hsz hoth hS => ?_)
                  have hM : W8 G o [.ref (o 1), .ref (o 2), .ref (o 3), .int (iI (keM ((μ 3)))), .int (iI 0), .ref (o 4), .int (iI (μ 6)), .int (iI (μ 7)), .int (iI (μ 8)), .int (iI (μ 9)), .int (iI (μ 10)), .int (iI (μ 11)), .int (iI (μ 12)), .int (iI (μ 13)), .int (iI (μ 14)), .long (iL (μ 15)), .ref (o 5), .int (iI (μ 17))] σ φ (keK κ σ ((μ 3))) β ω H := W8.eq hnew (by simp only [mV, zu, Int.reduceEq, reduceIte])
                  refine z_sipush (pc := 92) E (by decide) dX8_gift_92 ?_
                  refine z_iconst (pc := 95) E dX8_gift_95 ?_
                  refine lv_aload_n (pc := 96) E.1 E.2 dX8_gift_96 rfl (lv_at hl 1 rfl) ?_
                  refine g8_0 (pc := 97) E hts hin8 hown hK hM.1 (hts _ (List.mem_of_getElem? (i := 4) rfl)) dX8_gift_97 ?_
                  refine z_iconst (pc := 100) E dX8_gift_100 ?_
                  refine z_laload (pc := 101) E hK hM.2.1 ⟨by omega, by omega⟩ (by decide) dX8_gift_101 ?_
                  have hb101 := hI.bd 4
                  rw [show (σ 4) = (σ 4) from rfl]
                  refine z_l2i (pc := 102) E dX8_gift_102 ?_
                  refine z_imul (pc := 103) E dX8_gift_103 ?_
                  refine z_iadd (pc := 104) E dX8_gift_104 ?_
                  refine lv_istore (pc := 105) (lv' := [(6, .int (iI (309 + (4 * (σ 4))))), (5, .int (iI 1)), (0, .ref (o 0)), (1, .int (iI a)), (2, .int (iI t)), (3, .int (iI b)), (4, .int (iI d))]) E.1 E.2 dX8_gift_105 hl (by decide) rfl (fun ls hl => ?_)
                  refine lv_aload_n (pc := 107) E.1 E.2 dX8_gift_107 rfl (lv_at hl 2 rfl) ?_
                  refine g8_0 (pc := 108) E hts hin8 hown hK hM.1 (hts _ (List.mem_of_getElem? (i := 4) rfl)) dX8_gift_108 ?_
                  refine lv_iload (pc := 111) E.1 E.2 dX8_gift_111 (lv_at hl 0 rfl) ?_
                  refine z_iconst (pc := 113) E dX8_gift_113 ?_
                  refine z_iadd (pc := 114) E dX8_gift_114 ?_
                  refine lv_iload_n (pc := 115) E.1 E.2 dX8_gift_115 rfl (lv_at hl 3 rfl) ?_
                  refine z_i2l (pc := 116) E ⟨by omega, by omega⟩ dX8_gift_116 ?_
                  refine z_lastore (pc := 117) E hK hM.2.1 hS (Ax.at 1 (by decide)) ⟨by omega, by omega⟩ (by decide) dX8_gift_117 (fun H locs hnew hoth hS => ?_)
                  have hM := W8.a1 hM hnew (fun a _ h => hoth a h)
                  refine lv_aload_n (pc := 118) E.1 E.2 dX8_gift_118 rfl (lv_at hl 2 rfl) ?_
                  refine g8_0 (pc := 119) E hts hin8 hown hK hM.1 (hts _ (List.mem_of_getElem? (i := 4) rfl)) dX8_gift_119 ?_
                  refine lv_iload (pc := 122) E.1 E.2 dX8_gift_122 (lv_at hl 0 rfl) ?_
                  refine z_iconst (pc := 124) E dX8_gift_124 ?_
                  refine z_iadd (pc := 125) E dX8_gift_125 ?_
                  refine lv_iload_n (pc := 126) E.1 E.2 dX8_gift_126 rfl (lv_at hl 4 rfl) ?_
                  refine z_i2l (pc := 127) E ⟨by omega, by omega⟩ dX8_gift_127 ?_
                  refine z_lastore (pc := 128) E hK hM.2.1 hS (Ax.at 1 (by decide)) ⟨by omega, by omega⟩ (by decide) dX8_gift_128 (fun H locs hnew hoth hS => ?_)
                  have hM := W8.a1 hM hnew (fun a _ h => hoth a h)
                  refine lv_aload_n (pc := 129) E.1 E.2 dX8_gift_129 rfl (lv_at hl 2 rfl) ?_
                  refine g8_0 (pc := 130) E hts hin8 hown hK hM.1 (hts _ (List.mem_of_getElem? (i := 4) rfl)) dX8_gift_130 ?_
                  refine lv_iload (pc := 133) E.1 E.2 dX8_gift_133 (lv_at hl 0 rfl) ?_
                  refine z_iconst (pc := 135) E dX8_gift_135 ?_
                  refine z_iadd (pc := 136) E dX8_gift_136 ?_
                  refine lv_iload_n (pc := 137) E.1 E.2 dX8_gift_137 rfl (lv_at hl 5 rfl) ?_
                  refine z_i2l (pc := 138) E ⟨by omega, by omega⟩ dX8_gift_138 ?_
                  refine z_lastore (pc := 139) E hK hM.2.1 hS (Ax.at 1 (by decide)) ⟨by omega, by omega⟩ (by decide) dX8_gift_139 (fun H locs hnew hoth hS => ?_)
                  have hM := W8.a1 hM hnew (fun a _ h => hoth a h)
                  refine lv_aload_n (pc := 140) E.1 E.2 dX8_gift_140 rfl (lv_at hl 2 rfl) ?_
                  refine g8_0 (pc := 141) E hts hin8 hown hK hM.1 (hts _ (List.mem_of_getElem? (i := 4) rfl)) dX8_gift_141 ?_
                  refine lv_iload (pc := 144) E.1 E.2 dX8_gift_144 (lv_at hl 0 rfl) ?_
                  refine z_iconst (pc := 146) E dX8_gift_146 ?_
                  refine z_iadd (pc := 147) E dX8_gift_147 ?_
                  refine lv_aload_n (pc := 148) E.1 E.2 dX8_gift_148 rfl (lv_at hl 2 rfl) ?_
                  refine g8_0 (pc := 149) E hts hin8 hown hK hM.1 (hts _ (List.mem_of_getElem? (i := 4) rfl)) dX8_gift_149 ?_
                  refine z_iconst (pc := 152) E dX8_gift_152 ?_
                  refine z_laload (pc := 153) E hK hM.2.1 ⟨by omega, by omega⟩ (by decide) dX8_gift_153 ?_
                  rw [show ((zu (zu (zu σ ((309 + (4 * (σ 4))) + 0) a) ((309 + (4 * (σ 4))) + 1) t) ((309 + (4 * (σ 4))) + 2) b) 0) = (σ 0) from (by rw [zu_n _ _ (by omega), zu_n _ _ (by omega), zu_n _ _ (by omega)])]
                  refine lv_iload (pc := 154) E.1 E.2 dX8_gift_154 (lv_at hl 6 rfl) ?_
                  refine z_i2l (pc := 156) E ⟨by omega, by omega⟩ dX8_gift_156 ?_
                  refine z_ladd (pc := 157) E dX8_gift_157 ?_
                  refine z_lastore (pc := 158) E hK hM.2.1 hS (Ax.at 1 (by decide)) ⟨by omega, by omega⟩ (by decide) dX8_gift_158 (fun H locs hnew hoth hS => ?_)
                  have hM := W8.a1 hM hnew (fun a _ h => hoth a h)
                  refine lv_aload_n (pc := 159) E.1 E.2 dX8_gift_159 rfl (lv_at hl 2 rfl) ?_
                  refine g8_0 (pc := 160) E hts hin8 hown hK hM.1 (hts _ (List.mem_of_getElem? (i := 4) rfl)) dX8_gift_160 ?_
                  refine z_iconst (pc := 163) E dX8_gift_163 ?_
                  refine lv_dup2_11 (pc := 164) E.1 E.2 dX8_gift_164 rfl rfl ?_
                  refine z_laload (pc := 165) E hK hM.2.1 ⟨by omega, by omega⟩ (by decide) dX8_gift_165 ?_
                  rw [show ((zu (zu (zu (zu σ ((309 + (4 * (σ 4))) + 0) a) ((309 + (4 * (σ 4))) + 1) t) ((309 + (4 * (σ 4))) + 2) b) ((309 + (4 * (σ 4))) + 3) ((σ 0) + d)) 4) = (σ 4) from (by rw [zu_n _ _ (by omega), zu_n _ _ (by omega), zu_n _ _ (by omega), zu_n _ _ (by omega)])]
                  refine z_lconst (pc := 166) (v := 1) E (by decide) dX8_gift_166 ?_
                  refine z_ladd (pc := 167) E dX8_gift_167 ?_
                  refine z_lastore (pc := 168) E hK hM.2.1 hS (Ax.at 1 (by decide)) ⟨by omega, by omega⟩ (by decide) dX8_gift_168 (fun H locs hnew hoth hS => ?_)
                  have hM := W8.a1 hM hnew (fun a _ h => hoth a h)
                  have hM : W8 G o [.ref (o 1), .ref (o 2), .ref (o 3), .int (iI (keM ((μ 3)))), .int (iI 0), .ref (o 4), .int (iI (μ 6)), .int (iI (μ 7)), .int (iI (μ 8)), .int (iI (μ 9)), .int (iI (μ 10)), .int (iI (μ 11)), .int (iI (μ 12)), .int (iI (μ 13)), .int (iI (μ 14)), .long (iL (μ 15)), .ref (o 5), .int (iI (μ 17))] (gaA σ a t b (σ 0 + d)) φ (keK κ σ ((μ 3))) β ω H := by have e0 : (309 + 4 * σ 4 + 0 : Int) = 309 + 4 * σ 4 := Int.add_zero _; rw [e0] at hM; exact hM
                  refine lv_aload_n (pc := 169) E.1 E.2 dX8_gift_169 rfl (lv_at hl 2 rfl) ?_
                  refine z_wVv (pc := 170) (As := []) (rest := []) E hml hown hts (mX8_setsClocks lL G o (zu (zu μ 4 0) 3 (keM ((μ 3)))) (gaA σ a t b (σ 0 + d)) φ (keK κ σ ((μ 3))) β ω  (hI.gaAI h12 (by omega) (by omega) (by omega) (by omega))) (cwV 0 hts gX8_gift_X8_setsClocks rfl rfl rfl vdX8_setsClocks ⟨Nat.le_of_ble_eq_true rfl, Nat.le_of_ble_eq_true rfl⟩) (oB.recv hK hM.1 rfl) (W8.mu hM (by simp only [mV, zu, Int.reduceEq, reduceIte])) hK hS (fun _ h => h) rfl hl.1 rfl dX8_gift_170 hcs (Nat.le_of_ble_eq_true rfl) (fun H locs hnew hsz hoth hS => ?_)
                  have hM : W8 G o [.ref (o 1), .ref (o 2), .ref (o 3), .int (iI (keM ((μ 3)))), .int (iI 0), .ref (o 4), .int (iI (μ 6)), .int (iI (μ 7)), .int (iI (μ 8)), .int (iI (μ 9)), .int (iI (μ 10)), .int (iI (μ 11)), .int (iI (μ 12)), .int (iI (μ 13)), .int (iI (μ 14)), .long (iL (μ 15)), .ref (o 5), .int (iI (μ 17))] (scA (gaA σ a t b (σ 0 + d)) 16) φ (keK κ σ ((μ 3))) β ω H := W8.eq hnew (by simp only [mV, zu, Int.reduceEq, reduceIte])
                  refine lv_aload_n (pc := 173) E.1 E.2 dX8_gift_173 rfl (lv_at hl 2 rfl) ?_
                  refine g8_0 (pc := 174) E hts hin8 hown hK hM.1 (hts _ (List.mem_of_getElem? (i := 4) rfl)) dX8_gift_174 ?_
                  refine z_iconst (pc := 177) E dX8_gift_177 ?_
                  refine z_laload (pc := 178) E hK hM.2.1 ⟨by omega, by omega⟩ (by decide) dX8_gift_178 ?_
                  rw [show ((scA (gaA σ a t b (σ 0 + d)) 16) 4) = (σ 4 + 1) from (by rw [scA_n _ _ (by omega)]; exact zu_s _ _ _)]
                  refine z_l2i (pc := 179) E dX8_gift_179 ?_
                  refine z_iconst (pc := 180) E dX8_gift_180 ?_
                  refine z_isub (pc := 181) E dX8_gift_181 ?_
                  exact z_retWi E hr (congrArg iI (by have e0 : (kxGift σ a t b d) = 0 := (by unfold kxGift; (repeat' split) <;> first | rfl | omega | (exfalso; omega) | contradiction | grind); rw [e0]; refine Eq.trans ?_ (if_pos rfl).symm; omega)) (by have e0 : (kxGift σ a t b d) = 0 := (by unfold kxGift; (repeat' split) <;> first | rfl | omega | (exfalso; omega) | contradiction | grind); rw [e0]; rw [if_pos rfl, if_pos rfl, if_pos rfl]; exact W8.mu hM (by simp only [mV, zu, Int.reduceEq, reduceIte])) hS hlocks dX8_gift_182
                · exact absurd h83 (by decide)
              · refine z_iconst (pc := 71) E dX8_gift_71 ?_
                refine lv_goto (pc := 72) (tgt := 76) E.1 E.2 dX8_gift_72 (by decide) ?_
                refine p8_4 (pc := 76) E hts hin8 hown hK hM.1 hS (Ax.at 0 (by decide)) (hts _ (List.mem_of_getElem? (i := 3) rfl)) dX8_gift_76 (fun H locs hnew hoth hS => ?_)
                have hM := W8.p hM hnew (fun a _ h => hoth a h)
                refine lv_aload_n (pc := 79) E.1 E.2 dX8_gift_79 rfl (lv_at hl 1 rfl) ?_
                refine g8_4 (pc := 80) E hts hin8 hown hK hM.1 (hts _ (List.mem_of_getElem? (i := 3) rfl)) dX8_gift_80 ?_
                refine z_if_le (pc := 83) (tgt := 88) E (by decide) dX8_gift_83 (by decide) (fun h83 => ?_) (fun h83 => ?_)
                · exact absurd h83 (by decide)
                · refine z_iconst (pc := 86) E dX8_gift_86 ?_
                  exact z_retWi E hr (congrArg iI (by have e0 : (kxGift σ a t b d) = 2 := (by unfold kxGift; (repeat' split) <;> first | rfl | omega | (exfalso; omega) | contradiction | grind); rw [e0]; exact (if_neg (by decide)).symm)) (by have e0 : (kxGift σ a t b d) = 2 := (by unfold kxGift; (repeat' split) <;> first | rfl | omega | (exfalso; omega) | contradiction | grind); rw [e0]; rw [if_neg (by decide), if_neg (by decide), if_neg (by decide)]; exact W8.mu hM (by simp only [mV, zu, Int.reduceEq, reduceIte])) hS hlocks dX8_gift_87
            · exact absurd h54 (by decide)
set_option maxHeartbeats 1000000 in
set_option maxRecDepth 100000 in
theorem mX8_endGift (lL : Launch) (G : GG) (o : Nat → Nat) (μ σ φ κ β ω : Int → Int) (g : Int) (hI : In σ) (hg : -2147483648 ≤ g ∧ g < 2147483648) (hk8 : 0 ≤ μ 3 ∧ μ 3 ≤ 8) : Met lL yX8_endGift wsX8_endGift ({ frames := 3, cells := 0, slots := 0, locals := 74 } : Room) (va_Pc [.ref (o 0), .int (iI g)] (fun U => W8 G o (mV o μ) σ φ κ β ω U.heap ∧ KK G U)) (va_Qi (fun r (_ : Unit) => r = (iI (if (kxGi σ g) = 0 then σ 4 - 1 else 0))) (fun _ tZ => W8 G o (mV o (zu (zu μ 4 (kxGi σ g)) 3 (if (kxGi σ g) = 0 then keM (μ 3) else μ 3))) (if (kxGi σ g) = 0 then nxEndG σ g else σ) φ (if (kxGi σ g) = 0 then keK κ σ (μ 3) else κ) β ω tZ.heap) (Ax o 6)) 0 0 (Ax o 6) := by
  refine z_met (P := (fun H : Heap => W8 G o (mV o μ) σ φ κ β ω H)) (by decide) rfl (Nat.le_of_ble_eq_true rfl) (fun pp ee ss mm below meth cC E hr hml hown hts hlocks hM hK ls hl => ?_)
  have hl : lv_has ls 2 [(0, .ref (o 0)), (1, .int (iI g))] := hl
  have hcs : 0 ≤ (({ frames := 3, cells := 0, slots := 0, locals := 74 } : Room)).cells ∧ 0 ≤ (({ frames := 3, cells := 0, slots := 0, locals := 74 } : Room)).slots := ⟨Nat.zero_le _, Nat.zero_le _⟩
  have hS : va_S (Ax o 6) ss.heap ss.heap [] := va_S.rf
  have hin8 : ∀ w ∈ wsX80, w ∈ wsX8_endGift := fun w h => List.mem_cons_of_mem _ (List.mem_append_right _ (h))
  have hF := hI.F
  have hMm := hI.M
  have hGn := hI.Gn
  have hTi := hI.ti
  have hGr := hI.gr
  refine lv_aload_n (pc := 0) E.1 E.2 dX8_endGift_0 rfl (lv_at hl 0 rfl) ?_
  refine lv_aload_n (pc := 1) E.1 E.2 dX8_endGift_1 rfl (lv_at hl 0 rfl) ?_
  refine lv_iload_n (pc := 2) E.1 E.2 dX8_endGift_2 rfl (lv_at hl 1 rfl) ?_
  refine z_rVi (pc := 3) (As := [.int (iI g)]) (rest := [.ref (o 0)]) E hml hown hts (mX8_isGift lL G o μ σ φ κ β ω g hI (by omega)) (cwV 1 hts gX8_endGift_X8_isGift rfl rfl rfl vdX8_isGift ⟨Nat.le_of_ble_eq_true rfl, Nat.le_of_ble_eq_true rfl⟩) (oB.recv hK hM.1 rfl) hM hK rfl hl.1 rfl dX8_endGift_3 hcs (Nat.le_of_ble_eq_true rfl) ?_
  refine z_ifb_eq (pc := 6) (tgt := 13) E dX8_endGift_6 (by decide) (fun h6 => ?_) (fun h6 => ?_)
  · refine z_iconst (pc := 13) E dX8_endGift_13 ?_
    refine p8_4 (pc := 14) E hts hin8 hown hK hM.1 hS (Ax.at 0 (by decide)) (hts _ (List.mem_of_getElem? (i := 1) rfl)) dX8_endGift_14 (fun H locs hnew hoth hS => ?_)
    have hM := W8.p hM hnew (fun a _ h => hoth a h)
    refine lv_aload_n (pc := 17) E.1 E.2 dX8_endGift_17 rfl (lv_at hl 0 rfl) ?_
    refine g8_4 (pc := 18) E hts hin8 hown hK hM.1 (hts _ (List.mem_of_getElem? (i := 1) rfl)) dX8_endGift_18 ?_
    refine z_if_le (pc := 21) (tgt := 26) E (by decide) dX8_endGift_21 (by decide) (fun h21 => ?_) (fun h21 => ?_)
    · exact absurd h21 (by decide)
    · refine z_iconst (pc := 24) E dX8_endGift_24 ?_
      exact z_retWi E hr (congrArg iI (by have e0 : (kxGi σ g) = 1 := (by unfold kxGi; (repeat' split) <;> first | rfl | omega | (exfalso; omega) | contradiction | grind); rw [e0]; exact (if_neg (by decide)).symm)) (by have e0 : (kxGi σ g) = 1 := (by unfold kxGi; (repeat' split) <;> first | rfl | omega | (exfalso; omega) | contradiction | grind); rw [e0]; rw [if_neg (by decide), if_neg (by decide), if_neg (by decide)]; exact W8.mu hM (by simp only [mV, zu, Int.reduceEq, reduceIte])) hS hlocks dX8_endGift_25
  · refine z_iconst (pc := 9) E dX8_endGift_9 ?_
    refine lv_goto (pc := 10) (tgt := 14) E.1 E.2 dX8_endGift_10 (by decide) ?_
    refine p8_4 (pc := 14) E hts hin8 hown hK hM.1 hS (Ax.at 0 (by decide)) (hts _ (List.mem_of_getElem? (i := 1) rfl)) dX8_endGift_14 (fun H locs hnew hoth hS => ?_)
    have hM := W8.p hM hnew (fun a _ h => hoth a h)
    refine lv_aload_n (pc := 17) E.1 E.2 dX8_endGift_17 rfl (lv_at hl 0 rfl) ?_
    refine g8_4 (pc := 18) E hts hin8 hown hK hM.1 (hts _ (List.mem_of_getElem? (i := 1) rfl)) dX8_endGift_18 ?_
    refine z_if_le (pc := 21) (tgt := 26) E (by decide) dX8_endGift_21 (by decide) (fun h21 => ?_) (fun h21 => ?_)
    · refine lv_aload_n (pc := 26) E.1 E.2 dX8_endGift_26 rfl (lv_at hl 0 rfl) ?_
      refine z_wVv (pc := 27) (As := []) (rest := []) E hml hown hts (mX8_keeps lL G o (zu μ 4 0) σ φ κ β ω  (by simpa only [zu, Int.reduceEq, reduceIte] using hk8)) (cwV 0 hts gX8_endGift_X8_keeps rfl rfl rfl vdX8_keeps ⟨Nat.le_of_ble_eq_true rfl, Nat.le_of_ble_eq_true rfl⟩) (oB.recv hK hM.1 rfl) (W8.mu hM (by simp only [mV, zu, Int.reduceEq, reduceIte])) hK hS (fun _ h => h) rfl hl.1 rfl dX8_endGift_27 hcs (Nat.le_of_ble_eq_true rfl) (fun H locs hnew hsz hoth hS => ?_)
      have hM : W8 G o [.ref (o 1), .ref (o 2), .ref (o 3), .int (iI (keM ((μ 3)))), .int (iI 0), .ref (o 4), .int (iI (μ 6)), .int (iI (μ 7)), .int (iI (μ 8)), .int (iI (μ 9)), .int (iI (μ 10)), .int (iI (μ 11)), .int (iI (μ 12)), .int (iI (μ 13)), .int (iI (μ 14)), .long (iL (μ 15)), .ref (o 5), .int (iI (μ 17))] σ φ (keK κ σ ((μ 3))) β ω H := W8.eq hnew (by simp only [mV, zu, Int.reduceEq, reduceIte])
      refine lv_aload_n (pc := 30) E.1 E.2 dX8_endGift_30 rfl (lv_at hl 0 rfl) ?_
      refine lv_iload_n (pc := 31) E.1 E.2 dX8_endGift_31 rfl (lv_at hl 1 rfl) ?_
      refine z_wVv (pc := 32) (As := [.int (iI g)]) (rest := []) E hml hown hts (mX8_dropsGift lL G o (zu (zu μ 4 0) 3 (keM ((μ 3)))) σ φ (keK κ σ ((μ 3))) β ω g hI (by omega)) (cwV 1 hts gX8_endGift_X8_dropsGift rfl rfl rfl vdX8_dropsGift ⟨Nat.le_of_ble_eq_true rfl, Nat.le_of_ble_eq_true rfl⟩) (oB.recv hK hM.1 rfl) (W8.mu hM (by simp only [mV, zu, Int.reduceEq, reduceIte])) hK hS (fun _ h => h) rfl hl.1 rfl dX8_endGift_32 hcs (Nat.le_of_ble_eq_true rfl) (fun H locs hnew hsz hoth hS => ?_)
      have hM : W8 G o [.ref (o 1), .ref (o 2), .ref (o 3), .int (iI (keM ((μ 3)))), .int (iI 0), .ref (o 4), .int (iI (μ 6)), .int (iI (μ 7)), .int (iI (μ 8)), .int (iI (μ 9)), .int (iI (μ 10)), .int (iI (μ 11)), .int (iI (μ 12)), .int (iI (μ 13)), .int (iI (μ 14)), .long (iL (μ 15)), .ref (o 5), .int (iI (μ 17))] (dgF σ g) φ (keK κ σ ((μ 3))) β ω H := W8.eq hnew (by simp only [mV, zu, Int.reduceEq, reduceIte])
      refine lv_aload_n (pc := 35) E.1 E.2 dX8_endGift_35 rfl (lv_at hl 0 rfl) ?_
      refine z_wVv (pc := 36) (As := []) (rest := []) E hml hown hts (mX8_setsClocks lL G o (zu (zu μ 4 0) 3 (keM ((μ 3)))) (dgF σ g) φ (keK κ σ ((μ 3))) β ω  (hI.dgFI (by omega))) (cwV 0 hts gX8_endGift_X8_setsClocks rfl rfl rfl vdX8_setsClocks ⟨Nat.le_of_ble_eq_true rfl, Nat.le_of_ble_eq_true rfl⟩) (oB.recv hK hM.1 rfl) (W8.mu hM (by simp only [mV, zu, Int.reduceEq, reduceIte])) hK hS (fun _ h => h) rfl hl.1 rfl dX8_endGift_36 hcs (Nat.le_of_ble_eq_true rfl) (fun H locs hnew hsz hoth hS => ?_)
      have hM : W8 G o [.ref (o 1), .ref (o 2), .ref (o 3), .int (iI (keM ((μ 3)))), .int (iI 0), .ref (o 4), .int (iI (μ 6)), .int (iI (μ 7)), .int (iI (μ 8)), .int (iI (μ 9)), .int (iI (μ 10)), .int (iI (μ 11)), .int (iI (μ 12)), .int (iI (μ 13)), .int (iI (μ 14)), .long (iL (μ 15)), .ref (o 5), .int (iI (μ 17))] (scA (dgF σ g) 16) φ (keK κ σ ((μ 3))) β ω H := W8.eq hnew (by simp only [mV, zu, Int.reduceEq, reduceIte])
      refine lv_aload_n (pc := 39) E.1 E.2 dX8_endGift_39 rfl (lv_at hl 0 rfl) ?_
      refine g8_0 (pc := 40) E hts hin8 hown hK hM.1 (hts _ (List.mem_of_getElem? (i := 2) rfl)) dX8_endGift_40 ?_
      refine z_iconst (pc := 43) E dX8_endGift_43 ?_
      refine z_laload (pc := 44) E hK hM.2.1 ⟨by omega, by omega⟩ (by decide) dX8_endGift_44 ?_
      rw [show ((scA (dgF σ g) 16) 4) = (σ 4 - 1) from (by rw [scA_n _ _ (by omega)]; exact dg_4 σ g)]
      refine z_l2i (pc := 45) E dX8_endGift_45 ?_
      exact z_retWi E hr (congrArg iI (by have e0 : (kxGi σ g) = 0 := (by unfold kxGi; (repeat' split) <;> first | rfl | omega | (exfalso; omega) | contradiction | grind); rw [e0]; refine Eq.trans ?_ (if_pos rfl).symm; rfl)) (by have e0 : (kxGi σ g) = 0 := (by unfold kxGi; (repeat' split) <;> first | rfl | omega | (exfalso; omega) | contradiction | grind); rw [e0]; rw [if_pos rfl, if_pos rfl, if_pos rfl]; exact W8.mu hM (by simp only [mV, zu, Int.reduceEq, reduceIte])) hS hlocks dX8_endGift_46
    · exact absurd h21 (by decide)
set_option maxHeartbeats 1000000 in
set_option maxRecDepth 100000 in
theorem mX8_adjust (lL : Launch) (G : GG) (o : Nat → Nat) (μ σ φ κ β ω : Int → Int) (p : Int) (k : Int) (b : Int) (hI : In σ) (hp : -2147483648 ≤ p ∧ p < 2147483648) (hk : -2147483648 ≤ k ∧ k < 2147483648) (hb : -2147483648 ≤ b ∧ b < 2147483648) (hk8 : 0 ≤ μ 3 ∧ μ 3 ≤ 8) : Met lL yX8_adjust wsX8_adjust ({ frames := 3, cells := 0, slots := 0, locals := 74 } : Room) (va_Pc [.ref (o 0), .int (iI p), .int (iI k), .int (iI b)] (fun U => W8 G o (mV o μ) σ φ κ β ω U.heap ∧ KK G U)) (va_Qi (fun r (_ : Unit) => r = (iI (if (kxAdj σ p k b) = 0 then σ (37 + (2 * p + k)) + b else 0))) (fun _ tZ => W8 G o (mV o (zu (zu μ 4 (kxAdj σ p k b)) 3 (if (kxAdj σ p k b) = 0 then keM (μ 3) else μ 3))) (if (kxAdj σ p k b) = 0 then nxAdj σ p k b else σ) φ (if (kxAdj σ p k b) = 0 then keK κ σ (μ 3) else κ) β ω tZ.heap) (Ax o 6)) 0 0 (Ax o 6) := by
  refine z_met (P := (fun H : Heap => W8 G o (mV o μ) σ φ κ β ω H)) (by decide) rfl (Nat.le_of_ble_eq_true rfl) (fun pp ee ss mm below meth cC E hr hml hown hts hlocks hM hK ls hl => ?_)
  have hl : lv_has ls 6 [(0, .ref (o 0)), (1, .int (iI p)), (2, .int (iI k)), (3, .int (iI b))] := hl
  have hcs : 0 ≤ (({ frames := 3, cells := 0, slots := 0, locals := 74 } : Room)).cells ∧ 0 ≤ (({ frames := 3, cells := 0, slots := 0, locals := 74 } : Room)).slots := ⟨Nat.zero_le _, Nat.zero_le _⟩
  have hS : va_S (Ax o 6) ss.heap ss.heap [] := va_S.rf
  have hin8 : ∀ w ∈ wsX80, w ∈ wsX8_adjust := fun w h => List.mem_cons_of_mem _ (List.mem_append_right _ (h))
  have hF := hI.F
  have hMm := hI.M
  have hGn := hI.Gn
  have hTi := hI.ti
  have hGr := hI.gr
  refine lv_aload_n (pc := 0) E.1 E.2 dX8_adjust_0 rfl (lv_at hl 0 rfl) ?_
  refine lv_iload_n (pc := 1) E.1 E.2 dX8_adjust_1 rfl (lv_at hl 1 rfl) ?_
  refine lv_iload_n (pc := 2) E.1 E.2 dX8_adjust_2 rfl (lv_at hl 2 rfl) ?_
  refine z_wVi (pc := 3) (As := [.int (iI p), .int (iI k)]) (rest := []) E hml hown hts (mX8_lacks lL G o μ σ φ κ β ω p k (by omega) (by omega)) (cwV 2 hts gX8_adjust_X8_lacks rfl rfl rfl vdX8_lacks ⟨Nat.le_of_ble_eq_true rfl, Nat.le_of_ble_eq_true rfl⟩) (oB.recv hK hM.1 rfl) hM hK hS (fun _ h => h) rfl hl.1 rfl dX8_adjust_3 hcs (Nat.le_of_ble_eq_true rfl) (fun H locs hnew hsz hoth hS => ?_)
  have hM : W8 G o [.ref (o 1), .ref (o 2), .ref (o 3), .int (iI (μ 3)), .int (iI (kxPK p k)), .ref (o 4), .int (iI (μ 6)), .int (iI (μ 7)), .int (iI (μ 8)), .int (iI (μ 9)), .int (iI (μ 10)), .int (iI (μ 11)), .int (iI (μ 12)), .int (iI (μ 13)), .int (iI (μ 14)), .long (iL (μ 15)), .ref (o 5), .int (iI (μ 17))] σ φ κ β ω H := W8.eq hnew (by simp only [mV, zu, Int.reduceEq, reduceIte])
  refine z_ifb_eq (pc := 6) (tgt := 11) E dX8_adjust_6 (by decide) (fun h6 => ?_) (fun h6 => ?_)
  · have hz := kxPK_0 h6
    rw [hz.1] at hM
    have hp7 := hz.2.1
    have hk1 := hz.2.2
    have hac := hI.acc (k := 2 * p + k) (by omega) (by omega)
    refine lv_aload_n (pc := 11) E.1 E.2 dX8_adjust_11 rfl (lv_at hl 0 rfl) ?_
    refine lv_iload_n (pc := 12) E.1 E.2 dX8_adjust_12 rfl (lv_at hl 1 rfl) ?_
    refine lv_iload_n (pc := 13) E.1 E.2 dX8_adjust_13 rfl (lv_at hl 2 rfl) ?_
    refine z_rVl (pc := 14) (As := [.int (iI p), .int (iI k)]) (rest := []) E hml hown hts (mX8_usedOf lL G o (zu μ 4 0) σ φ κ β ω p k (by omega) (by omega)) (cwV 2 hts gX8_adjust_X8_usedOf rfl rfl rfl vdX8_usedOf ⟨Nat.le_of_ble_eq_true rfl, Nat.le_of_ble_eq_true rfl⟩) (oB.recv hK hM.1 rfl) (W8.mu hM (by simp only [mV, zu, Int.reduceEq, reduceIte])) hK rfl hl.1 rfl dX8_adjust_14 hcs (Nat.le_of_ble_eq_true rfl) ?_
    refine lv_iload_n (pc := 17) E.1 E.2 dX8_adjust_17 rfl (lv_at hl 3 rfl) ?_
    refine z_i2l (pc := 18) E ⟨by omega, by omega⟩ dX8_adjust_18 ?_
    refine z_ladd (pc := 19) E dX8_adjust_19 ?_
    refine lv_lstore (pc := 20) (lv' := [(4, .long (iL ((σ (37 + (2 * p + k))) + b))), (0, .ref (o 0)), (1, .int (iI p)), (2, .int (iI k)), (3, .int (iI b))]) E.1 E.2 dX8_adjust_20 hl (by decide) rfl (fun ls hl => ?_)
    refine lv_aload_n (pc := 22) E.1 E.2 dX8_adjust_22 rfl (lv_at hl 1 rfl) ?_
    refine lv_iload_n (pc := 23) E.1 E.2 dX8_adjust_23 rfl (lv_at hl 4 rfl) ?_
    refine z_i2l (pc := 24) E ⟨by omega, by omega⟩ dX8_adjust_24 ?_
    refine lv_ldc2 (pc := 25) (v := iL (-9999)) E.1 E.2 hown (show (Jvm.Cond.constantLong RX8 362 (iL (-9999))).before _ ss = true from (hts _ (List.mem_of_getElem? (i := 1) rfl))) dX8_adjust_25 ?_
    refine lv_ldc2 (pc := 28) (v := iL (9999)) E.1 E.2 hown (show (Jvm.Cond.constantLong RX8 315 (iL (9999))).before _ ss = true from (hts _ (List.mem_of_getElem? (i := 2) rfl))) dX8_adjust_28 ?_
    refine z_rSi (pc := 31) (P := fun _ => True) (As := [.long (iL b), .long (iL (-9999)), .long (iL 9999)]) (rest := [.ref (o 0)]) E hml hown hts (mX8_isIn lL G b (-9999) 9999 ⟨by omega, by omega⟩ ⟨by omega, by omega⟩ ⟨by omega, by omega⟩) (va_cwS 3 hts gX8_adjust_X8_isIn rfl rfl rfl vdX8_isIn.2 ⟨Nat.le_of_ble_eq_true rfl, Nat.le_of_ble_eq_true rfl⟩) trivial hK rfl hl.1 rfl dX8_adjust_31 hcs (Nat.le_of_ble_eq_true rfl) ?_
    refine z_ifb_ne (pc := 34) (tgt := 41) E dX8_adjust_34 (by decide) (fun h34 => ?_) (fun h34 => ?_)
    · refine lv_lload (pc := 41) E.1 E.2 dX8_adjust_41 (lv_at hl 0 rfl) ?_
      refine z_lconst (pc := 43) (v := 0) E (by decide) dX8_adjust_43 ?_
      refine lv_ldc2 (pc := 44) (v := iL (999999)) E.1 E.2 hown (show (Jvm.Cond.constantLong RX8 364 (iL (999999))).before _ ss = true from (hts _ (List.mem_of_getElem? (i := 3) rfl))) dX8_adjust_44 ?_
      refine z_rSi (pc := 47) (P := fun _ => True) (As := [.long (iL ((σ (37 + (2 * p + k))) + b)), .long (iL 0), .long (iL 999999)]) (rest := [.ref (o 0)]) E hml hown hts (mX8_isIn lL G ((σ (37 + (2 * p + k))) + b) 0 999999 ⟨by omega, by omega⟩ ⟨by omega, by omega⟩ ⟨by omega, by omega⟩) (va_cwS 3 hts gX8_adjust_X8_isIn rfl rfl rfl vdX8_isIn.2 ⟨Nat.le_of_ble_eq_true rfl, Nat.le_of_ble_eq_true rfl⟩) trivial hK rfl hl.1 rfl dX8_adjust_47 hcs (Nat.le_of_ble_eq_true rfl) ?_
      refine z_ifb_eq (pc := 50) (tgt := 57) E dX8_adjust_50 (by decide) (fun h50 => ?_) (fun h50 => ?_)
      · refine z_iconst (pc := 57) E dX8_adjust_57 ?_
        refine p8_4 (pc := 58) E hts hin8 hown hK hM.1 hS (Ax.at 0 (by decide)) (hts _ (List.mem_of_getElem? (i := 4) rfl)) dX8_adjust_58 (fun H locs hnew hoth hS => ?_)
        have hM := W8.p hM hnew (fun a _ h => hoth a h)
        refine lv_aload_n (pc := 61) E.1 E.2 dX8_adjust_61 rfl (lv_at hl 1 rfl) ?_
        refine g8_4 (pc := 62) E hts hin8 hown hK hM.1 (hts _ (List.mem_of_getElem? (i := 4) rfl)) dX8_adjust_62 ?_
        refine z_if_le (pc := 65) (tgt := 70) E (by decide) dX8_adjust_65 (by decide) (fun h65 => ?_) (fun h65 => ?_)
        · exact absurd h65 (by decide)
        · refine z_iconst (pc := 68) E dX8_adjust_68 ?_
          exact z_retWi E hr (congrArg iI (by have e0 : (kxAdj σ p k b) = 2 := (by unfold kxAdj; (repeat' split) <;> first | rfl | omega | (exfalso; omega) | contradiction | grind); rw [e0]; exact (if_neg (by decide)).symm)) (by have e0 : (kxAdj σ p k b) = 2 := (by unfold kxAdj; (repeat' split) <;> first | rfl | omega | (exfalso; omega) | contradiction | grind); rw [e0]; rw [if_neg (by decide), if_neg (by decide), if_neg (by decide)]; exact W8.mu hM (by simp only [mV, zu, Int.reduceEq, reduceIte])) hS hlocks dX8_adjust_69
      · refine z_iconst (pc := 53) E dX8_adjust_53 ?_
        refine lv_goto (pc := 54) (tgt := 58) E.1 E.2 dX8_adjust_54 (by decide) ?_
        refine p8_4 (pc := 58) E hts hin8 hown hK hM.1 hS (Ax.at 0 (by decide)) (hts _ (List.mem_of_getElem? (i := 4) rfl)) dX8_adjust_58 (fun H locs hnew hoth hS => ?_)
        have hM := W8.p hM hnew (fun a _ h => hoth a h)
        refine lv_aload_n (pc := 61) E.1 E.2 dX8_adjust_61 rfl (lv_at hl 1 rfl) ?_
        refine g8_4 (pc := 62) E hts hin8 hown hK hM.1 (hts _ (List.mem_of_getElem? (i := 4) rfl)) dX8_adjust_62 ?_
        refine z_if_le (pc := 65) (tgt := 70) E (by decide) dX8_adjust_65 (by decide) (fun h65 => ?_) (fun h65 => ?_)
        · refine lv_aload_n (pc := 70) E.1 E.2 dX8_adjust_70 rfl (lv_at hl 1 rfl) ?_
          refine z_wVv (pc := 71) (As := []) (rest := []) E hml hown hts (mX8_keeps lL G o (zu (zu μ 4 0) 4 0) σ φ κ β ω  (by simpa only [zu, Int.reduceEq, reduceIte] using hk8)) (cwV 0 hts gX8_adjust_X8_keeps rfl rfl rfl vdX8_keeps ⟨Nat.le_of_ble_eq_true rfl, Nat.le_of_ble_eq_true rfl⟩) (oB.recv hK hM.1 rfl) (W8.mu hM (by simp only [mV, zu, Int.reduceEq, reduceIte])) hK hS (fun _ h => h) rfl hl.1 rfl dX8_adjust_71 hcs (Nat.le_of_ble_eq_true rfl) (fun H locs hnew hsz hoth hS => ?_)
          have hM : W8 G o [.ref (o 1), .ref (o 2), .ref (o 3), .int (iI (keM ((μ 3)))), .int (iI 0), .ref (o 4), .int (iI (μ 6)), .int (iI (μ 7)), .int (iI (μ 8)), .int (iI (μ 9)), .int (iI (μ 10)), .int (iI (μ 11)), .int (iI (μ 12)), .int (iI (μ 13)), .int (iI (μ 14)), .long (iL (μ 15)), .ref (o 5), .int (iI (μ 17))] σ φ (keK κ σ ((μ 3))) β ω H := W8.eq hnew (by simp only [mV, zu, Int.reduceEq, reduceIte])
          refine lv_aload_n (pc := 74) E.1 E.2 dX8_adjust_74 rfl (lv_at hl 1 rfl) ?_
          refine g8_0 (pc := 75) E hts hin8 hown hK hM.1 (hts _ (List.mem_of_getElem? (i := 5) rfl)) dX8_adjust_75 ?_
          refine z_bipush (pc := 78) E (by decide) dX8_adjust_78 ?_
          refine lv_iload_n (pc := 80) E.1 E.2 dX8_adjust_80 rfl (lv_at hl 2 rfl) ?_
          refine lv_iload_n (pc := 81) E.1 E.2 dX8_adjust_81 rfl (lv_at hl 3 rfl) ?_
          refine z_rSi (pc := 82) (P := fun _ => True) (As := [.int (iI p), .int (iI k)]) (rest := [.int (iI 37), .ref (o 1)]) E hml hown hts (mX8_place lL G p k) (va_cwS 2 hts gX8_adjust_X8_place rfl rfl rfl vdX8_place.2 ⟨Nat.le_of_ble_eq_true rfl, Nat.le_of_ble_eq_true rfl⟩) trivial hK rfl hl.1 rfl dX8_adjust_82 hcs (Nat.le_of_ble_eq_true rfl) ?_
          refine z_iadd (pc := 85) E dX8_adjust_85 ?_
          refine lv_lload (pc := 86) E.1 E.2 dX8_adjust_86 (lv_at hl 0 rfl) ?_
          refine z_lastore (pc := 88) E hK hM.2.1 hS (Ax.at 1 (by decide)) ⟨by omega, by omega⟩ (by decide) dX8_adjust_88 (fun H locs hnew hoth hS => ?_)
          have hM := W8.a1 hM hnew (fun a _ h => hoth a h)
          refine lv_aload_n (pc := 89) E.1 E.2 dX8_adjust_89 rfl (lv_at hl 1 rfl) ?_
          refine z_wVv (pc := 90) (As := []) (rest := []) E hml hown hts (mX8_setsClocks lL G o (zu (zu (zu μ 4 0) 4 0) 3 (keM ((μ 3)))) (zu σ (37 + (2 * p + k)) ((σ (37 + (2 * p + k))) + b)) φ (keK κ σ ((μ 3))) β ω  (hI.amt (by omega) (by omega))) (cwV 0 hts gX8_adjust_X8_setsClocks rfl rfl rfl vdX8_setsClocks ⟨Nat.le_of_ble_eq_true rfl, Nat.le_of_ble_eq_true rfl⟩) (oB.recv hK hM.1 rfl) (W8.mu hM (by simp only [mV, zu, Int.reduceEq, reduceIte])) hK hS (fun _ h => h) rfl hl.1 rfl dX8_adjust_90 hcs (Nat.le_of_ble_eq_true rfl) (fun H locs hnew hsz hoth hS => ?_)
          have hM : W8 G o [.ref (o 1), .ref (o 2), .ref (o 3), .int (iI (keM ((μ 3)))), .int (iI 0), .ref (o 4), .int (iI (μ 6)), .int (iI (μ 7)), .int (iI (μ 8)), .int (iI (μ 9)), .int (iI (μ 10)), .int (iI (μ 11)), .int (iI (μ 12)), .int (iI (μ 13)), .int (iI (μ 14)), .long (iL (μ 15)), .ref (o 5), .int (iI (μ 17))] (scA (zu σ (37 + (2 * p + k)) ((σ (37 + (2 * p + k))) + b)) 16) φ (keK κ σ ((μ 3))) β ω H := W8.eq hnew (by simp only [mV, zu, Int.reduceEq, reduceIte])
          refine lv_lload (pc := 93) E.1 E.2 dX8_adjust_93 (lv_at hl 0 rfl) ?_
          refine z_l2i (pc := 95) E dX8_adjust_95 ?_
          exact z_retWi E hr (congrArg iI (by have e0 : (kxAdj σ p k b) = 0 := (by unfold kxAdj; (repeat' split) <;> first | rfl | omega | (exfalso; omega) | contradiction | grind); rw [e0]; refine Eq.trans ?_ (if_pos rfl).symm; rfl)) (by have e0 : (kxAdj σ p k b) = 0 := (by unfold kxAdj; (repeat' split) <;> first | rfl | omega | (exfalso; omega) | contradiction | grind); rw [e0]; rw [if_pos rfl, if_pos rfl, if_pos rfl]; exact W8.mu hM (by simp only [mV, zu, Int.reduceEq, reduceIte])) hS hlocks dX8_adjust_96
        · exact absurd h65 (by decide)
    · refine z_iconst (pc := 37) E dX8_adjust_37 ?_
      refine lv_goto (pc := 38) (tgt := 58) E.1 E.2 dX8_adjust_38 (by decide) ?_
      refine p8_4 (pc := 58) E hts hin8 hown hK hM.1 hS (Ax.at 0 (by decide)) (hts _ (List.mem_of_getElem? (i := 4) rfl)) dX8_adjust_58 (fun H locs hnew hoth hS => ?_)
      have hM := W8.p hM hnew (fun a _ h => hoth a h)
      refine lv_aload_n (pc := 61) E.1 E.2 dX8_adjust_61 rfl (lv_at hl 1 rfl) ?_
      refine g8_4 (pc := 62) E hts hin8 hown hK hM.1 (hts _ (List.mem_of_getElem? (i := 4) rfl)) dX8_adjust_62 ?_
      refine z_if_le (pc := 65) (tgt := 70) E (by decide) dX8_adjust_65 (by decide) (fun h65 => ?_) (fun h65 => ?_)
      · exact absurd h65 (by decide)
      · refine z_iconst (pc := 68) E dX8_adjust_68 ?_
        exact z_retWi E hr (congrArg iI (by have e0 : (kxAdj σ p k b) = 1 := (by unfold kxAdj; (repeat' split) <;> first | rfl | omega | (exfalso; omega) | contradiction | grind); rw [e0]; exact (if_neg (by decide)).symm)) (by have e0 : (kxAdj σ p k b) = 1 := (by unfold kxAdj; (repeat' split) <;> first | rfl | omega | (exfalso; omega) | contradiction | grind); rw [e0]; rw [if_neg (by decide), if_neg (by decide), if_neg (by decide)]; exact W8.mu hM (by simp only [mV, zu, Int.reduceEq, reduceIte])) hS hlocks dX8_adjust_69
  · have hz := kxPK_1 h6
    rw [h6] at hM
    refine z_iconst (pc := 9) E dX8_adjust_9 ?_
    exact z_retWi E hr (congrArg iI (by have e0 : (kxAdj σ p k b) = 1 := (by unfold kxAdj; (repeat' split) <;> first | rfl | omega | (exfalso; omega) | contradiction | grind); rw [e0]; exact (if_neg (by decide)).symm)) (by have e0 : (kxAdj σ p k b) = 1 := (by unfold kxAdj; (repeat' split) <;> first | rfl | omega | (exfalso; omega) | contradiction | grind); rw [e0]; rw [if_neg (by decide), if_neg (by decide), if_neg (by decide)]; exact W8.mu hM (by simp only [mV, zu, Int.reduceEq, reduceIte])) hS hlocks dX8_adjust_10
set_option maxHeartbeats 1000000 in
set_option maxRecDepth 100000 in
theorem mX8_repair (lL : Launch) (G : GG) (o : Nat → Nat) (μ σ φ κ β ω : Int → Int) (hI : In σ) (hk8 : 0 ≤ μ 3 ∧ μ 3 ≤ 8) : Met lL yX8_repair wsX8_repair ({ frames := 3, cells := 0, slots := 0, locals := 74 } : Room) (va_Pc [.ref (o 0)] (fun U => W8 G o (mV o μ) σ φ κ β ω U.heap ∧ KK G U)) (va_Qi (fun r (_ : Unit) => r = (iI (wrS σ))) (fun _ tZ => W8 G o (mV o (zu (zu μ 4 (0)) 3 (if (0) = 0 then keM (μ 3) else μ 3))) (if (0) = 0 then nxRep σ else σ) φ (if (0) = 0 then keK κ σ (μ 3) else κ) β ω tZ.heap) (Ax o 6)) 0 0 (Ax o 6) := by
  refine z_met (P := (fun H : Heap => W8 G o (mV o μ) σ φ κ β ω H)) (by decide) rfl (Nat.le_of_ble_eq_true rfl) (fun pp ee ss mm below meth cC E hr hml hown hts hlocks hM hK ls hl => ?_)
  have hl : lv_has ls 5 [(0, .ref (o 0))] := hl
  have hcs : 0 ≤ (({ frames := 3, cells := 0, slots := 0, locals := 74 } : Room)).cells ∧ 0 ≤ (({ frames := 3, cells := 0, slots := 0, locals := 74 } : Room)).slots := ⟨Nat.zero_le _, Nat.zero_le _⟩
  have hS : va_S (Ax o 6) ss.heap ss.heap [] := va_S.rf
  have hin8 : ∀ w ∈ wsX80, w ∈ wsX8_repair := fun w h => List.mem_cons_of_mem _ (List.mem_append_right _ (h))
  have hF := hI.F
  have hMm := hI.M
  have hGn := hI.Gn
  have hTi := hI.ti
  have hGr := hI.gr
  refine lv_aload_n (pc := 0) E.1 E.2 dX8_repair_0 rfl (lv_at hl 0 rfl) ?_
  refine z_iconst (pc := 1) E dX8_repair_1 ?_
  refine p8_4 (pc := 2) E hts hin8 hown hK hM.1 hS (Ax.at 0 (by decide)) (hts _ (List.mem_of_getElem? (i := 1) rfl)) dX8_repair_2 (fun H locs hnew hoth hS => ?_)
  have hM := W8.p hM hnew (fun a _ h => hoth a h)
  refine lv_aload_n (pc := 5) E.1 E.2 dX8_repair_5 rfl (lv_at hl 0 rfl) ?_
  refine z_wVv (pc := 6) (As := []) (rest := []) E hml hown hts (mX8_keeps lL G o (zu μ 4 0) σ φ κ β ω  (by simpa only [zu, Int.reduceEq, reduceIte] using hk8)) (cwV 0 hts gX8_repair_X8_keeps rfl rfl rfl vdX8_keeps ⟨Nat.le_of_ble_eq_true rfl, Nat.le_of_ble_eq_true rfl⟩) (oB.recv hK hM.1 rfl) (W8.mu hM (by simp only [mV, zu, Int.reduceEq, reduceIte])) hK hS (fun _ h => h) rfl hl.1 rfl dX8_repair_6 hcs (Nat.le_of_ble_eq_true rfl) (fun H locs hnew hsz hoth hS => ?_)
  have hM : W8 G o [.ref (o 1), .ref (o 2), .ref (o 3), .int (iI (keM ((μ 3)))), .int (iI 0), .ref (o 4), .int (iI (μ 6)), .int (iI (μ 7)), .int (iI (μ 8)), .int (iI (μ 9)), .int (iI (μ 10)), .int (iI (μ 11)), .int (iI (μ 12)), .int (iI (μ 13)), .int (iI (μ 14)), .long (iL (μ 15)), .ref (o 5), .int (iI (μ 17))] σ φ (keK κ σ ((μ 3))) β ω H := W8.eq hnew (by simp only [mV, zu, Int.reduceEq, reduceIte])
  refine z_iconst (pc := 9) E dX8_repair_9 ?_
  refine lv_istore_n (pc := 10) (lv' := [(1, .int (iI 0)), (0, .ref (o 0))]) E.1 E.2 dX8_repair_10 rfl hl (by decide) rfl (fun ls hl => ?_)
  refine z_iconst (pc := 11) E dX8_repair_11 ?_
  refine lv_istore_n (pc := 12) (lv' := [(2, .int (iI 0)), (1, .int (iI 0)), (0, .ref (o 0))]) E.1 E.2 dX8_repair_12 rfl hl (by decide) rfl (fun ls hl => ?_)
  suffices L13 : ∀ (nf : Nat), ∀ (n k : Int), (0 ≤ k ∧ k ≤ 16) → (n = cn (wrP σ) k.toNat) → ((16 - k).toNat) < nf → ∀  (H : Heap) (locs : List Loc), W8 G o [.ref (o 1), .ref (o 2), .ref (o 3), .int (iI (keM ((μ 3)))), .int (iI 0), .ref (o 4), .int (iI (μ 6)), .int (iI (μ 7)), .int (iI (μ 8)), .int (iI (μ 9)), .int (iI (μ 10)), .int (iI (μ 11)), .int (iI (μ 12)), .int (iI (μ 13)), .int (iI (μ 14)), .long (iL (μ 15)), .ref (o 5), .int (iI (μ 17))] (reA σ k) φ (keK κ σ ((μ 3))) β ω H → va_S (Ax o 6) ss.heap H locs → ∀ ls : Array Slot, lv_has ls 5 [(2, .int (iI k)), (1, .int (iI n)), (0, .ref (o 0))] → W pp lL ee ({ frames := 3, cells := 0, slots := 0, locals := 74 } : Room) ss mm [.ref (o 0)].toArray below meth cC H locs 0 0 (MQ below (va_Qi (fun r (_ : Unit) => r = (iI (wrS σ))) (fun _ tZ => W8 G o (mV o (zu (zu μ 4 (0)) 3 (if (0) = 0 then keM (μ 3) else μ 3))) (if (0) = 0 then nxRep σ else σ) φ (if (0) = 0 then keK κ σ (μ 3) else κ) β ω tZ.heap) (Ax o 6)) [.ref (o 0)].toArray ss 0 0 (Ax o 6)) (F0 mm 13 ls []) from L13 _ 0 0 (by omega) rfl (Nat.lt_succ_self _)  _ _ (by rw [reA_0]; exact hM) hS ls (lv_sub hl [0, 1, 2] rfl)
  intro nfL13
  induction nfL13 with
  | zero => intro n k hk hn hmzL13; exact absurd hmzL13 (Nat.not_lt_zero _)
  | succ nfL13 ihL13 =>
    intro n k hk hn hmzL13  H locs hM hS ls hl
    refine lv_iload_n (pc := 13) E.1 E.2 dX8_repair_13 rfl (lv_at hl 0 rfl) ?_
    refine z_bipush (pc := 14) E (by decide) dX8_repair_14 ?_
    refine z_icmp_ge (pc := 16) (tgt := 68) E ⟨by omega, by omega⟩ (by decide) dX8_repair_16 (by decide) (fun h16 => ?_) (fun h16 => ?_)
    · have ek : k = 16 := by omega
      subst ek
      refine lv_aload_n (pc := 68) E.1 E.2 dX8_repair_68 rfl (lv_at hl 2 rfl) ?_
      refine z_wVv (pc := 69) (As := []) (rest := []) E hml hown hts (mX8_setsClocks lL G o (zu (zu μ 4 0) 3 (keM ((μ 3)))) (reA σ 16) φ (keK κ σ ((μ 3))) β ω  (hI.re (by omega))) (cwV 0 hts gX8_repair_X8_setsClocks rfl rfl rfl vdX8_setsClocks ⟨Nat.le_of_ble_eq_true rfl, Nat.le_of_ble_eq_true rfl⟩) (oB.recv hK hM.1 rfl) (W8.mu hM (by simp only [mV, zu, Int.reduceEq, reduceIte])) hK hS (fun _ h => h) rfl hl.1 rfl dX8_repair_69 hcs (Nat.le_of_ble_eq_true rfl) (fun H locs hnew hsz hoth hS => ?_)
      have hM : W8 G o [.ref (o 1), .ref (o 2), .ref (o 3), .int (iI (keM ((μ 3)))), .int (iI 0), .ref (o 4), .int (iI (μ 6)), .int (iI (μ 7)), .int (iI (μ 8)), .int (iI (μ 9)), .int (iI (μ 10)), .int (iI (μ 11)), .int (iI (μ 12)), .int (iI (μ 13)), .int (iI (μ 14)), .long (iL (μ 15)), .ref (o 5), .int (iI (μ 17))] (scA (reA σ 16) 16) φ (keK κ σ ((μ 3))) β ω H := W8.eq hnew (by simp only [mV, zu, Int.reduceEq, reduceIte])
      refine lv_iload_n (pc := 72) E.1 E.2 dX8_repair_72 rfl (lv_at hl 1 rfl) ?_
      exact z_retWi E hr (congrArg iI (by (rw [hn]; rfl))) (W8.mu hM (by simp only [mV, zu, Int.reduceEq, reduceIte])) hS hlocks dX8_repair_73
    · refine lv_aload_n (pc := 19) E.1 E.2 dX8_repair_19 rfl (lv_at hl 2 rfl) ?_
      refine lv_iload_n (pc := 20) E.1 E.2 dX8_repair_20 rfl (lv_at hl 0 rfl) ?_
      refine z_iconst (pc := 21) E dX8_repair_21 ?_
      refine z_idivN (pc := 22) E ⟨by omega, by omega⟩ ⟨by omega, by omega⟩ dX8_repair_22 ?_
      refine lv_iload_n (pc := 23) E.1 E.2 dX8_repair_23 rfl (lv_at hl 0 rfl) ?_
      refine z_iconst (pc := 24) E dX8_repair_24 ?_
      refine z_iremN (pc := 25) E ⟨by omega, by omega⟩ ⟨by omega, by omega⟩ dX8_repair_25 ?_
      refine z_rVl (pc := 26) (As := [.int (iI (k / 2)), .int (iI (k % 2))]) (rest := []) E hml hown hts (mX8_countedOf lL G o (zu (zu μ 4 0) 3 (keM ((μ 3)))) (reA σ k) φ (keK κ σ ((μ 3))) β ω (k / 2) (k % 2) (hI.re hk) (by omega) (by omega)) (cwV 2 hts gX8_repair_X8_countedOf rfl rfl rfl vdX8_countedOf ⟨Nat.le_of_ble_eq_true rfl, Nat.le_of_ble_eq_true rfl⟩) (oB.recv hK hM.1 rfl) (W8.mu hM (by simp only [mV, zu, Int.reduceEq, reduceIte])) hK rfl hl.1 rfl dX8_repair_26 hcs (Nat.le_of_ble_eq_true rfl) ?_
      have hcb := coS_b hI (k / 2) (k % 2)
      rw [show (coS (reA σ k) (k / 2) (k % 2)) = (coS σ (k / 2) (k % 2)) from (coS_re hI k (k / 2) (k % 2) hk.2)]
      refine lv_lstore_n (pc := 29) (lv' := [(3, .long (iL (coS σ (k / 2) (k % 2)))), (2, .int (iI k)), (1, .int (iI n)), (0, .ref (o 0))]) E.1 E.2 dX8_repair_29 rfl hl (by decide) rfl (fun ls hl => ?_)
      refine lv_iload_n (pc := 30) E.1 E.2 dX8_repair_30 rfl (lv_at hl 2 rfl) ?_
      refine lv_lload_n (pc := 31) E.1 E.2 dX8_repair_31 rfl (lv_at hl 0 rfl) ?_
      refine lv_aload_n (pc := 32) E.1 E.2 dX8_repair_32 rfl (lv_at hl 3 rfl) ?_
      refine g8_0 (pc := 33) E hts hin8 hown hK hM.1 (hts _ (List.mem_of_getElem? (i := 2) rfl)) dX8_repair_33 ?_
      refine z_bipush (pc := 36) E (by decide) dX8_repair_36 ?_
      refine lv_iload_n (pc := 38) E.1 E.2 dX8_repair_38 rfl (lv_at hl 1 rfl) ?_
      refine z_iadd (pc := 39) E dX8_repair_39 ?_
      refine z_laload (pc := 40) E hK hM.2.1 ⟨by omega, by omega⟩ (by decide) dX8_repair_40 ?_
      have hac := hI.acc hk.1 (by omega)
      have hwb := wr_b σ k.toNat
      rw [show ((reA σ k) (37 + k)) = (σ (37 + k)) from (reA_n σ k (Or.inr (Int.le_refl _)))]
      refine z_lcmp_ne (pc := 41) (tgt := 49) E ⟨by omega, by omega⟩ ⟨by omega, by omega⟩ dX8_repair_41 dX8_repair_42 (by decide) (fun h41 => ?_) (fun h41 => ?_)
      · refine z_iconst (pc := 49) E dX8_repair_49 ?_
        refine z_iadd (pc := 50) E dX8_repair_50 ?_
        refine lv_istore_n (pc := 51) (lv' := [(1, .int (iI (n + 1))), (3, .long (iL (coS σ (k / 2) (k % 2)))), (2, .int (iI k)), (0, .ref (o 0))]) E.1 E.2 dX8_repair_51 rfl hl (by decide) rfl (fun ls hl => ?_)
        refine lv_aload_n (pc := 52) E.1 E.2 dX8_repair_52 rfl (lv_at hl 3 rfl) ?_
        refine g8_0 (pc := 53) E hts hin8 hown hK hM.1 (hts _ (List.mem_of_getElem? (i := 2) rfl)) dX8_repair_53 ?_
        refine z_bipush (pc := 56) E (by decide) dX8_repair_56 ?_
        refine lv_iload_n (pc := 58) E.1 E.2 dX8_repair_58 rfl (lv_at hl 2 rfl) ?_
        refine z_iadd (pc := 59) E dX8_repair_59 ?_
        refine lv_lload_n (pc := 60) E.1 E.2 dX8_repair_60 rfl (lv_at hl 1 rfl) ?_
        refine z_lastore (pc := 61) E hK hM.2.1 hS (Ax.at 1 (by decide)) ⟨by omega, by omega⟩ (by decide) dX8_repair_61 (fun H locs hnew hoth hS => ?_)
        have hM := W8.a1 hM hnew (fun a _ h => hoth a h)
        refine lv_iinc (pc := 62) (v := iI (k + 1)) (lv' := [(2, .int (iI (k + 1))), (1, .int (iI (n + 1))), (3, .long (iL (coS σ (k / 2) (k % 2)))), (0, .ref (o 0))]) E.1 E.2 dX8_repair_62 hl (k := 2) rfl (iI_add _ _) (by decide) rfl (fun ls hl => ?_)
        refine lv_goto (pc := 65) (tgt := 13) E.1 E.2 dX8_repair_65 (by decide) ?_
        exact ihL13 (n + 1) (k + 1) (by omega) (by rw [cn_s _ hk.1, ← hn]; unfold wrP; split <;> first | rfl | omega | (exfalso; omega)) (by omega)  _ _ (by rw [← reA_s σ hk.1]; exact hM) hS ls (lv_sub hl [0, 1, 3] rfl)
      · refine z_iconst (pc := 45) E dX8_repair_45 ?_
        refine lv_goto (pc := 46) (tgt := 50) E.1 E.2 dX8_repair_46 (by decide) ?_
        refine z_iadd (pc := 50) E dX8_repair_50 ?_
        refine lv_istore_n (pc := 51) (lv' := [(1, .int (iI (n + 0))), (3, .long (iL (coS σ (k / 2) (k % 2)))), (2, .int (iI k)), (0, .ref (o 0))]) E.1 E.2 dX8_repair_51 rfl hl (by decide) rfl (fun ls hl => ?_)
        refine lv_aload_n (pc := 52) E.1 E.2 dX8_repair_52 rfl (lv_at hl 3 rfl) ?_
        refine g8_0 (pc := 53) E hts hin8 hown hK hM.1 (hts _ (List.mem_of_getElem? (i := 2) rfl)) dX8_repair_53 ?_
        refine z_bipush (pc := 56) E (by decide) dX8_repair_56 ?_
        refine lv_iload_n (pc := 58) E.1 E.2 dX8_repair_58 rfl (lv_at hl 2 rfl) ?_
        refine z_iadd (pc := 59) E dX8_repair_59 ?_
        refine lv_lload_n (pc := 60) E.1 E.2 dX8_repair_60 rfl (lv_at hl 1 rfl) ?_
        refine z_lastore (pc := 61) E hK hM.2.1 hS (Ax.at 1 (by decide)) ⟨by omega, by omega⟩ (by decide) dX8_repair_61 (fun H locs hnew hoth hS => ?_)
        have hM := W8.a1 hM hnew (fun a _ h => hoth a h)
        refine lv_iinc (pc := 62) (v := iI (k + 1)) (lv' := [(2, .int (iI (k + 1))), (1, .int (iI (n + 0))), (3, .long (iL (coS σ (k / 2) (k % 2)))), (0, .ref (o 0))]) E.1 E.2 dX8_repair_62 hl (k := 2) rfl (iI_add _ _) (by decide) rfl (fun ls hl => ?_)
        refine lv_goto (pc := 65) (tgt := 13) E.1 E.2 dX8_repair_65 (by decide) ?_
        exact ihL13 (n + 0) (k + 1) (by omega) (by rw [cn_s _ hk.1, ← hn]; unfold wrP; split <;> first | rfl | omega | (exfalso; omega)) (by omega)  _ _ (by rw [← reA_s σ hk.1]; exact hM) hS ls (lv_sub hl [0, 1, 3] rfl)
set_option maxHeartbeats 1000000 in
set_option maxRecDepth 100000 in
theorem mX8_undo (lL : Launch) (G : GG) (o : Nat → Nat) (μ σ φ κ β ω : Int → Int) (hI : In σ) (hk8 : 0 ≤ μ 3 ∧ μ 3 ≤ 8) : Met lL yX8_undo wsX8_undo ({ frames := 1, cells := 0, slots := 0, locals := 23 } : Room) (va_Pc [.ref (o 0)] (fun U => W8 G o (mV o μ) σ φ κ β ω U.heap ∧ KK G U)) (va_Qi (fun r (_ : Unit) => r = (iI (if (kxUndo (μ 3)) = 0 then μ 3 - 1 else 0))) (fun _ tZ => W8 G o (mV o (zu (zu μ 4 (kxUndo (μ 3))) 3 (if (kxUndo (μ 3)) = 0 then μ 3 - 1 else μ 3))) (if (kxUndo (μ 3)) = 0 then beA σ κ (357 * (μ 3 - 1)) 357 else σ) φ (if (kxUndo (μ 3)) = 0 then κ else κ) β ω tZ.heap) (Ax o 6)) 0 0 (Ax o 6) := by
  refine z_met (P := (fun H : Heap => W8 G o (mV o μ) σ φ κ β ω H)) (by decide) rfl (Nat.le_of_ble_eq_true rfl) (fun pp ee ss mm below meth cC E hr hml hown hts hlocks hM hK ls hl => ?_)
  have hl : lv_has ls 1 [(0, .ref (o 0))] := hl
  have hcs : 0 ≤ (({ frames := 1, cells := 0, slots := 0, locals := 23 } : Room)).cells ∧ 0 ≤ (({ frames := 1, cells := 0, slots := 0, locals := 23 } : Room)).slots := ⟨Nat.zero_le _, Nat.zero_le _⟩
  have hS : va_S (Ax o 6) ss.heap ss.heap [] := va_S.rf
  have hin8 : ∀ w ∈ wsX80, w ∈ wsX8_undo := fun w h => List.mem_cons_of_mem _ (List.mem_append_right _ (h))
  have hF := hI.F
  have hMm := hI.M
  have hGn := hI.Gn
  have hTi := hI.ti
  have hGr := hI.gr
  refine lv_aload_n (pc := 0) E.1 E.2 dX8_undo_0 rfl (lv_at hl 0 rfl) ?_
  refine lv_aload_n (pc := 1) E.1 E.2 dX8_undo_1 rfl (lv_at hl 0 rfl) ?_
  refine g8_3 (pc := 2) E hts hin8 hown hK hM.1 (hts _ (List.mem_of_getElem? (i := 1) rfl)) dX8_undo_2 ?_
  refine z_if_ne (pc := 5) (tgt := 12) E ⟨by omega, by omega⟩ dX8_undo_5 (by decide) (fun h5 => ?_) (fun h5 => ?_)
  · refine z_iconst (pc := 12) E dX8_undo_12 ?_
    refine p8_4 (pc := 13) E hts hin8 hown hK hM.1 hS (Ax.at 0 (by decide)) (hts _ (List.mem_of_getElem? (i := 2) rfl)) dX8_undo_13 (fun H locs hnew hoth hS => ?_)
    have hM := W8.p hM hnew (fun a _ h => hoth a h)
    refine lv_aload_n (pc := 16) E.1 E.2 dX8_undo_16 rfl (lv_at hl 0 rfl) ?_
    refine g8_4 (pc := 17) E hts hin8 hown hK hM.1 (hts _ (List.mem_of_getElem? (i := 2) rfl)) dX8_undo_17 ?_
    refine z_if_le (pc := 20) (tgt := 25) E (by decide) dX8_undo_20 (by decide) (fun h20 => ?_) (fun h20 => ?_)
    · refine lv_aload_n (pc := 25) E.1 E.2 dX8_undo_25 rfl (lv_at hl 0 rfl) ?_
      refine lv_dup (pc := 26) E.1 E.2 dX8_undo_26 rfl ?_
      refine g8_3 (pc := 27) E hts hin8 hown hK hM.1 (hts _ (List.mem_of_getElem? (i := 1) rfl)) dX8_undo_27 ?_
      refine z_iconst (pc := 30) E dX8_undo_30 ?_
      refine z_isub (pc := 31) E dX8_undo_31 ?_
      refine p8_3 (pc := 32) E hts hin8 hown hK hM.1 hS (Ax.at 0 (by decide)) (hts _ (List.mem_of_getElem? (i := 1) rfl)) dX8_undo_32 (fun H locs hnew hoth hS => ?_)
      have hM := W8.p hM hnew (fun a _ h => hoth a h)
      refine lv_aload_n (pc := 35) E.1 E.2 dX8_undo_35 rfl (lv_at hl 0 rfl) ?_
      refine lv_aload_n (pc := 36) E.1 E.2 dX8_undo_36 rfl (lv_at hl 0 rfl) ?_
      refine g8_2 (pc := 37) E hts hin8 hown hK hM.1 (hts _ (List.mem_of_getElem? (i := 3) rfl)) dX8_undo_37 ?_
      refine z_sipush (pc := 40) E (by decide) dX8_undo_40 ?_
      refine lv_aload_n (pc := 43) E.1 E.2 dX8_undo_43 rfl (lv_at hl 0 rfl) ?_
      refine g8_3 (pc := 44) E hts hin8 hown hK hM.1 (hts _ (List.mem_of_getElem? (i := 1) rfl)) dX8_undo_44 ?_
      refine z_imul (pc := 47) E dX8_undo_47 ?_
      refine z_wVv (pc := 48) (As := [.ref (o 3), .int (iI (357 * ((μ 3) - 1)))]) (rest := []) E hml hown hts (mX8_becomesK lL G o (zu (zu μ 4 0) 3 ((μ 3) - 1)) σ φ κ β ω (357 * ((μ 3) - 1)) (by omega)) (cwV 2 hts gX8_undo_X8_becomes rfl rfl rfl vdX8_becomes ⟨Nat.le_of_ble_eq_true rfl, Nat.le_of_ble_eq_true rfl⟩) (oB.recv hK hM.1 rfl) (W8.mu hM (by simp only [mV, zu, Int.reduceEq, reduceIte])) hK hS (fun _ h => h) rfl hl.1 rfl dX8_undo_48 hcs (Nat.le_of_ble_eq_true rfl) (fun H locs hnew hsz hoth hS => ?_)
      have hM : W8 G o [.ref (o 1), .ref (o 2), .ref (o 3), .int (iI ((μ 3) - 1)), .int (iI 0), .ref (o 4), .int (iI (μ 6)), .int (iI (μ 7)), .int (iI (μ 8)), .int (iI (μ 9)), .int (iI (μ 10)), .int (iI (μ 11)), .int (iI (μ 12)), .int (iI (μ 13)), .int (iI (μ 14)), .long (iL (μ 15)), .ref (o 5), .int (iI (μ 17))] (beA σ κ (357 * ((μ 3) - 1)) 357) φ κ β ω H := W8.eq hnew (by simp only [mV, zu, Int.reduceEq, reduceIte])
      refine lv_aload_n (pc := 51) E.1 E.2 dX8_undo_51 rfl (lv_at hl 0 rfl) ?_
      refine g8_3 (pc := 52) E hts hin8 hown hK hM.1 (hts _ (List.mem_of_getElem? (i := 1) rfl)) dX8_undo_52 ?_
      exact z_retWi E hr (congrArg iI (by have e0 : (kxUndo (μ 3)) = 0 := (by unfold kxUndo; (repeat' split) <;> first | rfl | omega | (exfalso; omega) | contradiction | grind); rw [e0]; refine Eq.trans ?_ (if_pos rfl).symm; rfl)) (by have e0 : (kxUndo (μ 3)) = 0 := (by unfold kxUndo; (repeat' split) <;> first | rfl | omega | (exfalso; omega) | contradiction | grind); rw [e0]; rw [if_pos rfl, if_pos rfl, if_pos rfl]; exact W8.mu hM (by simp only [mV, zu, Int.reduceEq, reduceIte])) hS hlocks dX8_undo_55
    · exact absurd h20 (by decide)
  · refine z_iconst (pc := 8) E dX8_undo_8 ?_
    refine lv_goto (pc := 9) (tgt := 13) E.1 E.2 dX8_undo_9 (by decide) ?_
    refine p8_4 (pc := 13) E hts hin8 hown hK hM.1 hS (Ax.at 0 (by decide)) (hts _ (List.mem_of_getElem? (i := 2) rfl)) dX8_undo_13 (fun H locs hnew hoth hS => ?_)
    have hM := W8.p hM hnew (fun a _ h => hoth a h)
    refine lv_aload_n (pc := 16) E.1 E.2 dX8_undo_16 rfl (lv_at hl 0 rfl) ?_
    refine g8_4 (pc := 17) E hts hin8 hown hK hM.1 (hts _ (List.mem_of_getElem? (i := 2) rfl)) dX8_undo_17 ?_
    refine z_if_le (pc := 20) (tgt := 25) E (by decide) dX8_undo_20 (by decide) (fun h20 => ?_) (fun h20 => ?_)
    · exact absurd h20 (by decide)
    · refine z_iconst (pc := 23) E dX8_undo_23 ?_
      exact z_retWi E hr (congrArg iI (by have e0 : (kxUndo (μ 3)) = 1 := (by unfold kxUndo; (repeat' split) <;> first | rfl | omega | (exfalso; omega) | contradiction | grind); rw [e0]; exact (if_neg (by decide)).symm)) (by have e0 : (kxUndo (μ 3)) = 1 := (by unfold kxUndo; (repeat' split) <;> first | rfl | omega | (exfalso; omega) | contradiction | grind); rw [e0]; rw [if_neg (by decide), if_neg (by decide), if_neg (by decide)]; exact W8.mu hM (by simp only [mV, zu, Int.reduceEq, reduceIte])) hS hlocks dX8_undo_24
set_option maxHeartbeats 1000000 in
set_option maxRecDepth 100000 in
theorem mX8_tick (lL : Launch) (G : GG) (o : Nat → Nat) (μ σ φ κ β ω : Int → Int) (t : Int) (hI : In σ) (ht : -2147483648 ≤ t ∧ t < 2147483648) (hk8 : 0 ≤ μ 3 ∧ μ 3 ≤ 8) : Met lL yX8_tick wsX8_tick ({ frames := 3, cells := 0, slots := 0, locals := 74 } : Room) (va_Pc [.ref (o 0), .int (iI t)] (fun U => W8 G o (mV o μ) σ φ κ β ω U.heap ∧ KK G U)) (va_Qi (fun r (_ : Unit) => r = (iI (if (kxTick σ t) = 0 then σ 4 - tkA σ t 4 else 0))) (fun _ tZ => W8 G o (mV o (zu (zu μ 4 (kxTick σ t)) 3 (if (kxTick σ t) = 0 then keM (μ 3) else μ 3))) (if (kxTick σ t) = 0 then nxTick σ t else σ) φ (if (kxTick σ t) = 0 then keK κ σ (μ 3) else κ) β ω tZ.heap) (Ax o 6)) 0 0 (Ax o 6) := by
  refine z_met (P := (fun H : Heap => W8 G o (mV o μ) σ φ κ β ω H)) (by decide) rfl (Nat.le_of_ble_eq_true rfl) (fun pp ee ss mm below meth cC E hr hml hown hts hlocks hM hK ls hl => ?_)
  have hl : lv_has ls 4 [(0, .ref (o 0)), (1, .int (iI t))] := hl
  have hcs : 0 ≤ (({ frames := 3, cells := 0, slots := 0, locals := 74 } : Room)).cells ∧ 0 ≤ (({ frames := 3, cells := 0, slots := 0, locals := 74 } : Room)).slots := ⟨Nat.zero_le _, Nat.zero_le _⟩
  have hS : va_S (Ax o 6) ss.heap ss.heap [] := va_S.rf
  have hin8 : ∀ w ∈ wsX80, w ∈ wsX8_tick := fun w h => List.mem_cons_of_mem _ (List.mem_append_right _ (h))
  have hF := hI.F
  have hMm := hI.M
  have hGn := hI.Gn
  have hTi := hI.ti
  have hGr := hI.gr
  refine lv_aload_n (pc := 0) E.1 E.2 dX8_tick_0 rfl (lv_at hl 0 rfl) ?_
  refine lv_iload_n (pc := 1) E.1 E.2 dX8_tick_1 rfl (lv_at hl 1 rfl) ?_
  refine z_i2l (pc := 2) E ⟨by omega, by omega⟩ dX8_tick_2 ?_
  refine z_lconst (pc := 3) (v := 1) E (by decide) dX8_tick_3 ?_
  refine lv_ldc2 (pc := 4) (v := iL (999)) E.1 E.2 hown (show (Jvm.Cond.constantLong RX8 343 (iL (999))).before _ ss = true from (hts _ (List.mem_of_getElem? (i := 1) rfl))) dX8_tick_4 ?_
  refine z_rSi (pc := 7) (P := fun _ => True) (As := [.long (iL t), .long (iL 1), .long (iL 999)]) (rest := [.ref (o 0)]) E hml hown hts (mX8_isIn lL G t 1 999 ⟨by omega, by omega⟩ ⟨by omega, by omega⟩ ⟨by omega, by omega⟩) (va_cwS 3 hts gX8_tick_X8_isIn rfl rfl rfl vdX8_isIn.2 ⟨Nat.le_of_ble_eq_true rfl, Nat.le_of_ble_eq_true rfl⟩) trivial hK rfl hl.1 rfl dX8_tick_7 hcs (Nat.le_of_ble_eq_true rfl) ?_
  refine z_ifb_ne (pc := 10) (tgt := 17) E dX8_tick_10 (by decide) (fun h10 => ?_) (fun h10 => ?_)
  · refine lv_aload_n (pc := 17) E.1 E.2 dX8_tick_17 rfl (lv_at hl 0 rfl) ?_
    refine g8_0 (pc := 18) E hts hin8 hown hK hM.1 (hts _ (List.mem_of_getElem? (i := 2) rfl)) dX8_tick_18 ?_
    refine z_iconst (pc := 21) E dX8_tick_21 ?_
    refine z_laload (pc := 22) E hK hM.2.1 ⟨by omega, by omega⟩ (by decide) dX8_tick_22 ?_
    have hb22 := hI.bd 0
    refine lv_iload_n (pc := 23) E.1 E.2 dX8_tick_23 rfl (lv_at hl 1 rfl) ?_
    refine z_i2l (pc := 24) E ⟨by omega, by omega⟩ dX8_tick_24 ?_
    refine z_ladd (pc := 25) E dX8_tick_25 ?_
    refine lv_ldc2 (pc := 26) (v := iL (9999)) E.1 E.2 hown (show (Jvm.Cond.constantLong RX8 315 (iL (9999))).before _ ss = true from (hts _ (List.mem_of_getElem? (i := 3) rfl))) dX8_tick_26 ?_
    refine z_lcmp_le (pc := 29) (tgt := 37) E ⟨by omega, by omega⟩ (by decide) dX8_tick_29 dX8_tick_30 (by decide) (fun h29 => ?_) (fun h29 => ?_)
    · refine z_iconst (pc := 37) E dX8_tick_37 ?_
      refine p8_4 (pc := 38) E hts hin8 hown hK hM.1 hS (Ax.at 0 (by decide)) (hts _ (List.mem_of_getElem? (i := 4) rfl)) dX8_tick_38 (fun H locs hnew hoth hS => ?_)
      have hM := W8.p hM hnew (fun a _ h => hoth a h)
      refine lv_aload_n (pc := 41) E.1 E.2 dX8_tick_41 rfl (lv_at hl 0 rfl) ?_
      refine g8_4 (pc := 42) E hts hin8 hown hK hM.1 (hts _ (List.mem_of_getElem? (i := 4) rfl)) dX8_tick_42 ?_
      refine z_if_le (pc := 45) (tgt := 50) E (by decide) dX8_tick_45 (by decide) (fun h45 => ?_) (fun h45 => ?_)
      · have ht1 : 0 ≤ σ 0 + t ∧ σ 0 + t ≤ 9999 := by omega
        have hI1 := hI.time ht1
        refine lv_aload_n (pc := 50) E.1 E.2 dX8_tick_50 rfl (lv_at hl 0 rfl) ?_
        refine z_wVv (pc := 51) (As := []) (rest := []) E hml hown hts (mX8_keeps lL G o (zu μ 4 0) σ φ κ β ω  (by simpa only [zu, Int.reduceEq, reduceIte] using hk8)) (cwV 0 hts gX8_tick_X8_keeps rfl rfl rfl vdX8_keeps ⟨Nat.le_of_ble_eq_true rfl, Nat.le_of_ble_eq_true rfl⟩) (oB.recv hK hM.1 rfl) (W8.mu hM (by simp only [mV, zu, Int.reduceEq, reduceIte])) hK hS (fun _ h => h) rfl hl.1 rfl dX8_tick_51 hcs (Nat.le_of_ble_eq_true rfl) (fun H locs hnew hsz hoth hS => ?_)
        have hM : W8 G o [.ref (o 1), .ref (o 2), .ref (o 3), .int (iI (keM ((μ 3)))), .int (iI 0), .ref (o 4), .int (iI (μ 6)), .int (iI (μ 7)), .int (iI (μ 8)), .int (iI (μ 9)), .int (iI (μ 10)), .int (iI (μ 11)), .int (iI (μ 12)), .int (iI (μ 13)), .int (iI (μ 14)), .long (iL (μ 15)), .ref (o 5), .int (iI (μ 17))] σ φ (keK κ σ ((μ 3))) β ω H := W8.eq hnew (by simp only [mV, zu, Int.reduceEq, reduceIte])
        refine lv_aload_n (pc := 54) E.1 E.2 dX8_tick_54 rfl (lv_at hl 0 rfl) ?_
        refine g8_0 (pc := 55) E hts hin8 hown hK hM.1 (hts _ (List.mem_of_getElem? (i := 2) rfl)) dX8_tick_55 ?_
        refine z_iconst (pc := 58) E dX8_tick_58 ?_
        refine lv_dup2_11 (pc := 59) E.1 E.2 dX8_tick_59 rfl rfl ?_
        refine z_laload (pc := 60) E hK hM.2.1 ⟨by omega, by omega⟩ (by decide) dX8_tick_60 ?_
        have hb60 := hI.bd 0
        refine lv_iload_n (pc := 61) E.1 E.2 dX8_tick_61 rfl (lv_at hl 1 rfl) ?_
        refine z_i2l (pc := 62) E ⟨by omega, by omega⟩ dX8_tick_62 ?_
        refine z_ladd (pc := 63) E dX8_tick_63 ?_
        refine z_lastore (pc := 64) E hK hM.2.1 hS (Ax.at 1 (by decide)) ⟨by omega, by omega⟩ (by decide) dX8_tick_64 (fun H locs hnew hoth hS => ?_)
        have hM := W8.a1 hM hnew (fun a _ h => hoth a h)
        refine z_iconst (pc := 65) E dX8_tick_65 ?_
        refine lv_istore_n (pc := 66) (lv' := [(2, .int (iI 0)), (0, .ref (o 0)), (1, .int (iI t))]) E.1 E.2 dX8_tick_66 rfl hl (by decide) rfl (fun ls hl => ?_)
        refine lv_aload_n (pc := 67) E.1 E.2 dX8_tick_67 rfl (lv_at hl 1 rfl) ?_
        refine g8_0 (pc := 68) E hts hin8 hown hK hM.1 (hts _ (List.mem_of_getElem? (i := 2) rfl)) dX8_tick_68 ?_
        refine z_iconst (pc := 71) E dX8_tick_71 ?_
        refine z_laload (pc := 72) E hK hM.2.1 ⟨by omega, by omega⟩ (by decide) dX8_tick_72 ?_
        rw [show ((zu σ 0 ((σ 0) + t)) 4) = (σ 4) from (zu_n _ _ (by omega))]
        refine z_l2i (pc := 73) E dX8_tick_73 ?_
        refine z_iconst (pc := 74) E dX8_tick_74 ?_
        refine z_isub (pc := 75) E dX8_tick_75 ?_
        refine lv_istore_n (pc := 76) (lv' := [(3, .int (iI ((σ 4) - 1))), (2, .int (iI 0)), (0, .ref (o 0)), (1, .int (iI t))]) E.1 E.2 dX8_tick_76 rfl hl (by decide) rfl (fun ls hl => ?_)
        suffices L77 : ∀ (nf : Nat), ∀ (n g : Int) (ρ : Int → Int), (In ρ) → (-1 ≤ g ∧ g + 1 ≤ ρ 4) → (ρ 0 = σ 0 + t) → (n = σ 4 - ρ 4) → (reG ρ (σ 0 + t) (g + 1).toNat = reG (zu σ 0 (σ 0 + t)) (σ 0 + t) (σ 4).toNat) → ((g + 1).toNat) < nf → ∀  (H : Heap) (locs : List Loc), W8 G o [.ref (o 1), .ref (o 2), .ref (o 3), .int (iI (keM ((μ 3)))), .int (iI 0), .ref (o 4), .int (iI (μ 6)), .int (iI (μ 7)), .int (iI (μ 8)), .int (iI (μ 9)), .int (iI (μ 10)), .int (iI (μ 11)), .int (iI (μ 12)), .int (iI (μ 13)), .int (iI (μ 14)), .long (iL (μ 15)), .ref (o 5), .int (iI (μ 17))] ρ φ (keK κ σ ((μ 3))) β ω H → va_S (Ax o 6) ss.heap H locs → ∀ ls : Array Slot, lv_has ls 4 [(3, .int (iI g)), (2, .int (iI n)), (0, .ref (o 0)), (1, .int (iI t))] → W pp lL ee ({ frames := 3, cells := 0, slots := 0, locals := 74 } : Room) ss mm [.ref (o 0), .int (iI t)].toArray below meth cC H locs 0 0 (MQ below (va_Qi (fun r (_ : Unit) => r = (iI (if (kxTick σ t) = 0 then σ 4 - tkA σ t 4 else 0))) (fun _ tZ => W8 G o (mV o (zu (zu μ 4 (kxTick σ t)) 3 (if (kxTick σ t) = 0 then keM (μ 3) else μ 3))) (if (kxTick σ t) = 0 then nxTick σ t else σ) φ (if (kxTick σ t) = 0 then keK κ σ (μ 3) else κ) β ω tZ.heap) (Ax o 6)) [.ref (o 0), .int (iI t)].toArray ss 0 0 (Ax o 6)) (F0 mm 77 ls []) from L77 _ 0 ((σ 4) - 1) (zu σ 0 (σ 0 + t)) hI1 (by rw [zu_n _ _ (by omega)]; omega) (zu_s _ _ _) (by rw [zu_n _ _ (by omega)]; omega) (by congr 1; omega) (Nat.lt_succ_self _)  _ _ hM hS ls (lv_sub hl [0, 1, 2, 3] rfl)
        intro nfL77
        induction nfL77 with
        | zero => intro n g ρ hR hg ht0 hn he hmzL77; exact absurd hmzL77 (Nat.not_lt_zero _)
        | succ nfL77 ihL77 =>
          intro n g ρ hR hg ht0 hn he hmzL77  H locs hM hS ls hl
          have hRG := hR.Gn
          refine lv_iload_n (pc := 77) E.1 E.2 dX8_tick_77 rfl (lv_at hl 0 rfl) ?_
          refine z_if_lt (pc := 78) (tgt := 122) E ⟨by omega, by omega⟩ dX8_tick_78 (by decide) (fun h78 => ?_) (fun h78 => ?_)
          · have eR : reG (zu σ 0 (σ 0 + t)) (σ 0 + t) (σ 4).toNat = ρ := by rw [← he, show (g + 1).toNat = 0 by omega]; rfl
            subst eR
            refine lv_aload_n (pc := 122) E.1 E.2 dX8_tick_122 rfl (lv_at hl 2 rfl) ?_
            refine z_wVv (pc := 123) (As := []) (rest := []) E hml hown hts (mX8_setsClocks lL G o (zu (zu μ 4 0) 3 (keM ((μ 3)))) (reG (zu σ 0 (σ 0 + t)) (σ 0 + t) (σ 4).toNat) φ (keK κ σ ((μ 3))) β ω  hR) (cwV 0 hts gX8_tick_X8_setsClocks rfl rfl rfl vdX8_setsClocks ⟨Nat.le_of_ble_eq_true rfl, Nat.le_of_ble_eq_true rfl⟩) (oB.recv hK hM.1 rfl) (W8.mu hM (by simp only [mV, zu, Int.reduceEq, reduceIte])) hK hS (fun _ h => h) rfl hl.1 rfl dX8_tick_123 hcs (Nat.le_of_ble_eq_true rfl) (fun H locs hnew hsz hoth hS => ?_)
            have hM : W8 G o [.ref (o 1), .ref (o 2), .ref (o 3), .int (iI (keM ((μ 3)))), .int (iI 0), .ref (o 4), .int (iI (μ 6)), .int (iI (μ 7)), .int (iI (μ 8)), .int (iI (μ 9)), .int (iI (μ 10)), .int (iI (μ 11)), .int (iI (μ 12)), .int (iI (μ 13)), .int (iI (μ 14)), .long (iL (μ 15)), .ref (o 5), .int (iI (μ 17))] (scA (reG (zu σ 0 (σ 0 + t)) (σ 0 + t) (σ 4).toNat) 16) φ (keK κ σ ((μ 3))) β ω H := W8.eq hnew (by simp only [mV, zu, Int.reduceEq, reduceIte])
            refine lv_iload_n (pc := 126) E.1 E.2 dX8_tick_126 rfl (lv_at hl 1 rfl) ?_
            exact z_retWi E hr (congrArg iI (by have e0 : (kxTick σ t) = 0 := (by unfold kxTick; (repeat' split) <;> first | rfl | omega | (exfalso; omega) | contradiction | grind); rw [e0]; refine Eq.trans ?_ (if_pos rfl).symm; exact hn)) (by have e0 : (kxTick σ t) = 0 := (by unfold kxTick; (repeat' split) <;> first | rfl | omega | (exfalso; omega) | contradiction | grind); rw [e0]; rw [if_pos rfl, if_pos rfl, if_pos rfl]; exact W8.mu hM (by simp only [mV, zu, Int.reduceEq, reduceIte])) hS hlocks dX8_tick_127
          · refine lv_aload_n (pc := 81) E.1 E.2 dX8_tick_81 rfl (lv_at hl 2 rfl) ?_
            refine g8_0 (pc := 82) E hts hin8 hown hK hM.1 (hts _ (List.mem_of_getElem? (i := 2) rfl)) dX8_tick_82 ?_
            refine z_sipush (pc := 85) E (by decide) dX8_tick_85 ?_
            refine z_iconst (pc := 88) E dX8_tick_88 ?_
            refine lv_iload_n (pc := 89) E.1 E.2 dX8_tick_89 rfl (lv_at hl 0 rfl) ?_
            refine z_imul (pc := 90) E dX8_tick_90 ?_
            refine z_iadd (pc := 91) E dX8_tick_91 ?_
            refine z_iconst (pc := 92) E dX8_tick_92 ?_
            refine z_iadd (pc := 93) E dX8_tick_93 ?_
            refine z_laload (pc := 94) E hK hM.2.1 ⟨by omega, by omega⟩ (by decide) dX8_tick_94 ?_
            have hgk := hR.gft (g := g) (by omega) (by omega)
            have hr0 := hR.ti
            refine lv_aload_n (pc := 95) E.1 E.2 dX8_tick_95 rfl (lv_at hl 2 rfl) ?_
            refine g8_0 (pc := 96) E hts hin8 hown hK hM.1 (hts _ (List.mem_of_getElem? (i := 2) rfl)) dX8_tick_96 ?_
            refine z_iconst (pc := 99) E dX8_tick_99 ?_
            refine z_laload (pc := 100) E hK hM.2.1 ⟨by omega, by omega⟩ (by decide) dX8_tick_100 ?_
            refine z_lcmp_le (pc := 101) (tgt := 108) E ⟨by omega, by omega⟩ ⟨by omega, by omega⟩ dX8_tick_101 dX8_tick_102 (by decide) (fun h101 => ?_) (fun h101 => ?_)
            · refine lv_aload_n (pc := 108) E.1 E.2 dX8_tick_108 rfl (lv_at hl 2 rfl) ?_
              refine lv_iload_n (pc := 109) E.1 E.2 dX8_tick_109 rfl (lv_at hl 0 rfl) ?_
              refine z_wVv (pc := 110) (As := [.int (iI g)]) (rest := []) E hml hown hts (mX8_dropsGift lL G o (zu (zu μ 4 0) 3 (keM ((μ 3)))) ρ φ (keK κ σ ((μ 3))) β ω g hR (by omega)) (cwV 1 hts gX8_tick_X8_dropsGift rfl rfl rfl vdX8_dropsGift ⟨Nat.le_of_ble_eq_true rfl, Nat.le_of_ble_eq_true rfl⟩) (oB.recv hK hM.1 rfl) (W8.mu hM (by simp only [mV, zu, Int.reduceEq, reduceIte])) hK hS (fun _ h => h) rfl hl.1 rfl dX8_tick_110 hcs (Nat.le_of_ble_eq_true rfl) (fun H locs hnew hsz hoth hS => ?_)
              have hM : W8 G o [.ref (o 1), .ref (o 2), .ref (o 3), .int (iI (keM ((μ 3)))), .int (iI 0), .ref (o 4), .int (iI (μ 6)), .int (iI (μ 7)), .int (iI (μ 8)), .int (iI (μ 9)), .int (iI (μ 10)), .int (iI (μ 11)), .int (iI (μ 12)), .int (iI (μ 13)), .int (iI (μ 14)), .long (iL (μ 15)), .ref (o 5), .int (iI (μ 17))] (dgF ρ g) φ (keK κ σ ((μ 3))) β ω H := W8.eq hnew (by simp only [mV, zu, Int.reduceEq, reduceIte])
              refine lv_iinc (pc := 113) (v := iI (n + 1)) (lv' := [(2, .int (iI (n + 1))), (3, .int (iI g)), (0, .ref (o 0)), (1, .int (iI t))]) E.1 E.2 dX8_tick_113 hl (k := 1) rfl (iI_add _ _) (by decide) rfl (fun ls hl => ?_)
              refine lv_iinc (pc := 116) (v := iI (g + (-1))) (lv' := [(3, .int (iI (g + (-1)))), (2, .int (iI (n + 1))), (0, .ref (o 0)), (1, .int (iI t))]) E.1 E.2 dX8_tick_116 hl (k := 1) rfl (iI_add _ _) (by decide) rfl (fun ls hl => ?_)
              refine lv_goto (pc := 119) (tgt := 77) E.1 E.2 dX8_tick_119 (by decide) ?_
              exact ihL77 (n + 1) (g + (-1)) (dgF ρ g) (by first | exact hR | exact hR.dgFI (by omega)) (by first | omega | (rw [dg_4]; omega)) (by first | exact ht0 | (rw [dgF_v, if_neg (by omega), if_neg (by omega)]; exact ht0)) (by first | omega | (rw [dg_4]; omega)) (by rw [← he, show (g + 1).toNat = (g + -1 + 1).toNat + 1 by omega, reG, show (((g + -1 + 1).toNat : Nat) : Int) = g by omega]; first | exact (if_neg (by omega)).symm | exact (if_pos (by omega)).symm) (by omega)  _ _ hM hS ls (lv_sub hl [0, 1, 2, 3] rfl)
            · refine lv_goto (pc := 105) (tgt := 116) E.1 E.2 dX8_tick_105 (by decide) ?_
              refine lv_iinc (pc := 116) (v := iI (g + (-1))) (lv' := [(3, .int (iI (g + (-1)))), (2, .int (iI n)), (0, .ref (o 0)), (1, .int (iI t))]) E.1 E.2 dX8_tick_116 hl (k := 0) rfl (iI_add _ _) (by decide) rfl (fun ls hl => ?_)
              refine lv_goto (pc := 119) (tgt := 77) E.1 E.2 dX8_tick_119 (by decide) ?_
              exact ihL77 n (g + (-1)) ρ (by first | exact hR | exact hR.dgFI (by omega)) (by first | omega | (rw [dg_4]; omega)) (by first | exact ht0 | (rw [dgF_v, if_neg (by omega), if_neg (by omega)]; exact ht0)) (by first | omega | (rw [dg_4]; omega)) (by rw [← he, show (g + 1).toNat = (g + -1 + 1).toNat + 1 by omega, reG, show (((g + -1 + 1).toNat : Nat) : Int) = g by omega]; first | exact (if_neg (by omega)).symm | exact (if_pos (by omega)).symm) (by omega)  _ _ hM hS ls (lv_sub hl [0, 1, 2, 3] rfl)
      · exact absurd h45 (by decide)
    · refine z_iconst (pc := 33) E dX8_tick_33 ?_
      refine lv_goto (pc := 34) (tgt := 38) E.1 E.2 dX8_tick_34 (by decide) ?_
      refine p8_4 (pc := 38) E hts hin8 hown hK hM.1 hS (Ax.at 0 (by decide)) (hts _ (List.mem_of_getElem? (i := 4) rfl)) dX8_tick_38 (fun H locs hnew hoth hS => ?_)
      have hM := W8.p hM hnew (fun a _ h => hoth a h)
      refine lv_aload_n (pc := 41) E.1 E.2 dX8_tick_41 rfl (lv_at hl 0 rfl) ?_
      refine g8_4 (pc := 42) E hts hin8 hown hK hM.1 (hts _ (List.mem_of_getElem? (i := 4) rfl)) dX8_tick_42 ?_
      refine z_if_le (pc := 45) (tgt := 50) E (by decide) dX8_tick_45 (by decide) (fun h45 => ?_) (fun h45 => ?_)
      · exact absurd h45 (by decide)
      · refine z_iconst (pc := 48) E dX8_tick_48 ?_
        exact z_retWi E hr (congrArg iI (by have e0 : (kxTick σ t) = 2 := (by unfold kxTick; (repeat' split) <;> first | rfl | omega | (exfalso; omega) | contradiction | grind); rw [e0]; exact (if_neg (by decide)).symm)) (by have e0 : (kxTick σ t) = 2 := (by unfold kxTick; (repeat' split) <;> first | rfl | omega | (exfalso; omega) | contradiction | grind); rw [e0]; rw [if_neg (by decide), if_neg (by decide), if_neg (by decide)]; exact W8.mu hM (by simp only [mV, zu, Int.reduceEq, reduceIte])) hS hlocks dX8_tick_49
  · refine z_iconst (pc := 13) E dX8_tick_13 ?_
    refine lv_goto (pc := 14) (tgt := 38) E.1 E.2 dX8_tick_14 (by decide) ?_
    refine p8_4 (pc := 38) E hts hin8 hown hK hM.1 hS (Ax.at 0 (by decide)) (hts _ (List.mem_of_getElem? (i := 4) rfl)) dX8_tick_38 (fun H locs hnew hoth hS => ?_)
    have hM := W8.p hM hnew (fun a _ h => hoth a h)
    refine lv_aload_n (pc := 41) E.1 E.2 dX8_tick_41 rfl (lv_at hl 0 rfl) ?_
    refine g8_4 (pc := 42) E hts hin8 hown hK hM.1 (hts _ (List.mem_of_getElem? (i := 4) rfl)) dX8_tick_42 ?_
    refine z_if_le (pc := 45) (tgt := 50) E (by decide) dX8_tick_45 (by decide) (fun h45 => ?_) (fun h45 => ?_)
    · exact absurd h45 (by decide)
    · refine z_iconst (pc := 48) E dX8_tick_48 ?_
      exact z_retWi E hr (congrArg iI (by have e0 : (kxTick σ t) = 1 := (by unfold kxTick; (repeat' split) <;> first | rfl | omega | (exfalso; omega) | contradiction | grind); rw [e0]; exact (if_neg (by decide)).symm)) (by have e0 : (kxTick σ t) = 1 := (by unfold kxTick; (repeat' split) <;> first | rfl | omega | (exfalso; omega) | contradiction | grind); rw [e0]; rw [if_neg (by decide), if_neg (by decide), if_neg (by decide)]; exact W8.mu hM (by simp only [mV, zu, Int.reduceEq, reduceIte])) hS hlocks dX8_tick_49
