theorem vdX8_append : yX8_append.cls = RX8 ∧ yX8_append.cls ≠ "java/lang/invoke/MethodHandle" ∧ yX8_append.cls ≠ "java/lang/invoke/VarHandle" ∧ (parseMethodDescriptor yX8_append.desc).map (fun d => d.parameters.length) = some 5 := by decide +kernel
set_option maxHeartbeats 1000000 in
set_option maxRecDepth 100000 in
theorem mX8_append (lL : Launch) (G : GG) (o : Nat → Nat) (μ σ φ κ β ω : Int → Int) (a : Int) (b : Int) (c : Int) (d : Int) (e : Int) (ha : -2147483648 ≤ a ∧ a < 2147483648) (hb : -2147483648 ≤ b ∧ b < 2147483648) (hc : -2147483648 ≤ c ∧ c < 2147483648) (hd : -2147483648 ≤ d ∧ d < 2147483648) (he : -2147483648 ≤ e ∧ e < 2147483648) (hm : 0 ≤ μ 6 ∧ μ 6 ≤ 880) : Met lL yX8_append wsX8_append ({ frames := 0, cells := 0, slots := 0, locals := 0 } : Room) (va_Pc [.ref (o 0), .int (iI a), .int (iI b), .int (iI c), .int (iI d), .int (iI e)] (fun U => W8 G o (mV o μ) σ φ κ β ω U.heap ∧ KK G U)) (va_Qi (fun r (_ : Unit) => r = (iI (μ 6 + 20))) (fun _ tZ => W8 G o (mV o (zu (zu μ 4 0) 6 (μ 6 + 20))) σ φ κ (apB β (μ 6) a b c d e 20) ω tZ.heap) (Ax o 6)) 0 0 (Ax o 6) := by
  refine z_met (P := (fun H : Heap => W8 G o (mV o μ) σ φ κ β ω H)) (by decide) rfl (Nat.le_of_ble_eq_true rfl) (fun pp ee ss mm below meth cC E hr hml hown hts hlocks hM hK ls hl => ?_)
  have hl : lv_has ls 8 [(0, .ref (o 0)), (1, .int (iI a)), (2, .int (iI b)), (3, .int (iI c)), (4, .int (iI d)), (5, .int (iI e))] := hl
  have hcs : 0 ≤ (({ frames := 0, cells := 0, slots := 0, locals := 0 } : Room)).cells ∧ 0 ≤ (({ frames := 0, cells := 0, slots := 0, locals := 0 } : Room)).slots := ⟨Nat.zero_le _, Nat.zero_le _⟩
  have hS : va_S (Ax o 6) ss.heap ss.heap [] := va_S.rf
  have hin8 : ∀ w ∈ wsX80, w ∈ wsX8_append := fun w h => List.mem_cons_of_mem _ (List.mem_append_right _ (h))
  refine lv_aload_n (pc := 0) E.1 E.2 dX8_append_0 rfl (lv_at hl 0 rfl) ?_
  refine lv_aload_n (pc := 1) E.1 E.2 dX8_append_1 rfl (lv_at hl 0 rfl) ?_
  refine g8_6 (pc := 2) E hts hin8 hown hK hM.1 (hts _ (List.mem_of_getElem? (i := 1) rfl)) dX8_append_2 ?_
  refine z_bipush (pc := 5) E (by decide) dX8_append_5 ?_
  refine z_iadd (pc := 7) E dX8_append_7 ?_
  refine z_sipush (pc := 8) E (by decide) dX8_append_8 ?_
  refine z_icmp_le (pc := 11) (tgt := 18) E ⟨by omega, by omega⟩ (by decide) dX8_append_11 (by decide) (fun h11 => ?_) (fun h11 => ?_)
  · refine z_iconst (pc := 18) E dX8_append_18 ?_
    refine p8_4 (pc := 19) E hts hin8 hown hK hM.1 hS (Ax.at 0 (by decide)) (hts _ (List.mem_of_getElem? (i := 2) rfl)) dX8_append_19 (fun H locs hnew hoth hS => ?_)
    have hM := W8.p hM hnew (fun a _ h => hoth a h)
    refine lv_aload_n (pc := 22) E.1 E.2 dX8_append_22 rfl (lv_at hl 0 rfl) ?_
    refine g8_4 (pc := 23) E hts hin8 hown hK hM.1 (hts _ (List.mem_of_getElem? (i := 2) rfl)) dX8_append_23 ?_
    refine z_if_le (pc := 26) (tgt := 31) E (by decide) dX8_append_26 (by decide) (fun h26 => ?_) (fun h26 => ?_)
    · refine z_iconst (pc := 31) E dX8_append_31 ?_
      refine lv_istore (pc := 32) (lv' := [(6, .int (iI 0)), (0, .ref (o 0)), (1, .int (iI a)), (2, .int (iI b)), (3, .int (iI c)), (4, .int (iI d)), (5, .int (iI e))]) E.1 E.2 dX8_append_32 hl (by decide) rfl (fun ls hl => ?_)
      suffices L34 : ∀ (nf : Nat), ∀ (k : Int), (0 ≤ k ∧ k ≤ 20) → ((20 - k).toNat) < nf → ∀  (H : Heap) (locs : List Loc), W8 G o [.ref (o 1), .ref (o 2), .ref (o 3), .int (iI (μ 3)), .int (iI 0), .ref (o 4), .int (iI (μ 6 + k)), .int (iI (μ 7)), .int (iI (μ 8)), .int (iI (μ 9)), .int (iI (μ 10)), .int (iI (μ 11)), .int (iI (μ 12)), .int (iI (μ 13)), .int (iI (μ 14)), .long (iL (μ 15)), .ref (o 5), .int (iI (μ 17))] σ φ κ (apB β (μ 6) a b c d e k.toNat) ω H → va_S (Ax o 6) ss.heap H locs → ∀ ls : Array Slot, lv_has ls 8 [(6, .int (iI k)), (0, .ref (o 0)), (1, .int (iI a)), (2, .int (iI b)), (3, .int (iI c)), (4, .int (iI d)), (5, .int (iI e))] → W pp lL ee ({ frames := 0, cells := 0, slots := 0, locals := 0 } : Room) ss mm [.ref (o 0), .int (iI a), .int (iI b), .int (iI c), .int (iI d), .int (iI e)].toArray below meth cC H locs 0 0 (MQ below (va_Qi (fun r (_ : Unit) => r = (iI (μ 6 + 20))) (fun _ tZ => W8 G o (mV o (zu (zu μ 4 0) 6 (μ 6 + 20))) σ φ κ (apB β (μ 6) a b c d e 20) ω tZ.heap) (Ax o 6)) [.ref (o 0), .int (iI a), .int (iI b), .int (iI c), .int (iI d), .int (iI e)].toArray ss 0 0 (Ax o 6)) (F0 mm 34 ls []) from L34 _ 0 (by omega) (Nat.lt_succ_self _)  _ _ (by rw [show μ 6 + 0 = μ 6 from Int.add_zero _]; exact hM) hS ls (lv_sub hl [0, 1, 2, 3, 4, 5, 6] rfl)
      intro nfL34
      induction nfL34 with
      | zero => intro k hk hmzL34; exact absurd hmzL34 (Nat.not_lt_zero _)
      | succ nfL34 ihL34 =>
        intro k hk hmzL34  H locs hM hS ls hl
        refine lv_iload (pc := 34) E.1 E.2 dX8_append_34 (lv_at hl 0 rfl) ?_
        refine z_bipush (pc := 36) E (by decide) dX8_append_36 ?_
        refine z_icmp_ge (pc := 38) (tgt := 131) E ⟨by omega, by omega⟩ (by decide) dX8_append_38 (by decide) (fun h38 => ?_) (fun h38 => ?_)
        · have ek : k = 20 := by omega
          subst ek
          refine lv_aload_n (pc := 131) E.1 E.2 dX8_append_131 rfl (lv_at hl 1 rfl) ?_
          refine g8_6 (pc := 132) E hts hin8 hown hK hM.1 (hts _ (List.mem_of_getElem? (i := 1) rfl)) dX8_append_132 ?_
          exact z_retWi E hr (congrArg iI (by first | omega | (rw [if_pos (by omega)]) | (rw [if_neg (by omega)]))) (W8.mu hM (by simp only [mV, zu, Int.reduceEq, reduceIte])) hS hlocks dX8_append_135
        · refine lv_iload (pc := 41) E.1 E.2 dX8_append_41 (lv_at hl 0 rfl) ?_
          refine z_iconst (pc := 43) E dX8_append_43 ?_
          refine z_icmp_ge (pc := 44) (tgt := 51) E ⟨by omega, by omega⟩ (by decide) dX8_append_44 (by decide) (fun h44 => ?_) (fun h44 => ?_)
          · refine lv_iload (pc := 51) E.1 E.2 dX8_append_51 (lv_at hl 0 rfl) ?_
            refine z_bipush (pc := 53) E (by decide) dX8_append_53 ?_
            refine z_icmp_ge (pc := 55) (tgt := 62) E ⟨by omega, by omega⟩ (by decide) dX8_append_55 (by decide) (fun h55 => ?_) (fun h55 => ?_)
            · refine lv_iload (pc := 62) E.1 E.2 dX8_append_62 (lv_at hl 0 rfl) ?_
              refine z_bipush (pc := 64) E (by decide) dX8_append_64 ?_
              refine z_icmp_ge (pc := 66) (tgt := 73) E ⟨by omega, by omega⟩ (by decide) dX8_append_66 (by decide) (fun h66 => ?_) (fun h66 => ?_)
              · refine lv_iload (pc := 73) E.1 E.2 dX8_append_73 (lv_at hl 0 rfl) ?_
                refine z_bipush (pc := 75) E (by decide) dX8_append_75 ?_
                refine z_icmp_ge (pc := 77) (tgt := 85) E ⟨by omega, by omega⟩ (by decide) dX8_append_77 (by decide) (fun h77 => ?_) (fun h77 => ?_)
                · refine lv_iload (pc := 85) E.1 E.2 dX8_append_85 (lv_at hl 6 rfl) ?_
                  refine lv_istore (pc := 87) (lv' := [(7, .int (iI e)), (6, .int (iI k)), (0, .ref (o 0)), (1, .int (iI a)), (2, .int (iI b)), (3, .int (iI c)), (4, .int (iI d)), (5, .int (iI e))]) E.1 E.2 dX8_append_87 hl (by decide) rfl (fun ls hl => ?_)
                  refine lv_aload_n (pc := 89) E.1 E.2 dX8_append_89 rfl (lv_at hl 2 rfl) ?_
                  refine g8_5 (pc := 90) E hts hin8 hown hK hM.1 (hts _ (List.mem_of_getElem? (i := 3) rfl)) dX8_append_90 ?_
                  refine lv_aload_n (pc := 93) E.1 E.2 dX8_append_93 rfl (lv_at hl 2 rfl) ?_
                  refine g8_6 (pc := 94) E hts hin8 hown hK hM.1 (hts _ (List.mem_of_getElem? (i := 1) rfl)) dX8_append_94 ?_
                  refine lv_iload (pc := 97) E.1 E.2 dX8_append_97 (lv_at hl 0 rfl) ?_
                  refine z_bipush (pc := 99) E (by decide) dX8_append_99 ?_
                  refine z_bipush (pc := 101) E (by decide) dX8_append_101 ?_
                  refine lv_iload (pc := 103) E.1 E.2 dX8_append_103 (lv_at hl 1 rfl) ?_
                  refine z_iconst (pc := 105) E dX8_append_105 ?_
                  refine z_iremN (pc := 106) E ⟨by omega, by omega⟩ ⟨by omega, by omega⟩ dX8_append_106 ?_
                  refine z_imul (pc := 107) E dX8_append_107 ?_
                  refine z_isub (pc := 108) E dX8_append_108 ?_
                  refine z_ishr (pc := 109) (n := (24 - (8 * (k % 4))).toNat) E ⟨by omega, by omega⟩ (sh4 (by omega)) dX8_append_109 ?_
                  refine z_sipush (pc := 110) E (by decide) dX8_append_110 ?_
                  refine z_iand255 (pc := 113) E dX8_append_113 ?_
                  refine z_iastore (pc := 114) E hK hM.2.2.2.2.1 hS (Ax.at 4 (by decide)) ⟨by omega, by omega⟩ (by decide) dX8_append_114 (fun H locs hnew hoth hS => ?_)
                  have hM := W8.a4 hM hnew (fun a _ h => hoth a h)
                  refine lv_aload_n (pc := 115) E.1 E.2 dX8_append_115 rfl (lv_at hl 2 rfl) ?_
                  refine lv_dup (pc := 116) E.1 E.2 dX8_append_116 rfl ?_
                  refine g8_6 (pc := 117) E hts hin8 hown hK hM.1 (hts _ (List.mem_of_getElem? (i := 1) rfl)) dX8_append_117 ?_
                  refine z_iconst (pc := 120) E dX8_append_120 ?_
                  refine z_iadd (pc := 121) E dX8_append_121 ?_
                  refine p8_6 (pc := 122) E hts hin8 hown hK hM.1 hS (Ax.at 0 (by decide)) (hts _ (List.mem_of_getElem? (i := 1) rfl)) dX8_append_122 (fun H locs hnew hoth hS => ?_)
                  have hM := W8.p hM hnew (fun a _ h => hoth a h)
                  refine lv_iinc (pc := 125) (v := iI (k + 1)) (lv' := [(6, .int (iI (k + 1))), (7, .int (iI e)), (0, .ref (o 0)), (1, .int (iI a)), (2, .int (iI b)), (3, .int (iI c)), (4, .int (iI d)), (5, .int (iI e))]) E.1 E.2 dX8_append_125 hl (k := 1) rfl (iI_add _ _) (by decide) rfl (fun ls hl => ?_)
                  refine lv_goto (pc := 128) (tgt := 34) E.1 E.2 dX8_append_128 (by decide) ?_
                  exact ihL34 (k + 1) (by omega) (by omega)  _ _ (by rw [show μ 6 + (k + 1) = μ 6 + k + 1 from by omega, apB_s (v := e) hk.1 (by unfold apV; omega)]; exact hM) hS ls (lv_sub hl [0, 2, 3, 4, 5, 6, 7] rfl)
                · refine lv_iload (pc := 80) E.1 E.2 dX8_append_80 (lv_at hl 5 rfl) ?_
                  refine lv_goto (pc := 82) (tgt := 87) E.1 E.2 dX8_append_82 (by decide) ?_
                  refine lv_istore (pc := 87) (lv' := [(7, .int (iI d)), (6, .int (iI k)), (0, .ref (o 0)), (1, .int (iI a)), (2, .int (iI b)), (3, .int (iI c)), (4, .int (iI d)), (5, .int (iI e))]) E.1 E.2 dX8_append_87 hl (by decide) rfl (fun ls hl => ?_)
                  refine lv_aload_n (pc := 89) E.1 E.2 dX8_append_89 rfl (lv_at hl 2 rfl) ?_
                  refine g8_5 (pc := 90) E hts hin8 hown hK hM.1 (hts _ (List.mem_of_getElem? (i := 3) rfl)) dX8_append_90 ?_
                  refine lv_aload_n (pc := 93) E.1 E.2 dX8_append_93 rfl (lv_at hl 2 rfl) ?_
                  refine g8_6 (pc := 94) E hts hin8 hown hK hM.1 (hts _ (List.mem_of_getElem? (i := 1) rfl)) dX8_append_94 ?_
                  refine lv_iload (pc := 97) E.1 E.2 dX8_append_97 (lv_at hl 0 rfl) ?_
                  refine z_bipush (pc := 99) E (by decide) dX8_append_99 ?_
                  refine z_bipush (pc := 101) E (by decide) dX8_append_101 ?_
                  refine lv_iload (pc := 103) E.1 E.2 dX8_append_103 (lv_at hl 1 rfl) ?_
                  refine z_iconst (pc := 105) E dX8_append_105 ?_
                  refine z_iremN (pc := 106) E ⟨by omega, by omega⟩ ⟨by omega, by omega⟩ dX8_append_106 ?_
                  refine z_imul (pc := 107) E dX8_append_107 ?_
                  refine z_isub (pc := 108) E dX8_append_108 ?_
                  refine z_ishr (pc := 109) (n := (24 - (8 * (k % 4))).toNat) E ⟨by omega, by omega⟩ (sh4 (by omega)) dX8_append_109 ?_
                  refine z_sipush (pc := 110) E (by decide) dX8_append_110 ?_
                  refine z_iand255 (pc := 113) E dX8_append_113 ?_
                  refine z_iastore (pc := 114) E hK hM.2.2.2.2.1 hS (Ax.at 4 (by decide)) ⟨by omega, by omega⟩ (by decide) dX8_append_114 (fun H locs hnew hoth hS => ?_)
                  have hM := W8.a4 hM hnew (fun a _ h => hoth a h)
                  refine lv_aload_n (pc := 115) E.1 E.2 dX8_append_115 rfl (lv_at hl 2 rfl) ?_
                  refine lv_dup (pc := 116) E.1 E.2 dX8_append_116 rfl ?_
                  refine g8_6 (pc := 117) E hts hin8 hown hK hM.1 (hts _ (List.mem_of_getElem? (i := 1) rfl)) dX8_append_117 ?_
                  refine z_iconst (pc := 120) E dX8_append_120 ?_
                  refine z_iadd (pc := 121) E dX8_append_121 ?_
                  refine p8_6 (pc := 122) E hts hin8 hown hK hM.1 hS (Ax.at 0 (by decide)) (hts _ (List.mem_of_getElem? (i := 1) rfl)) dX8_append_122 (fun H locs hnew hoth hS => ?_)
                  have hM := W8.p hM hnew (fun a _ h => hoth a h)
                  refine lv_iinc (pc := 125) (v := iI (k + 1)) (lv' := [(6, .int (iI (k + 1))), (7, .int (iI d)), (0, .ref (o 0)), (1, .int (iI a)), (2, .int (iI b)), (3, .int (iI c)), (4, .int (iI d)), (5, .int (iI e))]) E.1 E.2 dX8_append_125 hl (k := 1) rfl (iI_add _ _) (by decide) rfl (fun ls hl => ?_)
                  refine lv_goto (pc := 128) (tgt := 34) E.1 E.2 dX8_append_128 (by decide) ?_
                  exact ihL34 (k + 1) (by omega) (by omega)  _ _ (by rw [show μ 6 + (k + 1) = μ 6 + k + 1 from by omega, apB_s (v := d) hk.1 (by unfold apV; omega)]; exact hM) hS ls (lv_sub hl [0, 2, 3, 4, 5, 6, 7] rfl)
              · refine lv_iload_n (pc := 69) E.1 E.2 dX8_append_69 rfl (lv_at hl 4 rfl) ?_
                refine lv_goto (pc := 70) (tgt := 87) E.1 E.2 dX8_append_70 (by decide) ?_
                refine lv_istore (pc := 87) (lv' := [(7, .int (iI c)), (6, .int (iI k)), (0, .ref (o 0)), (1, .int (iI a)), (2, .int (iI b)), (3, .int (iI c)), (4, .int (iI d)), (5, .int (iI e))]) E.1 E.2 dX8_append_87 hl (by decide) rfl (fun ls hl => ?_)
                refine lv_aload_n (pc := 89) E.1 E.2 dX8_append_89 rfl (lv_at hl 2 rfl) ?_
                refine g8_5 (pc := 90) E hts hin8 hown hK hM.1 (hts _ (List.mem_of_getElem? (i := 3) rfl)) dX8_append_90 ?_
                refine lv_aload_n (pc := 93) E.1 E.2 dX8_append_93 rfl (lv_at hl 2 rfl) ?_
                refine g8_6 (pc := 94) E hts hin8 hown hK hM.1 (hts _ (List.mem_of_getElem? (i := 1) rfl)) dX8_append_94 ?_
                refine lv_iload (pc := 97) E.1 E.2 dX8_append_97 (lv_at hl 0 rfl) ?_
                refine z_bipush (pc := 99) E (by decide) dX8_append_99 ?_
                refine z_bipush (pc := 101) E (by decide) dX8_append_101 ?_
                refine lv_iload (pc := 103) E.1 E.2 dX8_append_103 (lv_at hl 1 rfl) ?_
                refine z_iconst (pc := 105) E dX8_append_105 ?_
                refine z_iremN (pc := 106) E ⟨by omega, by omega⟩ ⟨by omega, by omega⟩ dX8_append_106 ?_
                refine z_imul (pc := 107) E dX8_append_107 ?_
                refine z_isub (pc := 108) E dX8_append_108 ?_
                refine z_ishr (pc := 109) (n := (24 - (8 * (k % 4))).toNat) E ⟨by omega, by omega⟩ (sh4 (by omega)) dX8_append_109 ?_
                refine z_sipush (pc := 110) E (by decide) dX8_append_110 ?_
                refine z_iand255 (pc := 113) E dX8_append_113 ?_
                refine z_iastore (pc := 114) E hK hM.2.2.2.2.1 hS (Ax.at 4 (by decide)) ⟨by omega, by omega⟩ (by decide) dX8_append_114 (fun H locs hnew hoth hS => ?_)
                have hM := W8.a4 hM hnew (fun a _ h => hoth a h)
                refine lv_aload_n (pc := 115) E.1 E.2 dX8_append_115 rfl (lv_at hl 2 rfl) ?_
                refine lv_dup (pc := 116) E.1 E.2 dX8_append_116 rfl ?_
                refine g8_6 (pc := 117) E hts hin8 hown hK hM.1 (hts _ (List.mem_of_getElem? (i := 1) rfl)) dX8_append_117 ?_
                refine z_iconst (pc := 120) E dX8_append_120 ?_
                refine z_iadd (pc := 121) E dX8_append_121 ?_
                refine p8_6 (pc := 122) E hts hin8 hown hK hM.1 hS (Ax.at 0 (by decide)) (hts _ (List.mem_of_getElem? (i := 1) rfl)) dX8_append_122 (fun H locs hnew hoth hS => ?_)
                have hM := W8.p hM hnew (fun a _ h => hoth a h)
                refine lv_iinc (pc := 125) (v := iI (k + 1)) (lv' := [(6, .int (iI (k + 1))), (7, .int (iI c)), (0, .ref (o 0)), (1, .int (iI a)), (2, .int (iI b)), (3, .int (iI c)), (4, .int (iI d)), (5, .int (iI e))]) E.1 E.2 dX8_append_125 hl (k := 1) rfl (iI_add _ _) (by decide) rfl (fun ls hl => ?_)
                refine lv_goto (pc := 128) (tgt := 34) E.1 E.2 dX8_append_128 (by decide) ?_
                exact ihL34 (k + 1) (by omega) (by omega)  _ _ (by rw [show μ 6 + (k + 1) = μ 6 + k + 1 from by omega, apB_s (v := c) hk.1 (by unfold apV; omega)]; exact hM) hS ls (lv_sub hl [0, 2, 3, 4, 5, 6, 7] rfl)
            · refine lv_iload_n (pc := 58) E.1 E.2 dX8_append_58 rfl (lv_at hl 3 rfl) ?_
              refine lv_goto (pc := 59) (tgt := 87) E.1 E.2 dX8_append_59 (by decide) ?_
              refine lv_istore (pc := 87) (lv' := [(7, .int (iI b)), (6, .int (iI k)), (0, .ref (o 0)), (1, .int (iI a)), (2, .int (iI b)), (3, .int (iI c)), (4, .int (iI d)), (5, .int (iI e))]) E.1 E.2 dX8_append_87 hl (by decide) rfl (fun ls hl => ?_)
              refine lv_aload_n (pc := 89) E.1 E.2 dX8_append_89 rfl (lv_at hl 2 rfl) ?_
              refine g8_5 (pc := 90) E hts hin8 hown hK hM.1 (hts _ (List.mem_of_getElem? (i := 3) rfl)) dX8_append_90 ?_
              refine lv_aload_n (pc := 93) E.1 E.2 dX8_append_93 rfl (lv_at hl 2 rfl) ?_
              refine g8_6 (pc := 94) E hts hin8 hown hK hM.1 (hts _ (List.mem_of_getElem? (i := 1) rfl)) dX8_append_94 ?_
              refine lv_iload (pc := 97) E.1 E.2 dX8_append_97 (lv_at hl 0 rfl) ?_
              refine z_bipush (pc := 99) E (by decide) dX8_append_99 ?_
              refine z_bipush (pc := 101) E (by decide) dX8_append_101 ?_
              refine lv_iload (pc := 103) E.1 E.2 dX8_append_103 (lv_at hl 1 rfl) ?_
              refine z_iconst (pc := 105) E dX8_append_105 ?_
              refine z_iremN (pc := 106) E ⟨by omega, by omega⟩ ⟨by omega, by omega⟩ dX8_append_106 ?_
              refine z_imul (pc := 107) E dX8_append_107 ?_
              refine z_isub (pc := 108) E dX8_append_108 ?_
              refine z_ishr (pc := 109) (n := (24 - (8 * (k % 4))).toNat) E ⟨by omega, by omega⟩ (sh4 (by omega)) dX8_append_109 ?_
              refine z_sipush (pc := 110) E (by decide) dX8_append_110 ?_
              refine z_iand255 (pc := 113) E dX8_append_113 ?_
              refine z_iastore (pc := 114) E hK hM.2.2.2.2.1 hS (Ax.at 4 (by decide)) ⟨by omega, by omega⟩ (by decide) dX8_append_114 (fun H locs hnew hoth hS => ?_)
              have hM := W8.a4 hM hnew (fun a _ h => hoth a h)
              refine lv_aload_n (pc := 115) E.1 E.2 dX8_append_115 rfl (lv_at hl 2 rfl) ?_
              refine lv_dup (pc := 116) E.1 E.2 dX8_append_116 rfl ?_
              refine g8_6 (pc := 117) E hts hin8 hown hK hM.1 (hts _ (List.mem_of_getElem? (i := 1) rfl)) dX8_append_117 ?_
              refine z_iconst (pc := 120) E dX8_append_120 ?_
              refine z_iadd (pc := 121) E dX8_append_121 ?_
              refine p8_6 (pc := 122) E hts hin8 hown hK hM.1 hS (Ax.at 0 (by decide)) (hts _ (List.mem_of_getElem? (i := 1) rfl)) dX8_append_122 (fun H locs hnew hoth hS => ?_)
              have hM := W8.p hM hnew (fun a _ h => hoth a h)
              refine lv_iinc (pc := 125) (v := iI (k + 1)) (lv' := [(6, .int (iI (k + 1))), (7, .int (iI b)), (0, .ref (o 0)), (1, .int (iI a)), (2, .int (iI b)), (3, .int (iI c)), (4, .int (iI d)), (5, .int (iI e))]) E.1 E.2 dX8_append_125 hl (k := 1) rfl (iI_add _ _) (by decide) rfl (fun ls hl => ?_)
              refine lv_goto (pc := 128) (tgt := 34) E.1 E.2 dX8_append_128 (by decide) ?_
              exact ihL34 (k + 1) (by omega) (by omega)  _ _ (by rw [show μ 6 + (k + 1) = μ 6 + k + 1 from by omega, apB_s (v := b) hk.1 (by unfold apV; omega)]; exact hM) hS ls (lv_sub hl [0, 2, 3, 4, 5, 6, 7] rfl)
          · refine lv_iload_n (pc := 47) E.1 E.2 dX8_append_47 rfl (lv_at hl 2 rfl) ?_
            refine lv_goto (pc := 48) (tgt := 87) E.1 E.2 dX8_append_48 (by decide) ?_
            refine lv_istore (pc := 87) (lv' := [(7, .int (iI a)), (6, .int (iI k)), (0, .ref (o 0)), (1, .int (iI a)), (2, .int (iI b)), (3, .int (iI c)), (4, .int (iI d)), (5, .int (iI e))]) E.1 E.2 dX8_append_87 hl (by decide) rfl (fun ls hl => ?_)
            refine lv_aload_n (pc := 89) E.1 E.2 dX8_append_89 rfl (lv_at hl 2 rfl) ?_
            refine g8_5 (pc := 90) E hts hin8 hown hK hM.1 (hts _ (List.mem_of_getElem? (i := 3) rfl)) dX8_append_90 ?_
            refine lv_aload_n (pc := 93) E.1 E.2 dX8_append_93 rfl (lv_at hl 2 rfl) ?_
            refine g8_6 (pc := 94) E hts hin8 hown hK hM.1 (hts _ (List.mem_of_getElem? (i := 1) rfl)) dX8_append_94 ?_
            refine lv_iload (pc := 97) E.1 E.2 dX8_append_97 (lv_at hl 0 rfl) ?_
            refine z_bipush (pc := 99) E (by decide) dX8_append_99 ?_
            refine z_bipush (pc := 101) E (by decide) dX8_append_101 ?_
            refine lv_iload (pc := 103) E.1 E.2 dX8_append_103 (lv_at hl 1 rfl) ?_
            refine z_iconst (pc := 105) E dX8_append_105 ?_
            refine z_iremN (pc := 106) E ⟨by omega, by omega⟩ ⟨by omega, by omega⟩ dX8_append_106 ?_
            refine z_imul (pc := 107) E dX8_append_107 ?_
            refine z_isub (pc := 108) E dX8_append_108 ?_
            refine z_ishr (pc := 109) (n := (24 - (8 * (k % 4))).toNat) E ⟨by omega, by omega⟩ (sh4 (by omega)) dX8_append_109 ?_
            refine z_sipush (pc := 110) E (by decide) dX8_append_110 ?_
            refine z_iand255 (pc := 113) E dX8_append_113 ?_
            refine z_iastore (pc := 114) E hK hM.2.2.2.2.1 hS (Ax.at 4 (by decide)) ⟨by omega, by omega⟩ (by decide) dX8_append_114 (fun H locs hnew hoth hS => ?_)
            have hM := W8.a4 hM hnew (fun a _ h => hoth a h)
            refine lv_aload_n (pc := 115) E.1 E.2 dX8_append_115 rfl (lv_at hl 2 rfl) ?_
            refine lv_dup (pc := 116) E.1 E.2 dX8_append_116 rfl ?_
            refine g8_6 (pc := 117) E hts hin8 hown hK hM.1 (hts _ (List.mem_of_getElem? (i := 1) rfl)) dX8_append_117 ?_
            refine z_iconst (pc := 120) E dX8_append_120 ?_
            refine z_iadd (pc := 121) E dX8_append_121 ?_
            refine p8_6 (pc := 122) E hts hin8 hown hK hM.1 hS (Ax.at 0 (by decide)) (hts _ (List.mem_of_getElem? (i := 1) rfl)) dX8_append_122 (fun H locs hnew hoth hS => ?_)
            have hM := W8.p hM hnew (fun a _ h => hoth a h)
            refine lv_iinc (pc := 125) (v := iI (k + 1)) (lv' := [(6, .int (iI (k + 1))), (7, .int (iI a)), (0, .ref (o 0)), (1, .int (iI a)), (2, .int (iI b)), (3, .int (iI c)), (4, .int (iI d)), (5, .int (iI e))]) E.1 E.2 dX8_append_125 hl (k := 1) rfl (iI_add _ _) (by decide) rfl (fun ls hl => ?_)
            refine lv_goto (pc := 128) (tgt := 34) E.1 E.2 dX8_append_128 (by decide) ?_
            exact ihL34 (k + 1) (by omega) (by omega)  _ _ (by rw [show μ 6 + (k + 1) = μ 6 + k + 1 from by omega, apB_s (v := a) hk.1 (by unfold apV; omega)]; exact hM) hS ls (lv_sub hl [0, 2, 3, 4, 5, 6, 7] rfl)
    · exact absurd h26 (by decide)
  · exact absurd h11 (by omega)
set_option maxHeartbeats 1000000 in
set_option maxRecDepth 100000 in
theorem mX8_appendN (lL : Launch) (G : GG) (o : Nat → Nat) (μ σ φ κ β ω : Int → Int) (a : Int) (b : Int) (c : Int) (d : Int) (e : Int) (ha : -2147483648 ≤ a ∧ a < 2147483648) (hb : -2147483648 ≤ b ∧ b < 2147483648) (hc : -2147483648 ≤ c ∧ c < 2147483648) (hd : -2147483648 ≤ d ∧ d < 2147483648) (he : -2147483648 ≤ e ∧ e < 2147483648) (hm : 880 < μ 6 ∧ μ 6 ≤ 900) : Met lL yX8_append wsX8_append ({ frames := 0, cells := 0, slots := 0, locals := 0 } : Room) (va_Pc [.ref (o 0), .int (iI a), .int (iI b), .int (iI c), .int (iI d), .int (iI e)] (fun U => W8 G o (mV o μ) σ φ κ β ω U.heap ∧ KK G U)) (va_Qi (fun r (_ : Unit) => r = (iI 0)) (fun _ tZ => W8 G o (mV o (zu μ 4 1)) σ φ κ β ω tZ.heap) (Ax o 6)) 0 0 (Ax o 6) := by
  refine z_met (P := (fun H : Heap => W8 G o (mV o μ) σ φ κ β ω H)) (by decide) rfl (Nat.le_of_ble_eq_true rfl) (fun pp ee ss mm below meth cC E hr hml hown hts hlocks hM hK ls hl => ?_)
  have hl : lv_has ls 8 [(0, .ref (o 0)), (1, .int (iI a)), (2, .int (iI b)), (3, .int (iI c)), (4, .int (iI d)), (5, .int (iI e))] := hl
  have hcs : 0 ≤ (({ frames := 0, cells := 0, slots := 0, locals := 0 } : Room)).cells ∧ 0 ≤ (({ frames := 0, cells := 0, slots := 0, locals := 0 } : Room)).slots := ⟨Nat.zero_le _, Nat.zero_le _⟩
  have hS : va_S (Ax o 6) ss.heap ss.heap [] := va_S.rf
  have hin8 : ∀ w ∈ wsX80, w ∈ wsX8_append := fun w h => List.mem_cons_of_mem _ (List.mem_append_right _ (h))
  refine lv_aload_n (pc := 0) E.1 E.2 dX8_append_0 rfl (lv_at hl 0 rfl) ?_
  refine lv_aload_n (pc := 1) E.1 E.2 dX8_append_1 rfl (lv_at hl 0 rfl) ?_
  refine g8_6 (pc := 2) E hts hin8 hown hK hM.1 (hts _ (List.mem_of_getElem? (i := 1) rfl)) dX8_append_2 ?_
  refine z_bipush (pc := 5) E (by decide) dX8_append_5 ?_
  refine z_iadd (pc := 7) E dX8_append_7 ?_
  refine z_sipush (pc := 8) E (by decide) dX8_append_8 ?_
  refine z_icmp_le (pc := 11) (tgt := 18) E ⟨by omega, by omega⟩ (by decide) dX8_append_11 (by decide) (fun h11 => ?_) (fun h11 => ?_)
  · exact absurd h11 (by omega)
  · refine z_iconst (pc := 14) E dX8_append_14 ?_
    refine lv_goto (pc := 15) (tgt := 19) E.1 E.2 dX8_append_15 (by decide) ?_
    refine p8_4 (pc := 19) E hts hin8 hown hK hM.1 hS (Ax.at 0 (by decide)) (hts _ (List.mem_of_getElem? (i := 2) rfl)) dX8_append_19 (fun H locs hnew hoth hS => ?_)
    have hM := W8.p hM hnew (fun a _ h => hoth a h)
    refine lv_aload_n (pc := 22) E.1 E.2 dX8_append_22 rfl (lv_at hl 0 rfl) ?_
    refine g8_4 (pc := 23) E hts hin8 hown hK hM.1 (hts _ (List.mem_of_getElem? (i := 2) rfl)) dX8_append_23 ?_
    refine z_if_le (pc := 26) (tgt := 31) E (by decide) dX8_append_26 (by decide) (fun h26 => ?_) (fun h26 => ?_)
    · exact absurd h26 (by decide)
    · refine z_iconst (pc := 29) E dX8_append_29 ?_
      exact z_retWi E hr rfl (W8.mu hM (by simp only [mV, zu, Int.reduceEq, reduceIte])) hS hlocks dX8_append_30
