set_option maxHeartbeats 1000000 in
set_option maxRecDepth 100000 in
theorem cs_tag {p : Program} {l : Launch} {e : Env} {s : State} {m : MethodId} {below : List Frame} {meth : Method} {c : Code} {G : GG} {b L : Nat} {xs : Nat → Int32} {aK aV : Nat → Nat} (X : LX p l s m c G b L xs aK aV) {n : Nat} {i : Int} {H : Heap} {locs : List Loc} {ls : Array Slot} {cells slots : Nat} {Q : State → Prop} (hn : n ≤ 600) (hi : 0 ≤ i ∧ i + 6 ≤ (L : Int)) (hH : LH G n s.heap.size H) (hS : va_S (fun q => s.heap.size ≤ q) s.heap H locs) (hl : lv_has ls 8 [(0, .ref b), (1, .ref (qo s.heap.size 0)), (2, .ref (s.heap.size + 187 + 0)), (3, .ref (s.heap.size + 193)), (4, .ref (s.heap.size + 194)), (5, .int (iI i))]) (hc : cells + 1 ≤ room_1.cells) (hsl : slots + 6 ≤ room_1.slots) (kk : ∀ (H : Heap) (locs : List Loc) (ls : Array Slot), LH G (n + 1) s.heap.size H → va_S (fun q => s.heap.size ≤ q) s.heap H locs → lv_has ls 8 [(0, .ref b), (1, .ref (qo s.heap.size 0)), (2, .ref (s.heap.size + 187 + 0)), (3, .ref (s.heap.size + 193)), (4, .ref (s.heap.size + 194)), (5, .int (iI i))] → W p l e room_1 s m #[Value.ref b] below meth c H locs (cells + 1) (slots + 6) Q (F0 m 2822 ls [])) : W p l e room_1 s m #[Value.ref b] below meth c H locs cells slots Q (F0 m 914 ls []) := by
  obtain ⟨E, hml, hown, hts, hK, hX0, hx, hb, hst, hL, hks⟩ := X
  obtain ⟨⟨ν, σ, π, δ, β, ω, μ, φ, κ, hQ, hW, hR⟩, ⟨fq, hA⟩, ⟨xq, hD⟩⟩ := hH
  have hX : KX FF0 s H := (hX0.kept (fun a ha hna => hS.2.1 a ha hna)).narrow (fun q h => h.elim)
  have hbA : ¬ (s.heap.size ≤ b) := by omega
  refine lv_aload_n (pc := 914) E.1 E.2 dL_law_914 rfl (lv_at hl 1 rfl) ?_
  refine lv_aload_n (pc := 915) E.1 E.2 dL_law_915 rfl (lv_at hl 0 rfl) ?_
  refine lv_iload (pc := 916) E.1 E.2 dL_law_916 (lv_at hl 5 rfl) ?_
  refine z_iconst (pc := 918) E dL_law_918 ?_
  refine z_iadd (pc := 919) E dL_law_919 ?_
  refine z_sld (pc := 920) E hx hb hbA hS ⟨by omega, by omega⟩ hL dL_law_920 ?_
  refine lv_aload_n (pc := 921) E.1 E.2 dL_law_921 rfl (lv_at hl 0 rfl) ?_
  refine lv_iload (pc := 922) E.1 E.2 dL_law_922 (lv_at hl 5 rfl) ?_
  refine z_iconst (pc := 924) E dL_law_924 ?_
  refine z_iadd (pc := 925) E dL_law_925 ?_
  refine z_sld (pc := 926) E hx hb hbA hS ⟨by omega, by omega⟩ hL dL_law_926 ?_
  refine lv_aload_n (pc := 927) E.1 E.2 dL_law_927 rfl (lv_at hl 3 rfl) ?_
  by_cases hk : (kxTag σ (sx xs (i + 1)) (sx xs (i + 2))) = 0
  · refine z_lwc (pc := 928) (As := [.ref (qo s.heap.size 0), .int (iI (sx xs (i + 1))), .int (iI (sx xs (i + 2))), .ref (s.heap.size + 193)]) (rest := []) E hml hown hts (mL_tag l G (qo s.heap.size) ν σ π δ (fun j => sg8 (β j)) ω (sx xs (i + 1)) (sx xs (i + 2)) hR.ok.1 (sx_b _ _) (sx_b _ _) hk (hR.hc hn) hR.hu (hR.ok.ub hn) (s.heap.size + 193) fq (fun k hk => by have := qo_b s.heap.size hk; omega)) (vx_cwSW 4 hts gL_law_L_tag rfl rfl rfl vdL_tag.2 ⟨Nat.le_of_ble_eq_true rfl, Nat.le_of_ble_eq_true rfl⟩) ⟨hQ, hA⟩ hK hX hS (fun q h => la_193 h) rfl hl.1 rfl dL_law_928 ⟨by omega, by omega⟩ (Nat.le_of_ble_eq_true rfl) (fun H locs hQA hsz hoth hS => ?_)
    obtain ⟨hQ, hA⟩ := hQA
    have hW := hW.kp (fun k hk => hoth _ (hW.lt k hk) (lb_193 hk))
    have hD := hD.kp (hoth _ hD.lt lc_193)
    refine lv_istore (pc := 931) (lv' := [(6, .int (iI (0))), (0, .ref (b)), (1, .ref (qo s.heap.size 0)), (2, .ref (s.heap.size + 187 + 0)), (3, .ref (s.heap.size + 193)), (4, .ref (s.heap.size + 194)), (5, .int (iI (i)))]) E.1 E.2 dL_law_931 hl (by decide) rfl (fun ls hl => ?_)
    refine lv_aload_n (pc := 933) E.1 E.2 dL_law_933 rfl (lv_at hl 3 rfl) ?_
    refine lv_aload_n (pc := 934) E.1 E.2 dL_law_934 rfl (lv_at hl 1 rfl) ?_
    refine lv_iload (pc := 935) E.1 E.2 dL_law_935 (lv_at hl 6 rfl) ?_
    refine z_iconst (pc := 937) E dL_law_937 ?_
    refine z_iadd (pc := 938) E dL_law_938 ?_
    refine z_sld (pc := 939) E hx hb hbA hS ⟨by omega, by omega⟩ hL dL_law_939 ?_
    refine lv_aload_n (pc := 940) E.1 E.2 dL_law_940 rfl (lv_at hl 1 rfl) ?_
    refine lv_iload (pc := 941) E.1 E.2 dL_law_941 (lv_at hl 6 rfl) ?_
    refine z_iconst (pc := 943) E dL_law_943 ?_
    refine z_iadd (pc := 944) E dL_law_944 ?_
    refine z_sld (pc := 945) E hx hb hbA hS ⟨by omega, by omega⟩ hL dL_law_945 ?_
    refine z_wVi (pc := 946) (As := [.int (iI (sx xs (i + 1))), .int (iI (sx xs (i + 2)))]) (rest := []) E hml hown hts (mX8_tag l G (fun k => s.heap.size + 187 + k) μ σ φ κ β ω (sx xs (i + 1)) (sx xs (i + 2)) hR.ok.1 (sx_b _ _) (sx_b _ _) hR.m3 (hR.ok.ub hn)) (cwV 2 hts gL_law_X8_tag rfl rfl rfl vdX8_tag ⟨Nat.le_of_ble_eq_true rfl, Nat.le_of_ble_eq_true rfl⟩) (hW.1.recv hK rfl) hW hK hS (fun q h => la_8 h) rfl hl.1 rfl dL_law_946 ⟨by omega, by omega⟩ (Nat.le_of_ble_eq_true rfl) (fun H locs hW hsz hoth hS => ?_)
    have hQ := hQ.kp (fun k hk => hoth _ (hQ.lt k hk) (lb_8 hk))
    have hA := hA.kp (hoth _ hA.lt le_193)
    have hD := hD.kp (hoth _ hD.lt le_194)
    have hk8 := hk
    try simp only [if_pos hk8] at hW
    refine lv_istore (pc := 949) (lv' := [(7, .int (iI ((if (kxTag σ (sx xs (i + 1)) (sx xs (i + 2))) = 0 then axTag σ (sx xs (i + 1)) (sx xs (i + 2)) else 0)))), (6, .int (iI (0))), (0, .ref (b)), (1, .ref (qo s.heap.size 0)), (2, .ref (s.heap.size + 187 + 0)), (3, .ref (s.heap.size + 193)), (4, .ref (s.heap.size + 194)), (5, .int (iI (i)))]) E.1 E.2 dL_law_949 hl (by decide) rfl (fun ls hl => ?_)
    refine lv_aload_n (pc := 951) E.1 E.2 dL_law_951 rfl (lv_at hl 4 rfl) ?_
    refine z_rVi (pc := 952) (As := []) (rest := []) E hml hown hts (mX8_thrown l G (fun k => s.heap.size + 187 + k) _ _ _ _ _ _) (cwV 0 hts gL_law_X8_thrown rfl rfl rfl vdX8_thrown ⟨Nat.le_of_ble_eq_true rfl, Nat.le_of_ble_eq_true rfl⟩) (hW.1.recv hK rfl) hW hK rfl hl.1 rfl dL_law_952 ⟨by omega, by omega⟩ (Nat.le_of_ble_eq_true rfl) ?_
    refine lv_iload (pc := 955) E.1 E.2 dL_law_955 (lv_at hl 1 rfl) ?_
    refine z_same (pc := 957) (tgt := 962) E hk8 dL_law_957 (by decide) ?_
    refine lv_iload (pc := 962) E.1 E.2 dL_law_962 (lv_at hl 1 rfl) ?_
    refine z_if_ne (pc := 964) (tgt := 979) E (by decide) dL_law_964 (by decide) (fun h => absurd rfl h) (fun _ => ?_)
    refine lv_aload_n (pc := 967) E.1 E.2 dL_law_967 rfl (lv_at hl 5 rfl) ?_
    refine z_iconst (pc := 968) E dL_law_968 ?_
    refine z_laloadE (pc := 969) E hK hA (by decide) (by decide) (show zu fq 0 (rI ((axTag σ (sx xs (i + 1)) (sx xs (i + 2))))) 0 = rI ((axTag σ (sx xs (i + 1)) (sx xs (i + 2)))) from if_pos rfl) dL_law_969 ?_
    refine lv_iload (pc := 970) E.1 E.2 dL_law_970 (lv_at hl 0 rfl) ?_
    refine z_i2lR (pc := 972) E dL_law_972 ?_
    refine z_sameL (pc := 973) (tgt := 979) E (if_pos hk8).symm dL_law_973 dL_law_974 (by decide) ?_
    refine lv_goto (pc := 979) (tgt := 2822) E.1 E.2 dL_law_979 (by decide) ?_
    refine W.widen (k := cells + 1) (n := slots + 6) (by omega) (by omega) ?_
    exact kk H locs ls ⟨⟨_, _, _, _, _, _, _, _, _, hQ, hW, hR.wr (ok_Tag hR.ok hn hk) rfl rfl hR.e6 hR.m6 rfl hR.e14 rfl rfl⟩, ⟨_, hA⟩, ⟨_, hD⟩⟩ hS (lv_sub hl [2, 3, 4, 5, 6, 7] rfl)
  · refine z_lwc (pc := 928) (As := [.ref (qo s.heap.size 0), .int (iI (sx xs (i + 1))), .int (iI (sx xs (i + 2))), .ref (s.heap.size + 193)]) (rest := []) E hml hown hts (mbL_tag l hst G (qo s.heap.size) ν σ π δ (fun j => sg8 (β j)) ω (sx xs (i + 1)) (sx xs (i + 2)) hR.ok.1 (sx_b _ _) (sx_b _ _) hk (s.heap.size + 193) fq) (vx_cwSW 4 hts gL_law_L_tag rfl rfl rfl vdL_tag.2 ⟨Nat.le_of_ble_eq_true rfl, Nat.le_of_ble_eq_true rfl⟩) ⟨hQ, hA⟩ hK hX hS (fun q h => h.elim) rfl hl.1 rfl dL_law_928 ⟨by omega, by omega⟩ (Nat.le_of_ble_eq_true rfl) (fun H locs hQA hsz hoth hS => ?_)
    obtain ⟨hQ, hA⟩ := hQA
    have hW := hW.kp (fun k hk => hoth _ (hW.lt k hk) (fun h => h))
    have hD := hD.kp (hoth _ hD.lt (fun h => h))
    have hkb : -2147483648 ≤ (kxTag σ (sx xs (i + 1)) (sx xs (i + 2))) ∧ (kxTag σ (sx xs (i + 1)) (sx xs (i + 2))) < 2147483648 := by unfold kxTag; (try unfold kxPK); (repeat' split) <;> decide
    have hkn : ¬ (kxTag σ (sx xs (i + 1)) (sx xs (i + 2))) = 0 := hk
    refine lv_istore (pc := 931) (lv' := [(6, .int (iI ((kxTag σ (sx xs (i + 1)) (sx xs (i + 2)))))), (0, .ref (b)), (1, .ref (qo s.heap.size 0)), (2, .ref (s.heap.size + 187 + 0)), (3, .ref (s.heap.size + 193)), (4, .ref (s.heap.size + 194)), (5, .int (iI (i)))]) E.1 E.2 dL_law_931 hl (by decide) rfl (fun ls hl => ?_)
    refine lv_aload_n (pc := 933) E.1 E.2 dL_law_933 rfl (lv_at hl 3 rfl) ?_
    refine lv_aload_n (pc := 934) E.1 E.2 dL_law_934 rfl (lv_at hl 1 rfl) ?_
    refine lv_iload (pc := 935) E.1 E.2 dL_law_935 (lv_at hl 6 rfl) ?_
    refine z_iconst (pc := 937) E dL_law_937 ?_
    refine z_iadd (pc := 938) E dL_law_938 ?_
    refine z_sld (pc := 939) E hx hb hbA hS ⟨by omega, by omega⟩ hL dL_law_939 ?_
    refine lv_aload_n (pc := 940) E.1 E.2 dL_law_940 rfl (lv_at hl 1 rfl) ?_
    refine lv_iload (pc := 941) E.1 E.2 dL_law_941 (lv_at hl 6 rfl) ?_
    refine z_iconst (pc := 943) E dL_law_943 ?_
    refine z_iadd (pc := 944) E dL_law_944 ?_
    refine z_sld (pc := 945) E hx hb hbA hS ⟨by omega, by omega⟩ hL dL_law_945 ?_
    refine z_wVi (pc := 946) (As := [.int (iI (sx xs (i + 1))), .int (iI (sx xs (i + 2)))]) (rest := []) E hml hown hts (mX8_tag l G (fun k => s.heap.size + 187 + k) μ σ φ κ β ω (sx xs (i + 1)) (sx xs (i + 2)) hR.ok.1 (sx_b _ _) (sx_b _ _) hR.m3 (hR.ok.ub hn)) (cwV 2 hts gL_law_X8_tag rfl rfl rfl vdX8_tag ⟨Nat.le_of_ble_eq_true rfl, Nat.le_of_ble_eq_true rfl⟩) (hW.1.recv hK rfl) hW hK hS (fun q h => la_8 h) rfl hl.1 rfl dL_law_946 ⟨by omega, by omega⟩ (Nat.le_of_ble_eq_true rfl) (fun H locs hW hsz hoth hS => ?_)
    have hQ := hQ.kp (fun k hk => hoth _ (hQ.lt k hk) (lb_8 hk))
    have hA := hA.kp (hoth _ hA.lt le_193)
    have hD := hD.kp (hoth _ hD.lt le_194)
    have hk8 := hk
    try simp only [if_neg hk8] at hW
    refine lv_istore (pc := 949) (lv' := [(7, .int (iI ((if (kxTag σ (sx xs (i + 1)) (sx xs (i + 2))) = 0 then axTag σ (sx xs (i + 1)) (sx xs (i + 2)) else 0)))), (6, .int (iI ((kxTag σ (sx xs (i + 1)) (sx xs (i + 2)))))), (0, .ref (b)), (1, .ref (qo s.heap.size 0)), (2, .ref (s.heap.size + 187 + 0)), (3, .ref (s.heap.size + 193)), (4, .ref (s.heap.size + 194)), (5, .int (iI (i)))]) E.1 E.2 dL_law_949 hl (by decide) rfl (fun ls hl => ?_)
    refine lv_aload_n (pc := 951) E.1 E.2 dL_law_951 rfl (lv_at hl 4 rfl) ?_
    refine z_rVi (pc := 952) (As := []) (rest := []) E hml hown hts (mX8_thrown l G (fun k => s.heap.size + 187 + k) _ _ _ _ _ _) (cwV 0 hts gL_law_X8_thrown rfl rfl rfl vdX8_thrown ⟨Nat.le_of_ble_eq_true rfl, Nat.le_of_ble_eq_true rfl⟩) (hW.1.recv hK rfl) hW hK rfl hl.1 rfl dL_law_952 ⟨by omega, by omega⟩ (Nat.le_of_ble_eq_true rfl) ?_
    refine lv_iload (pc := 955) E.1 E.2 dL_law_955 (lv_at hl 1 rfl) ?_
    refine z_same (pc := 957) (tgt := 962) E rfl dL_law_957 (by decide) ?_
    refine lv_iload (pc := 962) E.1 E.2 dL_law_962 (lv_at hl 1 rfl) ?_
    refine z_if_ne (pc := 964) (tgt := 979) E hkb dL_law_964 (by decide) (fun _ => ?_) (fun h => absurd h hkn)
    refine lv_goto (pc := 979) (tgt := 2822) E.1 E.2 dL_law_979 (by decide) ?_
    refine W.widen (k := cells + 1) (n := slots + 6) (by omega) (by omega) ?_
    exact kk H locs ls ⟨⟨_, _, _, _, _, _, _, _, _, hQ, hW, hR.id rfl rfl rfl rfl⟩, ⟨_, hA⟩, ⟨_, hD⟩⟩ hS (lv_sub hl [2, 3, 4, 5, 6, 7] rfl)
set_option maxHeartbeats 1000000 in
set_option maxRecDepth 100000 in
theorem cs_moveReason {p : Program} {l : Launch} {e : Env} {s : State} {m : MethodId} {below : List Frame} {meth : Method} {c : Code} {G : GG} {b L : Nat} {xs : Nat → Int32} {aK aV : Nat → Nat} (X : LX p l s m c G b L xs aK aV) {n : Nat} {i : Int} {H : Heap} {locs : List Loc} {ls : Array Slot} {cells slots : Nat} {Q : State → Prop} (hn : n ≤ 600) (hi : 0 ≤ i ∧ i + 6 ≤ (L : Int)) (hH : LH G n s.heap.size H) (hS : va_S (fun q => s.heap.size ≤ q) s.heap H locs) (hl : lv_has ls 8 [(0, .ref b), (1, .ref (qo s.heap.size 0)), (2, .ref (s.heap.size + 187 + 0)), (3, .ref (s.heap.size + 193)), (4, .ref (s.heap.size + 194)), (5, .int (iI i))]) (hc : cells + 1 ≤ room_1.cells) (hsl : slots + 6 ≤ room_1.slots) (kk : ∀ (H : Heap) (locs : List Loc) (ls : Array Slot), LH G (n + 1) s.heap.size H → va_S (fun q => s.heap.size ≤ q) s.heap H locs → lv_has ls 8 [(0, .ref b), (1, .ref (qo s.heap.size 0)), (2, .ref (s.heap.size + 187 + 0)), (3, .ref (s.heap.size + 193)), (4, .ref (s.heap.size + 194)), (5, .int (iI i))] → W p l e room_1 s m #[Value.ref b] below meth c H locs (cells + 1) (slots + 6) Q (F0 m 2822 ls [])) : W p l e room_1 s m #[Value.ref b] below meth c H locs cells slots Q (F0 m 982 ls []) := by
  obtain ⟨E, hml, hown, hts, hK, hX0, hx, hb, hst, hL, hks⟩ := X
  obtain ⟨⟨ν, σ, π, δ, β, ω, μ, φ, κ, hQ, hW, hR⟩, ⟨fq, hA⟩, ⟨xq, hD⟩⟩ := hH
  have hX : KX FF0 s H := (hX0.kept (fun a ha hna => hS.2.1 a ha hna)).narrow (fun q h => h.elim)
  have hbA : ¬ (s.heap.size ≤ b) := by omega
  refine lv_aload_n (pc := 982) E.1 E.2 dL_law_982 rfl (lv_at hl 1 rfl) ?_
  refine lv_aload_n (pc := 983) E.1 E.2 dL_law_983 rfl (lv_at hl 0 rfl) ?_
  refine lv_iload (pc := 984) E.1 E.2 dL_law_984 (lv_at hl 5 rfl) ?_
  refine z_iconst (pc := 986) E dL_law_986 ?_
  refine z_iadd (pc := 987) E dL_law_987 ?_
  refine z_sld (pc := 988) E hx hb hbA hS ⟨by omega, by omega⟩ hL dL_law_988 ?_
  refine lv_aload_n (pc := 989) E.1 E.2 dL_law_989 rfl (lv_at hl 0 rfl) ?_
  refine lv_iload (pc := 990) E.1 E.2 dL_law_990 (lv_at hl 5 rfl) ?_
  refine z_iconst (pc := 992) E dL_law_992 ?_
  refine z_iadd (pc := 993) E dL_law_993 ?_
  refine z_sld (pc := 994) E hx hb hbA hS ⟨by omega, by omega⟩ hL dL_law_994 ?_
  refine lv_aload_n (pc := 995) E.1 E.2 dL_law_995 rfl (lv_at hl 3 rfl) ?_
  by_cases hk : (kxMoveR σ (sx xs (i + 1)) (sx xs (i + 2))) = 0
  · refine z_lwc (pc := 996) (As := [.ref (qo s.heap.size 0), .int (iI (sx xs (i + 1))), .int (iI (sx xs (i + 2))), .ref (s.heap.size + 193)]) (rest := []) E hml hown hts (mL_moveReason l G (qo s.heap.size) ν σ π δ (fun j => sg8 (β j)) ω (sx xs (i + 1)) (sx xs (i + 2)) hR.ok.1 (sx_b _ _) (sx_b _ _) hk (s.heap.size + 193) fq (fun k hk => by have := qo_b s.heap.size hk; omega)) (vx_cwSW 4 hts gL_law_L_moveReason rfl rfl rfl vdL_moveReason.2 ⟨Nat.le_of_ble_eq_true rfl, Nat.le_of_ble_eq_true rfl⟩) ⟨hQ, hA⟩ hK hX hS (fun q h => la_193 h) rfl hl.1 rfl dL_law_996 ⟨by omega, by omega⟩ (Nat.le_of_ble_eq_true rfl) (fun H locs hQA hsz hoth hS => ?_)
    obtain ⟨hQ, hA⟩ := hQA
    have hW := hW.kp (fun k hk => hoth _ (hW.lt k hk) (lb_193 hk))
    have hD := hD.kp (hoth _ hD.lt lc_193)
    refine lv_istore (pc := 999) (lv' := [(6, .int (iI (0))), (0, .ref (b)), (1, .ref (qo s.heap.size 0)), (2, .ref (s.heap.size + 187 + 0)), (3, .ref (s.heap.size + 193)), (4, .ref (s.heap.size + 194)), (5, .int (iI (i)))]) E.1 E.2 dL_law_999 hl (by decide) rfl (fun ls hl => ?_)
    refine lv_aload_n (pc := 1001) E.1 E.2 dL_law_1001 rfl (lv_at hl 3 rfl) ?_
    refine lv_aload_n (pc := 1002) E.1 E.2 dL_law_1002 rfl (lv_at hl 1 rfl) ?_
    refine lv_iload (pc := 1003) E.1 E.2 dL_law_1003 (lv_at hl 6 rfl) ?_
    refine z_iconst (pc := 1005) E dL_law_1005 ?_
    refine z_iadd (pc := 1006) E dL_law_1006 ?_
    refine z_sld (pc := 1007) E hx hb hbA hS ⟨by omega, by omega⟩ hL dL_law_1007 ?_
    refine lv_aload_n (pc := 1008) E.1 E.2 dL_law_1008 rfl (lv_at hl 1 rfl) ?_
    refine lv_iload (pc := 1009) E.1 E.2 dL_law_1009 (lv_at hl 6 rfl) ?_
    refine z_iconst (pc := 1011) E dL_law_1011 ?_
    refine z_iadd (pc := 1012) E dL_law_1012 ?_
    refine z_sld (pc := 1013) E hx hb hbA hS ⟨by omega, by omega⟩ hL dL_law_1013 ?_
    refine z_wVi (pc := 1014) (As := [.int (iI (sx xs (i + 1))), .int (iI (sx xs (i + 2)))]) (rest := []) E hml hown hts (mX8_moveReason l G (fun k => s.heap.size + 187 + k) μ σ φ κ β ω (sx xs (i + 1)) (sx xs (i + 2)) hR.ok.1 (sx_b _ _) (sx_b _ _)) (cwV 2 hts gL_law_X8_moveReason rfl rfl rfl vdX8_moveReason ⟨Nat.le_of_ble_eq_true rfl, Nat.le_of_ble_eq_true rfl⟩) (hW.1.recv hK rfl) hW hK hS (fun q h => la_8 h) rfl hl.1 rfl dL_law_1014 ⟨by omega, by omega⟩ (Nat.le_of_ble_eq_true rfl) (fun H locs hW hsz hoth hS => ?_)
    have hQ := hQ.kp (fun k hk => hoth _ (hQ.lt k hk) (lb_8 hk))
    have hA := hA.kp (hoth _ hA.lt le_193)
    have hD := hD.kp (hoth _ hD.lt le_194)
    have hk8 := hk
    try simp only [if_pos hk8] at hW
    refine lv_istore (pc := 1017) (lv' := [(7, .int (iI ((if (kxMoveR σ (sx xs (i + 1)) (sx xs (i + 2))) = 0 then rmS σ (sx xs (i + 1)) (sx xs (i + 2)) else 0)))), (6, .int (iI (0))), (0, .ref (b)), (1, .ref (qo s.heap.size 0)), (2, .ref (s.heap.size + 187 + 0)), (3, .ref (s.heap.size + 193)), (4, .ref (s.heap.size + 194)), (5, .int (iI (i)))]) E.1 E.2 dL_law_1017 hl (by decide) rfl (fun ls hl => ?_)
    refine lv_aload_n (pc := 1019) E.1 E.2 dL_law_1019 rfl (lv_at hl 4 rfl) ?_
    refine z_rVi (pc := 1020) (As := []) (rest := []) E hml hown hts (mX8_thrown l G (fun k => s.heap.size + 187 + k) _ _ _ _ _ _) (cwV 0 hts gL_law_X8_thrown rfl rfl rfl vdX8_thrown ⟨Nat.le_of_ble_eq_true rfl, Nat.le_of_ble_eq_true rfl⟩) (hW.1.recv hK rfl) hW hK rfl hl.1 rfl dL_law_1020 ⟨by omega, by omega⟩ (Nat.le_of_ble_eq_true rfl) ?_
    refine lv_iload (pc := 1023) E.1 E.2 dL_law_1023 (lv_at hl 1 rfl) ?_
    refine z_same (pc := 1025) (tgt := 1030) E hk8 dL_law_1025 (by decide) ?_
    refine lv_iload (pc := 1030) E.1 E.2 dL_law_1030 (lv_at hl 1 rfl) ?_
    refine z_if_ne (pc := 1032) (tgt := 1047) E (by decide) dL_law_1032 (by decide) (fun h => absurd rfl h) (fun _ => ?_)
    refine lv_aload_n (pc := 1035) E.1 E.2 dL_law_1035 rfl (lv_at hl 5 rfl) ?_
    refine z_iconst (pc := 1036) E dL_law_1036 ?_
    refine z_laloadE (pc := 1037) E hK hA (by decide) (by decide) (show zu fq 0 (rI ((rmS σ (sx xs (i + 1)) (sx xs (i + 2))))) 0 = rI ((rmS σ (sx xs (i + 1)) (sx xs (i + 2)))) from if_pos rfl) dL_law_1037 ?_
    refine lv_iload (pc := 1038) E.1 E.2 dL_law_1038 (lv_at hl 0 rfl) ?_
    refine z_i2lR (pc := 1040) E dL_law_1040 ?_
    refine z_sameL (pc := 1041) (tgt := 1047) E (if_pos hk8).symm dL_law_1041 dL_law_1042 (by decide) ?_
    refine lv_goto (pc := 1047) (tgt := 2822) E.1 E.2 dL_law_1047 (by decide) ?_
    refine W.widen (k := cells + 1) (n := slots + 6) (by omega) (by omega) ?_
    exact kk H locs ls ⟨⟨_, _, _, _, _, _, _, _, _, hQ, hW, hR.id rfl rfl rfl rfl⟩, ⟨_, hA⟩, ⟨_, hD⟩⟩ hS (lv_sub hl [2, 3, 4, 5, 6, 7] rfl)
  · refine z_lwc (pc := 996) (As := [.ref (qo s.heap.size 0), .int (iI (sx xs (i + 1))), .int (iI (sx xs (i + 2))), .ref (s.heap.size + 193)]) (rest := []) E hml hown hts (mbL_moveReason l hst G (qo s.heap.size) ν σ π δ (fun j => sg8 (β j)) ω (sx xs (i + 1)) (sx xs (i + 2)) hR.ok.1 (sx_b _ _) (sx_b _ _) hk (s.heap.size + 193) fq) (vx_cwSW 4 hts gL_law_L_moveReason rfl rfl rfl vdL_moveReason.2 ⟨Nat.le_of_ble_eq_true rfl, Nat.le_of_ble_eq_true rfl⟩) ⟨hQ, hA⟩ hK hX hS (fun q h => h.elim) rfl hl.1 rfl dL_law_996 ⟨by omega, by omega⟩ (Nat.le_of_ble_eq_true rfl) (fun H locs hQA hsz hoth hS => ?_)
    obtain ⟨hQ, hA⟩ := hQA
    have hW := hW.kp (fun k hk => hoth _ (hW.lt k hk) (fun h => h))
    have hD := hD.kp (hoth _ hD.lt (fun h => h))
    have hkb : -2147483648 ≤ (kxMoveR σ (sx xs (i + 1)) (sx xs (i + 2))) ∧ (kxMoveR σ (sx xs (i + 1)) (sx xs (i + 2))) < 2147483648 := by unfold kxMoveR; (try unfold kxPK); (repeat' split) <;> decide
    have hkn : ¬ (kxMoveR σ (sx xs (i + 1)) (sx xs (i + 2))) = 0 := hk
    refine lv_istore (pc := 999) (lv' := [(6, .int (iI ((kxMoveR σ (sx xs (i + 1)) (sx xs (i + 2)))))), (0, .ref (b)), (1, .ref (qo s.heap.size 0)), (2, .ref (s.heap.size + 187 + 0)), (3, .ref (s.heap.size + 193)), (4, .ref (s.heap.size + 194)), (5, .int (iI (i)))]) E.1 E.2 dL_law_999 hl (by decide) rfl (fun ls hl => ?_)
    refine lv_aload_n (pc := 1001) E.1 E.2 dL_law_1001 rfl (lv_at hl 3 rfl) ?_
    refine lv_aload_n (pc := 1002) E.1 E.2 dL_law_1002 rfl (lv_at hl 1 rfl) ?_
    refine lv_iload (pc := 1003) E.1 E.2 dL_law_1003 (lv_at hl 6 rfl) ?_
    refine z_iconst (pc := 1005) E dL_law_1005 ?_
    refine z_iadd (pc := 1006) E dL_law_1006 ?_
    refine z_sld (pc := 1007) E hx hb hbA hS ⟨by omega, by omega⟩ hL dL_law_1007 ?_
    refine lv_aload_n (pc := 1008) E.1 E.2 dL_law_1008 rfl (lv_at hl 1 rfl) ?_
    refine lv_iload (pc := 1009) E.1 E.2 dL_law_1009 (lv_at hl 6 rfl) ?_
    refine z_iconst (pc := 1011) E dL_law_1011 ?_
    refine z_iadd (pc := 1012) E dL_law_1012 ?_
    refine z_sld (pc := 1013) E hx hb hbA hS ⟨by omega, by omega⟩ hL dL_law_1013 ?_
    refine z_wVi (pc := 1014) (As := [.int (iI (sx xs (i + 1))), .int (iI (sx xs (i + 2)))]) (rest := []) E hml hown hts (mX8_moveReason l G (fun k => s.heap.size + 187 + k) μ σ φ κ β ω (sx xs (i + 1)) (sx xs (i + 2)) hR.ok.1 (sx_b _ _) (sx_b _ _)) (cwV 2 hts gL_law_X8_moveReason rfl rfl rfl vdX8_moveReason ⟨Nat.le_of_ble_eq_true rfl, Nat.le_of_ble_eq_true rfl⟩) (hW.1.recv hK rfl) hW hK hS (fun q h => la_8 h) rfl hl.1 rfl dL_law_1014 ⟨by omega, by omega⟩ (Nat.le_of_ble_eq_true rfl) (fun H locs hW hsz hoth hS => ?_)
    have hQ := hQ.kp (fun k hk => hoth _ (hQ.lt k hk) (lb_8 hk))
    have hA := hA.kp (hoth _ hA.lt le_193)
    have hD := hD.kp (hoth _ hD.lt le_194)
    have hk8 := hk
    try simp only [if_neg hk8] at hW
    refine lv_istore (pc := 1017) (lv' := [(7, .int (iI ((if (kxMoveR σ (sx xs (i + 1)) (sx xs (i + 2))) = 0 then rmS σ (sx xs (i + 1)) (sx xs (i + 2)) else 0)))), (6, .int (iI ((kxMoveR σ (sx xs (i + 1)) (sx xs (i + 2)))))), (0, .ref (b)), (1, .ref (qo s.heap.size 0)), (2, .ref (s.heap.size + 187 + 0)), (3, .ref (s.heap.size + 193)), (4, .ref (s.heap.size + 194)), (5, .int (iI (i)))]) E.1 E.2 dL_law_1017 hl (by decide) rfl (fun ls hl => ?_)
    refine lv_aload_n (pc := 1019) E.1 E.2 dL_law_1019 rfl (lv_at hl 4 rfl) ?_
    refine z_rVi (pc := 1020) (As := []) (rest := []) E hml hown hts (mX8_thrown l G (fun k => s.heap.size + 187 + k) _ _ _ _ _ _) (cwV 0 hts gL_law_X8_thrown rfl rfl rfl vdX8_thrown ⟨Nat.le_of_ble_eq_true rfl, Nat.le_of_ble_eq_true rfl⟩) (hW.1.recv hK rfl) hW hK rfl hl.1 rfl dL_law_1020 ⟨by omega, by omega⟩ (Nat.le_of_ble_eq_true rfl) ?_
    refine lv_iload (pc := 1023) E.1 E.2 dL_law_1023 (lv_at hl 1 rfl) ?_
    refine z_same (pc := 1025) (tgt := 1030) E rfl dL_law_1025 (by decide) ?_
    refine lv_iload (pc := 1030) E.1 E.2 dL_law_1030 (lv_at hl 1 rfl) ?_
    refine z_if_ne (pc := 1032) (tgt := 1047) E hkb dL_law_1032 (by decide) (fun _ => ?_) (fun h => absurd h hkn)
    refine lv_goto (pc := 1047) (tgt := 2822) E.1 E.2 dL_law_1047 (by decide) ?_
    refine W.widen (k := cells + 1) (n := slots + 6) (by omega) (by omega) ?_
    exact kk H locs ls ⟨⟨_, _, _, _, _, _, _, _, _, hQ, hW, hR.id rfl rfl rfl rfl⟩, ⟨_, hA⟩, ⟨_, hD⟩⟩ hS (lv_sub hl [2, 3, 4, 5, 6, 7] rfl)
set_option maxHeartbeats 1000000 in
set_option maxRecDepth 100000 in
theorem cs_moveFolder {p : Program} {l : Launch} {e : Env} {s : State} {m : MethodId} {below : List Frame} {meth : Method} {c : Code} {G : GG} {b L : Nat} {xs : Nat → Int32} {aK aV : Nat → Nat} (X : LX p l s m c G b L xs aK aV) {n : Nat} {i : Int} {H : Heap} {locs : List Loc} {ls : Array Slot} {cells slots : Nat} {Q : State → Prop} (hn : n ≤ 600) (hi : 0 ≤ i ∧ i + 6 ≤ (L : Int)) (hH : LH G n s.heap.size H) (hS : va_S (fun q => s.heap.size ≤ q) s.heap H locs) (hl : lv_has ls 8 [(0, .ref b), (1, .ref (qo s.heap.size 0)), (2, .ref (s.heap.size + 187 + 0)), (3, .ref (s.heap.size + 193)), (4, .ref (s.heap.size + 194)), (5, .int (iI i))]) (hc : cells + 1 ≤ room_1.cells) (hsl : slots + 6 ≤ room_1.slots) (kk : ∀ (H : Heap) (locs : List Loc) (ls : Array Slot), LH G (n + 1) s.heap.size H → va_S (fun q => s.heap.size ≤ q) s.heap H locs → lv_has ls 8 [(0, .ref b), (1, .ref (qo s.heap.size 0)), (2, .ref (s.heap.size + 187 + 0)), (3, .ref (s.heap.size + 193)), (4, .ref (s.heap.size + 194)), (5, .int (iI i))] → W p l e room_1 s m #[Value.ref b] below meth c H locs (cells + 1) (slots + 6) Q (F0 m 2822 ls [])) : W p l e room_1 s m #[Value.ref b] below meth c H locs cells slots Q (F0 m 1050 ls []) := by
  obtain ⟨E, hml, hown, hts, hK, hX0, hx, hb, hst, hL, hks⟩ := X
  obtain ⟨⟨ν, σ, π, δ, β, ω, μ, φ, κ, hQ, hW, hR⟩, ⟨fq, hA⟩, ⟨xq, hD⟩⟩ := hH
  have hX : KX FF0 s H := (hX0.kept (fun a ha hna => hS.2.1 a ha hna)).narrow (fun q h => h.elim)
  have hbA : ¬ (s.heap.size ≤ b) := by omega
  refine lv_aload_n (pc := 1050) E.1 E.2 dL_law_1050 rfl (lv_at hl 1 rfl) ?_
  refine lv_aload_n (pc := 1051) E.1 E.2 dL_law_1051 rfl (lv_at hl 0 rfl) ?_
  refine lv_iload (pc := 1052) E.1 E.2 dL_law_1052 (lv_at hl 5 rfl) ?_
  refine z_iconst (pc := 1054) E dL_law_1054 ?_
  refine z_iadd (pc := 1055) E dL_law_1055 ?_
  refine z_sld (pc := 1056) E hx hb hbA hS ⟨by omega, by omega⟩ hL dL_law_1056 ?_
  refine lv_aload_n (pc := 1057) E.1 E.2 dL_law_1057 rfl (lv_at hl 0 rfl) ?_
  refine lv_iload (pc := 1058) E.1 E.2 dL_law_1058 (lv_at hl 5 rfl) ?_
  refine z_iconst (pc := 1060) E dL_law_1060 ?_
  refine z_iadd (pc := 1061) E dL_law_1061 ?_
  refine z_sld (pc := 1062) E hx hb hbA hS ⟨by omega, by omega⟩ hL dL_law_1062 ?_
  refine lv_aload_n (pc := 1063) E.1 E.2 dL_law_1063 rfl (lv_at hl 3 rfl) ?_
  by_cases hk : (kxMove σ (sx xs (i + 1)) (sx xs (i + 2))) = 0
  · refine z_lwc (pc := 1064) (As := [.ref (qo s.heap.size 0), .int (iI (sx xs (i + 1))), .int (iI (sx xs (i + 2))), .ref (s.heap.size + 193)]) (rest := []) E hml hown hts (mL_moveFolder l G (qo s.heap.size) ν σ π δ (fun j => sg8 (β j)) ω (sx xs (i + 1)) (sx xs (i + 2)) hR.ok.1 (sx_b _ _) (sx_b _ _) hk (hR.hc hn) hR.hu (hR.ok.ub hn) (s.heap.size + 193) fq (fun k hk => by have := qo_b s.heap.size hk; omega)) (vx_cwSW 4 hts gL_law_L_moveFolder rfl rfl rfl vdL_moveFolder.2 ⟨Nat.le_of_ble_eq_true rfl, Nat.le_of_ble_eq_true rfl⟩) ⟨hQ, hA⟩ hK hX hS (fun q h => la_193 h) rfl hl.1 rfl dL_law_1064 ⟨by omega, by omega⟩ (Nat.le_of_ble_eq_true rfl) (fun H locs hQA hsz hoth hS => ?_)
    obtain ⟨hQ, hA⟩ := hQA
    have hW := hW.kp (fun k hk => hoth _ (hW.lt k hk) (lb_193 hk))
    have hD := hD.kp (hoth _ hD.lt lc_193)
    refine lv_istore (pc := 1067) (lv' := [(6, .int (iI (0))), (0, .ref (b)), (1, .ref (qo s.heap.size 0)), (2, .ref (s.heap.size + 187 + 0)), (3, .ref (s.heap.size + 193)), (4, .ref (s.heap.size + 194)), (5, .int (iI (i)))]) E.1 E.2 dL_law_1067 hl (by decide) rfl (fun ls hl => ?_)
    refine lv_aload_n (pc := 1069) E.1 E.2 dL_law_1069 rfl (lv_at hl 3 rfl) ?_
    refine lv_aload_n (pc := 1070) E.1 E.2 dL_law_1070 rfl (lv_at hl 1 rfl) ?_
    refine lv_iload (pc := 1071) E.1 E.2 dL_law_1071 (lv_at hl 6 rfl) ?_
    refine z_iconst (pc := 1073) E dL_law_1073 ?_
    refine z_iadd (pc := 1074) E dL_law_1074 ?_
    refine z_sld (pc := 1075) E hx hb hbA hS ⟨by omega, by omega⟩ hL dL_law_1075 ?_
    refine lv_aload_n (pc := 1076) E.1 E.2 dL_law_1076 rfl (lv_at hl 1 rfl) ?_
    refine lv_iload (pc := 1077) E.1 E.2 dL_law_1077 (lv_at hl 6 rfl) ?_
    refine z_iconst (pc := 1079) E dL_law_1079 ?_
    refine z_iadd (pc := 1080) E dL_law_1080 ?_
    refine z_sld (pc := 1081) E hx hb hbA hS ⟨by omega, by omega⟩ hL dL_law_1081 ?_
    refine z_wVi (pc := 1082) (As := [.int (iI (sx xs (i + 1))), .int (iI (sx xs (i + 2)))]) (rest := []) E hml hown hts (mX8_moveFolder l G (fun k => s.heap.size + 187 + k) μ σ φ κ β ω (sx xs (i + 1)) (sx xs (i + 2)) hR.ok.1 (sx_b _ _) (sx_b _ _) hR.m3 (hR.ok.ub hn)) (cwV 2 hts gL_law_X8_moveFolder rfl rfl rfl vdX8_moveFolder ⟨Nat.le_of_ble_eq_true rfl, Nat.le_of_ble_eq_true rfl⟩) (hW.1.recv hK rfl) hW hK hS (fun q h => la_8 h) rfl hl.1 rfl dL_law_1082 ⟨by omega, by omega⟩ (Nat.le_of_ble_eq_true rfl) (fun H locs hW hsz hoth hS => ?_)
    have hQ := hQ.kp (fun k hk => hoth _ (hQ.lt k hk) (lb_8 hk))
    have hA := hA.kp (hoth _ hA.lt le_193)
    have hD := hD.kp (hoth _ hD.lt le_194)
    have hk8 := hk
    try simp only [if_pos hk8] at hW
    refine lv_istore (pc := 1085) (lv' := [(7, .int (iI ((if (kxMove σ (sx xs (i + 1)) (sx xs (i + 2))) = 0 then axMove σ (sx xs (i + 1)) (sx xs (i + 2)) else 0)))), (6, .int (iI (0))), (0, .ref (b)), (1, .ref (qo s.heap.size 0)), (2, .ref (s.heap.size + 187 + 0)), (3, .ref (s.heap.size + 193)), (4, .ref (s.heap.size + 194)), (5, .int (iI (i)))]) E.1 E.2 dL_law_1085 hl (by decide) rfl (fun ls hl => ?_)
    refine lv_aload_n (pc := 1087) E.1 E.2 dL_law_1087 rfl (lv_at hl 4 rfl) ?_
    refine z_rVi (pc := 1088) (As := []) (rest := []) E hml hown hts (mX8_thrown l G (fun k => s.heap.size + 187 + k) _ _ _ _ _ _) (cwV 0 hts gL_law_X8_thrown rfl rfl rfl vdX8_thrown ⟨Nat.le_of_ble_eq_true rfl, Nat.le_of_ble_eq_true rfl⟩) (hW.1.recv hK rfl) hW hK rfl hl.1 rfl dL_law_1088 ⟨by omega, by omega⟩ (Nat.le_of_ble_eq_true rfl) ?_
    refine lv_iload (pc := 1091) E.1 E.2 dL_law_1091 (lv_at hl 1 rfl) ?_
    refine z_same (pc := 1093) (tgt := 1098) E hk8 dL_law_1093 (by decide) ?_
    refine lv_iload (pc := 1098) E.1 E.2 dL_law_1098 (lv_at hl 1 rfl) ?_
    refine z_if_ne (pc := 1100) (tgt := 1115) E (by decide) dL_law_1100 (by decide) (fun h => absurd rfl h) (fun _ => ?_)
    refine lv_aload_n (pc := 1103) E.1 E.2 dL_law_1103 rfl (lv_at hl 5 rfl) ?_
    refine z_iconst (pc := 1104) E dL_law_1104 ?_
    refine z_laloadE (pc := 1105) E hK hA (by decide) (by decide) (show zu fq 0 (rI ((axMove σ (sx xs (i + 1)) (sx xs (i + 2))))) 0 = rI ((axMove σ (sx xs (i + 1)) (sx xs (i + 2)))) from if_pos rfl) dL_law_1105 ?_
    refine lv_iload (pc := 1106) E.1 E.2 dL_law_1106 (lv_at hl 0 rfl) ?_
    refine z_i2lR (pc := 1108) E dL_law_1108 ?_
    refine z_sameL (pc := 1109) (tgt := 1115) E (if_pos hk8).symm dL_law_1109 dL_law_1110 (by decide) ?_
    refine lv_goto (pc := 1115) (tgt := 2822) E.1 E.2 dL_law_1115 (by decide) ?_
    refine W.widen (k := cells + 1) (n := slots + 6) (by omega) (by omega) ?_
    exact kk H locs ls ⟨⟨_, _, _, _, _, _, _, _, _, hQ, hW, hR.wr (ok_Move hR.ok hn hk) rfl rfl hR.e6 hR.m6 rfl hR.e14 rfl rfl⟩, ⟨_, hA⟩, ⟨_, hD⟩⟩ hS (lv_sub hl [2, 3, 4, 5, 6, 7] rfl)
  · refine z_lwc (pc := 1064) (As := [.ref (qo s.heap.size 0), .int (iI (sx xs (i + 1))), .int (iI (sx xs (i + 2))), .ref (s.heap.size + 193)]) (rest := []) E hml hown hts (mbL_moveFolder l hst G (qo s.heap.size) ν σ π δ (fun j => sg8 (β j)) ω (sx xs (i + 1)) (sx xs (i + 2)) hR.ok.1 (sx_b _ _) (sx_b _ _) hk (s.heap.size + 193) fq) (vx_cwSW 4 hts gL_law_L_moveFolder rfl rfl rfl vdL_moveFolder.2 ⟨Nat.le_of_ble_eq_true rfl, Nat.le_of_ble_eq_true rfl⟩) ⟨hQ, hA⟩ hK hX hS (fun q h => h.elim) rfl hl.1 rfl dL_law_1064 ⟨by omega, by omega⟩ (Nat.le_of_ble_eq_true rfl) (fun H locs hQA hsz hoth hS => ?_)
    obtain ⟨hQ, hA⟩ := hQA
    have hW := hW.kp (fun k hk => hoth _ (hW.lt k hk) (fun h => h))
    have hD := hD.kp (hoth _ hD.lt (fun h => h))
    have hkb : -2147483648 ≤ (kxMove σ (sx xs (i + 1)) (sx xs (i + 2))) ∧ (kxMove σ (sx xs (i + 1)) (sx xs (i + 2))) < 2147483648 := by unfold kxMove; (try unfold kxPK); (repeat' split) <;> decide
    have hkn : ¬ (kxMove σ (sx xs (i + 1)) (sx xs (i + 2))) = 0 := hk
    refine lv_istore (pc := 1067) (lv' := [(6, .int (iI ((kxMove σ (sx xs (i + 1)) (sx xs (i + 2)))))), (0, .ref (b)), (1, .ref (qo s.heap.size 0)), (2, .ref (s.heap.size + 187 + 0)), (3, .ref (s.heap.size + 193)), (4, .ref (s.heap.size + 194)), (5, .int (iI (i)))]) E.1 E.2 dL_law_1067 hl (by decide) rfl (fun ls hl => ?_)
    refine lv_aload_n (pc := 1069) E.1 E.2 dL_law_1069 rfl (lv_at hl 3 rfl) ?_
    refine lv_aload_n (pc := 1070) E.1 E.2 dL_law_1070 rfl (lv_at hl 1 rfl) ?_
    refine lv_iload (pc := 1071) E.1 E.2 dL_law_1071 (lv_at hl 6 rfl) ?_
    refine z_iconst (pc := 1073) E dL_law_1073 ?_
    refine z_iadd (pc := 1074) E dL_law_1074 ?_
    refine z_sld (pc := 1075) E hx hb hbA hS ⟨by omega, by omega⟩ hL dL_law_1075 ?_
    refine lv_aload_n (pc := 1076) E.1 E.2 dL_law_1076 rfl (lv_at hl 1 rfl) ?_
    refine lv_iload (pc := 1077) E.1 E.2 dL_law_1077 (lv_at hl 6 rfl) ?_
    refine z_iconst (pc := 1079) E dL_law_1079 ?_
    refine z_iadd (pc := 1080) E dL_law_1080 ?_
    refine z_sld (pc := 1081) E hx hb hbA hS ⟨by omega, by omega⟩ hL dL_law_1081 ?_
    refine z_wVi (pc := 1082) (As := [.int (iI (sx xs (i + 1))), .int (iI (sx xs (i + 2)))]) (rest := []) E hml hown hts (mX8_moveFolder l G (fun k => s.heap.size + 187 + k) μ σ φ κ β ω (sx xs (i + 1)) (sx xs (i + 2)) hR.ok.1 (sx_b _ _) (sx_b _ _) hR.m3 (hR.ok.ub hn)) (cwV 2 hts gL_law_X8_moveFolder rfl rfl rfl vdX8_moveFolder ⟨Nat.le_of_ble_eq_true rfl, Nat.le_of_ble_eq_true rfl⟩) (hW.1.recv hK rfl) hW hK hS (fun q h => la_8 h) rfl hl.1 rfl dL_law_1082 ⟨by omega, by omega⟩ (Nat.le_of_ble_eq_true rfl) (fun H locs hW hsz hoth hS => ?_)
    have hQ := hQ.kp (fun k hk => hoth _ (hQ.lt k hk) (lb_8 hk))
    have hA := hA.kp (hoth _ hA.lt le_193)
    have hD := hD.kp (hoth _ hD.lt le_194)
    have hk8 := hk
    try simp only [if_neg hk8] at hW
    refine lv_istore (pc := 1085) (lv' := [(7, .int (iI ((if (kxMove σ (sx xs (i + 1)) (sx xs (i + 2))) = 0 then axMove σ (sx xs (i + 1)) (sx xs (i + 2)) else 0)))), (6, .int (iI ((kxMove σ (sx xs (i + 1)) (sx xs (i + 2)))))), (0, .ref (b)), (1, .ref (qo s.heap.size 0)), (2, .ref (s.heap.size + 187 + 0)), (3, .ref (s.heap.size + 193)), (4, .ref (s.heap.size + 194)), (5, .int (iI (i)))]) E.1 E.2 dL_law_1085 hl (by decide) rfl (fun ls hl => ?_)
    refine lv_aload_n (pc := 1087) E.1 E.2 dL_law_1087 rfl (lv_at hl 4 rfl) ?_
    refine z_rVi (pc := 1088) (As := []) (rest := []) E hml hown hts (mX8_thrown l G (fun k => s.heap.size + 187 + k) _ _ _ _ _ _) (cwV 0 hts gL_law_X8_thrown rfl rfl rfl vdX8_thrown ⟨Nat.le_of_ble_eq_true rfl, Nat.le_of_ble_eq_true rfl⟩) (hW.1.recv hK rfl) hW hK rfl hl.1 rfl dL_law_1088 ⟨by omega, by omega⟩ (Nat.le_of_ble_eq_true rfl) ?_
    refine lv_iload (pc := 1091) E.1 E.2 dL_law_1091 (lv_at hl 1 rfl) ?_
    refine z_same (pc := 1093) (tgt := 1098) E rfl dL_law_1093 (by decide) ?_
    refine lv_iload (pc := 1098) E.1 E.2 dL_law_1098 (lv_at hl 1 rfl) ?_
    refine z_if_ne (pc := 1100) (tgt := 1115) E hkb dL_law_1100 (by decide) (fun _ => ?_) (fun h => absurd h hkn)
    refine lv_goto (pc := 1115) (tgt := 2822) E.1 E.2 dL_law_1115 (by decide) ?_
    refine W.widen (k := cells + 1) (n := slots + 6) (by omega) (by omega) ?_
    exact kk H locs ls ⟨⟨_, _, _, _, _, _, _, _, _, hQ, hW, hR.id rfl rfl rfl rfl⟩, ⟨_, hA⟩, ⟨_, hD⟩⟩ hS (lv_sub hl [2, 3, 4, 5, 6, 7] rfl)
set_option maxHeartbeats 1000000 in
set_option maxRecDepth 100000 in
theorem cs_file {p : Program} {l : Launch} {e : Env} {s : State} {m : MethodId} {below : List Frame} {meth : Method} {c : Code} {G : GG} {b L : Nat} {xs : Nat → Int32} {aK aV : Nat → Nat} (X : LX p l s m c G b L xs aK aV) {n : Nat} {i : Int} {H : Heap} {locs : List Loc} {ls : Array Slot} {cells slots : Nat} {Q : State → Prop} (hn : n ≤ 600) (hi : 0 ≤ i ∧ i + 6 ≤ (L : Int)) (hH : LH G n s.heap.size H) (hS : va_S (fun q => s.heap.size ≤ q) s.heap H locs) (hl : lv_has ls 8 [(0, .ref b), (1, .ref (qo s.heap.size 0)), (2, .ref (s.heap.size + 187 + 0)), (3, .ref (s.heap.size + 193)), (4, .ref (s.heap.size + 194)), (5, .int (iI i))]) (hc : cells + 1 ≤ room_1.cells) (hsl : slots + 6 ≤ room_1.slots) (kk : ∀ (H : Heap) (locs : List Loc) (ls : Array Slot), LH G (n + 1) s.heap.size H → va_S (fun q => s.heap.size ≤ q) s.heap H locs → lv_has ls 8 [(0, .ref b), (1, .ref (qo s.heap.size 0)), (2, .ref (s.heap.size + 187 + 0)), (3, .ref (s.heap.size + 193)), (4, .ref (s.heap.size + 194)), (5, .int (iI i))] → W p l e room_1 s m #[Value.ref b] below meth c H locs (cells + 1) (slots + 6) Q (F0 m 2822 ls [])) : W p l e room_1 s m #[Value.ref b] below meth c H locs cells slots Q (F0 m 1118 ls []) := by
  obtain ⟨E, hml, hown, hts, hK, hX0, hx, hb, hst, hL, hks⟩ := X
  obtain ⟨⟨ν, σ, π, δ, β, ω, μ, φ, κ, hQ, hW, hR⟩, ⟨fq, hA⟩, ⟨xq, hD⟩⟩ := hH
  have hX : KX FF0 s H := (hX0.kept (fun a ha hna => hS.2.1 a ha hna)).narrow (fun q h => h.elim)
  have hbA : ¬ (s.heap.size ≤ b) := by omega
  refine lv_aload_n (pc := 1118) E.1 E.2 dL_law_1118 rfl (lv_at hl 1 rfl) ?_
  refine lv_aload_n (pc := 1119) E.1 E.2 dL_law_1119 rfl (lv_at hl 0 rfl) ?_
  refine lv_iload (pc := 1120) E.1 E.2 dL_law_1120 (lv_at hl 5 rfl) ?_
  refine z_iconst (pc := 1122) E dL_law_1122 ?_
  refine z_iadd (pc := 1123) E dL_law_1123 ?_
  refine z_sld (pc := 1124) E hx hb hbA hS ⟨by omega, by omega⟩ hL dL_law_1124 ?_
  refine lv_aload_n (pc := 1125) E.1 E.2 dL_law_1125 rfl (lv_at hl 0 rfl) ?_
  refine lv_iload (pc := 1126) E.1 E.2 dL_law_1126 (lv_at hl 5 rfl) ?_
  refine z_iconst (pc := 1128) E dL_law_1128 ?_
  refine z_iadd (pc := 1129) E dL_law_1129 ?_
  refine z_sld (pc := 1130) E hx hb hbA hS ⟨by omega, by omega⟩ hL dL_law_1130 ?_
  refine lv_aload_n (pc := 1131) E.1 E.2 dL_law_1131 rfl (lv_at hl 3 rfl) ?_
  by_cases hk : (kxFile σ (sx xs (i + 1)) (sx xs (i + 2))) = 0
  · refine z_lwc (pc := 1132) (As := [.ref (qo s.heap.size 0), .int (iI (sx xs (i + 1))), .int (iI (sx xs (i + 2))), .ref (s.heap.size + 193)]) (rest := []) E hml hown hts (mL_file l G (qo s.heap.size) ν σ π δ (fun j => sg8 (β j)) ω (sx xs (i + 1)) (sx xs (i + 2)) hR.ok.1 (sx_b _ _) (sx_b _ _) hk (s.heap.size + 193) fq (fun k hk => by have := qo_b s.heap.size hk; omega)) (vx_cwSW 4 hts gL_law_L_file rfl rfl rfl vdL_file.2 ⟨Nat.le_of_ble_eq_true rfl, Nat.le_of_ble_eq_true rfl⟩) ⟨hQ, hA⟩ hK hX hS (fun q h => la_193 h) rfl hl.1 rfl dL_law_1132 ⟨by omega, by omega⟩ (Nat.le_of_ble_eq_true rfl) (fun H locs hQA hsz hoth hS => ?_)
    obtain ⟨hQ, hA⟩ := hQA
    have hW := hW.kp (fun k hk => hoth _ (hW.lt k hk) (lb_193 hk))
    have hD := hD.kp (hoth _ hD.lt lc_193)
    refine lv_istore (pc := 1135) (lv' := [(6, .int (iI (0))), (0, .ref (b)), (1, .ref (qo s.heap.size 0)), (2, .ref (s.heap.size + 187 + 0)), (3, .ref (s.heap.size + 193)), (4, .ref (s.heap.size + 194)), (5, .int (iI (i)))]) E.1 E.2 dL_law_1135 hl (by decide) rfl (fun ls hl => ?_)
    refine lv_aload_n (pc := 1137) E.1 E.2 dL_law_1137 rfl (lv_at hl 3 rfl) ?_
    refine lv_aload_n (pc := 1138) E.1 E.2 dL_law_1138 rfl (lv_at hl 1 rfl) ?_
    refine lv_iload (pc := 1139) E.1 E.2 dL_law_1139 (lv_at hl 6 rfl) ?_
    refine z_iconst (pc := 1141) E dL_law_1141 ?_
    refine z_iadd (pc := 1142) E dL_law_1142 ?_
    refine z_sld (pc := 1143) E hx hb hbA hS ⟨by omega, by omega⟩ hL dL_law_1143 ?_
    refine lv_aload_n (pc := 1144) E.1 E.2 dL_law_1144 rfl (lv_at hl 1 rfl) ?_
    refine lv_iload (pc := 1145) E.1 E.2 dL_law_1145 (lv_at hl 6 rfl) ?_
    refine z_iconst (pc := 1147) E dL_law_1147 ?_
    refine z_iadd (pc := 1148) E dL_law_1148 ?_
    refine z_sld (pc := 1149) E hx hb hbA hS ⟨by omega, by omega⟩ hL dL_law_1149 ?_
    refine z_wVi (pc := 1150) (As := [.int (iI (sx xs (i + 1))), .int (iI (sx xs (i + 2)))]) (rest := []) E hml hown hts (mX8_file l G (fun k => s.heap.size + 187 + k) μ σ φ κ β ω (sx xs (i + 1)) (sx xs (i + 2)) hR.ok.1 (sx_b _ _) (sx_b _ _)) (cwV 2 hts gL_law_X8_file rfl rfl rfl vdX8_file ⟨Nat.le_of_ble_eq_true rfl, Nat.le_of_ble_eq_true rfl⟩) (hW.1.recv hK rfl) hW hK hS (fun q h => la_8 h) rfl hl.1 rfl dL_law_1150 ⟨by omega, by omega⟩ (Nat.le_of_ble_eq_true rfl) (fun H locs hW hsz hoth hS => ?_)
    have hQ := hQ.kp (fun k hk => hoth _ (hQ.lt k hk) (lb_8 hk))
    have hA := hA.kp (hoth _ hA.lt le_193)
    have hD := hD.kp (hoth _ hD.lt le_194)
    have hk8 := hk
    try simp only [if_pos hk8] at hW
    refine lv_istore (pc := 1153) (lv' := [(7, .int (iI ((if (kxFile σ (sx xs (i + 1)) (sx xs (i + 2))) = 0 then axFile σ (sx xs (i + 1)) (sx xs (i + 2)) else 0)))), (6, .int (iI (0))), (0, .ref (b)), (1, .ref (qo s.heap.size 0)), (2, .ref (s.heap.size + 187 + 0)), (3, .ref (s.heap.size + 193)), (4, .ref (s.heap.size + 194)), (5, .int (iI (i)))]) E.1 E.2 dL_law_1153 hl (by decide) rfl (fun ls hl => ?_)
    refine lv_aload_n (pc := 1155) E.1 E.2 dL_law_1155 rfl (lv_at hl 4 rfl) ?_
    refine z_rVi (pc := 1156) (As := []) (rest := []) E hml hown hts (mX8_thrown l G (fun k => s.heap.size + 187 + k) _ _ _ _ _ _) (cwV 0 hts gL_law_X8_thrown rfl rfl rfl vdX8_thrown ⟨Nat.le_of_ble_eq_true rfl, Nat.le_of_ble_eq_true rfl⟩) (hW.1.recv hK rfl) hW hK rfl hl.1 rfl dL_law_1156 ⟨by omega, by omega⟩ (Nat.le_of_ble_eq_true rfl) ?_
    refine lv_iload (pc := 1159) E.1 E.2 dL_law_1159 (lv_at hl 1 rfl) ?_
    refine z_same (pc := 1161) (tgt := 1166) E hk8 dL_law_1161 (by decide) ?_
    refine lv_iload (pc := 1166) E.1 E.2 dL_law_1166 (lv_at hl 1 rfl) ?_
    refine z_if_ne (pc := 1168) (tgt := 1183) E (by decide) dL_law_1168 (by decide) (fun h => absurd rfl h) (fun _ => ?_)
    refine lv_aload_n (pc := 1171) E.1 E.2 dL_law_1171 rfl (lv_at hl 5 rfl) ?_
    refine z_iconst (pc := 1172) E dL_law_1172 ?_
    refine z_laloadE (pc := 1173) E hK hA (by decide) (by decide) (show zu fq 0 (rI ((axFile σ (sx xs (i + 1)) (sx xs (i + 2))))) 0 = rI ((axFile σ (sx xs (i + 1)) (sx xs (i + 2)))) from if_pos rfl) dL_law_1173 ?_
    refine lv_iload (pc := 1174) E.1 E.2 dL_law_1174 (lv_at hl 0 rfl) ?_
    refine z_i2lR (pc := 1176) E dL_law_1176 ?_
    refine z_sameL (pc := 1177) (tgt := 1183) E (if_pos hk8).symm dL_law_1177 dL_law_1178 (by decide) ?_
    refine lv_goto (pc := 1183) (tgt := 2822) E.1 E.2 dL_law_1183 (by decide) ?_
    refine W.widen (k := cells + 1) (n := slots + 6) (by omega) (by omega) ?_
    exact kk H locs ls ⟨⟨_, _, _, _, _, _, _, _, _, hQ, hW, hR.id rfl rfl rfl rfl⟩, ⟨_, hA⟩, ⟨_, hD⟩⟩ hS (lv_sub hl [2, 3, 4, 5, 6, 7] rfl)
  · refine z_lwc (pc := 1132) (As := [.ref (qo s.heap.size 0), .int (iI (sx xs (i + 1))), .int (iI (sx xs (i + 2))), .ref (s.heap.size + 193)]) (rest := []) E hml hown hts (mbL_file l hst G (qo s.heap.size) ν σ π δ (fun j => sg8 (β j)) ω (sx xs (i + 1)) (sx xs (i + 2)) hR.ok.1 (sx_b _ _) (sx_b _ _) hk (s.heap.size + 193) fq) (vx_cwSW 4 hts gL_law_L_file rfl rfl rfl vdL_file.2 ⟨Nat.le_of_ble_eq_true rfl, Nat.le_of_ble_eq_true rfl⟩) ⟨hQ, hA⟩ hK hX hS (fun q h => h.elim) rfl hl.1 rfl dL_law_1132 ⟨by omega, by omega⟩ (Nat.le_of_ble_eq_true rfl) (fun H locs hQA hsz hoth hS => ?_)
    obtain ⟨hQ, hA⟩ := hQA
    have hW := hW.kp (fun k hk => hoth _ (hW.lt k hk) (fun h => h))
    have hD := hD.kp (hoth _ hD.lt (fun h => h))
    have hkb : -2147483648 ≤ (kxFile σ (sx xs (i + 1)) (sx xs (i + 2))) ∧ (kxFile σ (sx xs (i + 1)) (sx xs (i + 2))) < 2147483648 := by unfold kxFile; (try unfold kxPK); (repeat' split) <;> decide
    have hkn : ¬ (kxFile σ (sx xs (i + 1)) (sx xs (i + 2))) = 0 := hk
    refine lv_istore (pc := 1135) (lv' := [(6, .int (iI ((kxFile σ (sx xs (i + 1)) (sx xs (i + 2)))))), (0, .ref (b)), (1, .ref (qo s.heap.size 0)), (2, .ref (s.heap.size + 187 + 0)), (3, .ref (s.heap.size + 193)), (4, .ref (s.heap.size + 194)), (5, .int (iI (i)))]) E.1 E.2 dL_law_1135 hl (by decide) rfl (fun ls hl => ?_)
    refine lv_aload_n (pc := 1137) E.1 E.2 dL_law_1137 rfl (lv_at hl 3 rfl) ?_
    refine lv_aload_n (pc := 1138) E.1 E.2 dL_law_1138 rfl (lv_at hl 1 rfl) ?_
    refine lv_iload (pc := 1139) E.1 E.2 dL_law_1139 (lv_at hl 6 rfl) ?_
    refine z_iconst (pc := 1141) E dL_law_1141 ?_
    refine z_iadd (pc := 1142) E dL_law_1142 ?_
    refine z_sld (pc := 1143) E hx hb hbA hS ⟨by omega, by omega⟩ hL dL_law_1143 ?_
    refine lv_aload_n (pc := 1144) E.1 E.2 dL_law_1144 rfl (lv_at hl 1 rfl) ?_
    refine lv_iload (pc := 1145) E.1 E.2 dL_law_1145 (lv_at hl 6 rfl) ?_
    refine z_iconst (pc := 1147) E dL_law_1147 ?_
    refine z_iadd (pc := 1148) E dL_law_1148 ?_
    refine z_sld (pc := 1149) E hx hb hbA hS ⟨by omega, by omega⟩ hL dL_law_1149 ?_
    refine z_wVi (pc := 1150) (As := [.int (iI (sx xs (i + 1))), .int (iI (sx xs (i + 2)))]) (rest := []) E hml hown hts (mX8_file l G (fun k => s.heap.size + 187 + k) μ σ φ κ β ω (sx xs (i + 1)) (sx xs (i + 2)) hR.ok.1 (sx_b _ _) (sx_b _ _)) (cwV 2 hts gL_law_X8_file rfl rfl rfl vdX8_file ⟨Nat.le_of_ble_eq_true rfl, Nat.le_of_ble_eq_true rfl⟩) (hW.1.recv hK rfl) hW hK hS (fun q h => la_8 h) rfl hl.1 rfl dL_law_1150 ⟨by omega, by omega⟩ (Nat.le_of_ble_eq_true rfl) (fun H locs hW hsz hoth hS => ?_)
    have hQ := hQ.kp (fun k hk => hoth _ (hQ.lt k hk) (lb_8 hk))
    have hA := hA.kp (hoth _ hA.lt le_193)
    have hD := hD.kp (hoth _ hD.lt le_194)
    have hk8 := hk
    try simp only [if_neg hk8] at hW
    refine lv_istore (pc := 1153) (lv' := [(7, .int (iI ((if (kxFile σ (sx xs (i + 1)) (sx xs (i + 2))) = 0 then axFile σ (sx xs (i + 1)) (sx xs (i + 2)) else 0)))), (6, .int (iI ((kxFile σ (sx xs (i + 1)) (sx xs (i + 2)))))), (0, .ref (b)), (1, .ref (qo s.heap.size 0)), (2, .ref (s.heap.size + 187 + 0)), (3, .ref (s.heap.size + 193)), (4, .ref (s.heap.size + 194)), (5, .int (iI (i)))]) E.1 E.2 dL_law_1153 hl (by decide) rfl (fun ls hl => ?_)
    refine lv_aload_n (pc := 1155) E.1 E.2 dL_law_1155 rfl (lv_at hl 4 rfl) ?_
    refine z_rVi (pc := 1156) (As := []) (rest := []) E hml hown hts (mX8_thrown l G (fun k => s.heap.size + 187 + k) _ _ _ _ _ _) (cwV 0 hts gL_law_X8_thrown rfl rfl rfl vdX8_thrown ⟨Nat.le_of_ble_eq_true rfl, Nat.le_of_ble_eq_true rfl⟩) (hW.1.recv hK rfl) hW hK rfl hl.1 rfl dL_law_1156 ⟨by omega, by omega⟩ (Nat.le_of_ble_eq_true rfl) ?_
    refine lv_iload (pc := 1159) E.1 E.2 dL_law_1159 (lv_at hl 1 rfl) ?_
    refine z_same (pc := 1161) (tgt := 1166) E rfl dL_law_1161 (by decide) ?_
    refine lv_iload (pc := 1166) E.1 E.2 dL_law_1166 (lv_at hl 1 rfl) ?_
    refine z_if_ne (pc := 1168) (tgt := 1183) E hkb dL_law_1168 (by decide) (fun _ => ?_) (fun h => absurd h hkn)
    refine lv_goto (pc := 1183) (tgt := 2822) E.1 E.2 dL_law_1183 (by decide) ?_
    refine W.widen (k := cells + 1) (n := slots + 6) (by omega) (by omega) ?_
    exact kk H locs ls ⟨⟨_, _, _, _, _, _, _, _, _, hQ, hW, hR.id rfl rfl rfl rfl⟩, ⟨_, hA⟩, ⟨_, hD⟩⟩ hS (lv_sub hl [2, 3, 4, 5, 6, 7] rfl)
set_option maxHeartbeats 1000000 in
set_option maxRecDepth 100000 in
theorem cs_writeReason {p : Program} {l : Launch} {e : Env} {s : State} {m : MethodId} {below : List Frame} {meth : Method} {c : Code} {G : GG} {b L : Nat} {xs : Nat → Int32} {aK aV : Nat → Nat} (X : LX p l s m c G b L xs aK aV) {n : Nat} {i : Int} {H : Heap} {locs : List Loc} {ls : Array Slot} {cells slots : Nat} {Q : State → Prop} (hn : n ≤ 600) (hi : 0 ≤ i ∧ i + 6 ≤ (L : Int)) (hH : LH G n s.heap.size H) (hS : va_S (fun q => s.heap.size ≤ q) s.heap H locs) (hl : lv_has ls 8 [(0, .ref b), (1, .ref (qo s.heap.size 0)), (2, .ref (s.heap.size + 187 + 0)), (3, .ref (s.heap.size + 193)), (4, .ref (s.heap.size + 194)), (5, .int (iI i))]) (hc : cells + 1 ≤ room_1.cells) (hsl : slots + 6 ≤ room_1.slots) (kk : ∀ (H : Heap) (locs : List Loc) (ls : Array Slot), LH G (n + 1) s.heap.size H → va_S (fun q => s.heap.size ≤ q) s.heap H locs → lv_has ls 8 [(0, .ref b), (1, .ref (qo s.heap.size 0)), (2, .ref (s.heap.size + 187 + 0)), (3, .ref (s.heap.size + 193)), (4, .ref (s.heap.size + 194)), (5, .int (iI i))] → W p l e room_1 s m #[Value.ref b] below meth c H locs (cells + 1) (slots + 6) Q (F0 m 2822 ls [])) : W p l e room_1 s m #[Value.ref b] below meth c H locs cells slots Q (F0 m 1186 ls []) := by
  obtain ⟨E, hml, hown, hts, hK, hX0, hx, hb, hst, hL, hks⟩ := X
  obtain ⟨⟨ν, σ, π, δ, β, ω, μ, φ, κ, hQ, hW, hR⟩, ⟨fq, hA⟩, ⟨xq, hD⟩⟩ := hH
  have hX : KX FF0 s H := (hX0.kept (fun a ha hna => hS.2.1 a ha hna)).narrow (fun q h => h.elim)
  have hbA : ¬ (s.heap.size ≤ b) := by omega
  refine lv_aload_n (pc := 1186) E.1 E.2 dL_law_1186 rfl (lv_at hl 1 rfl) ?_
  refine lv_aload_n (pc := 1187) E.1 E.2 dL_law_1187 rfl (lv_at hl 0 rfl) ?_
  refine lv_iload (pc := 1188) E.1 E.2 dL_law_1188 (lv_at hl 5 rfl) ?_
  refine z_iconst (pc := 1190) E dL_law_1190 ?_
  refine z_iadd (pc := 1191) E dL_law_1191 ?_
  refine z_sld (pc := 1192) E hx hb hbA hS ⟨by omega, by omega⟩ hL dL_law_1192 ?_
  refine lv_aload_n (pc := 1193) E.1 E.2 dL_law_1193 rfl (lv_at hl 0 rfl) ?_
  refine lv_iload (pc := 1194) E.1 E.2 dL_law_1194 (lv_at hl 5 rfl) ?_
  refine z_iconst (pc := 1196) E dL_law_1196 ?_
  refine z_iadd (pc := 1197) E dL_law_1197 ?_
  refine z_sld (pc := 1198) E hx hb hbA hS ⟨by omega, by omega⟩ hL dL_law_1198 ?_
  refine lv_aload_n (pc := 1199) E.1 E.2 dL_law_1199 rfl (lv_at hl 3 rfl) ?_
  by_cases hk : (kxWriteR σ (sx xs (i + 1)) (sx xs (i + 2))) = 0
  · refine z_lwc (pc := 1200) (As := [.ref (qo s.heap.size 0), .int (iI (sx xs (i + 1))), .int (iI (sx xs (i + 2))), .ref (s.heap.size + 193)]) (rest := []) E hml hown hts (mL_writeReason l G (qo s.heap.size) ν σ π δ (fun j => sg8 (β j)) ω (sx xs (i + 1)) (sx xs (i + 2)) hR.ok.1 (sx_b _ _) (sx_b _ _) hk (s.heap.size + 193) fq (fun k hk => by have := qo_b s.heap.size hk; omega)) (vx_cwSW 4 hts gL_law_L_writeReason rfl rfl rfl vdL_writeReason.2 ⟨Nat.le_of_ble_eq_true rfl, Nat.le_of_ble_eq_true rfl⟩) ⟨hQ, hA⟩ hK hX hS (fun q h => la_193 h) rfl hl.1 rfl dL_law_1200 ⟨by omega, by omega⟩ (Nat.le_of_ble_eq_true rfl) (fun H locs hQA hsz hoth hS => ?_)
    obtain ⟨hQ, hA⟩ := hQA
    have hW := hW.kp (fun k hk => hoth _ (hW.lt k hk) (lb_193 hk))
    have hD := hD.kp (hoth _ hD.lt lc_193)
    refine lv_istore (pc := 1203) (lv' := [(6, .int (iI (0))), (0, .ref (b)), (1, .ref (qo s.heap.size 0)), (2, .ref (s.heap.size + 187 + 0)), (3, .ref (s.heap.size + 193)), (4, .ref (s.heap.size + 194)), (5, .int (iI (i)))]) E.1 E.2 dL_law_1203 hl (by decide) rfl (fun ls hl => ?_)
    refine lv_aload_n (pc := 1205) E.1 E.2 dL_law_1205 rfl (lv_at hl 3 rfl) ?_
    refine lv_aload_n (pc := 1206) E.1 E.2 dL_law_1206 rfl (lv_at hl 1 rfl) ?_
    refine lv_iload (pc := 1207) E.1 E.2 dL_law_1207 (lv_at hl 6 rfl) ?_
    refine z_iconst (pc := 1209) E dL_law_1209 ?_
    refine z_iadd (pc := 1210) E dL_law_1210 ?_
    refine z_sld (pc := 1211) E hx hb hbA hS ⟨by omega, by omega⟩ hL dL_law_1211 ?_
    refine lv_aload_n (pc := 1212) E.1 E.2 dL_law_1212 rfl (lv_at hl 1 rfl) ?_
    refine lv_iload (pc := 1213) E.1 E.2 dL_law_1213 (lv_at hl 6 rfl) ?_
    refine z_iconst (pc := 1215) E dL_law_1215 ?_
    refine z_iadd (pc := 1216) E dL_law_1216 ?_
    refine z_sld (pc := 1217) E hx hb hbA hS ⟨by omega, by omega⟩ hL dL_law_1217 ?_
    refine z_wVi (pc := 1218) (As := [.int (iI (sx xs (i + 1))), .int (iI (sx xs (i + 2)))]) (rest := []) E hml hown hts (mX8_writeReason l G (fun k => s.heap.size + 187 + k) μ σ φ κ β ω (sx xs (i + 1)) (sx xs (i + 2)) hR.ok.1 (sx_b _ _) (sx_b _ _)) (cwV 2 hts gL_law_X8_writeReason rfl rfl rfl vdX8_writeReason ⟨Nat.le_of_ble_eq_true rfl, Nat.le_of_ble_eq_true rfl⟩) (hW.1.recv hK rfl) hW hK hS (fun q h => la_8 h) rfl hl.1 rfl dL_law_1218 ⟨by omega, by omega⟩ (Nat.le_of_ble_eq_true rfl) (fun H locs hW hsz hoth hS => ?_)
    have hQ := hQ.kp (fun k hk => hoth _ (hQ.lt k hk) (lb_8 hk))
    have hA := hA.kp (hoth _ hA.lt le_193)
    have hD := hD.kp (hoth _ hD.lt le_194)
    have hk8 := hk
    try simp only [if_pos hk8] at hW
    refine lv_istore (pc := 1221) (lv' := [(7, .int (iI ((if (kxWriteR σ (sx xs (i + 1)) (sx xs (i + 2))) = 0 then axWriteR σ (sx xs (i + 1)) (sx xs (i + 2)) else 0)))), (6, .int (iI (0))), (0, .ref (b)), (1, .ref (qo s.heap.size 0)), (2, .ref (s.heap.size + 187 + 0)), (3, .ref (s.heap.size + 193)), (4, .ref (s.heap.size + 194)), (5, .int (iI (i)))]) E.1 E.2 dL_law_1221 hl (by decide) rfl (fun ls hl => ?_)
    refine lv_aload_n (pc := 1223) E.1 E.2 dL_law_1223 rfl (lv_at hl 4 rfl) ?_
    refine z_rVi (pc := 1224) (As := []) (rest := []) E hml hown hts (mX8_thrown l G (fun k => s.heap.size + 187 + k) _ _ _ _ _ _) (cwV 0 hts gL_law_X8_thrown rfl rfl rfl vdX8_thrown ⟨Nat.le_of_ble_eq_true rfl, Nat.le_of_ble_eq_true rfl⟩) (hW.1.recv hK rfl) hW hK rfl hl.1 rfl dL_law_1224 ⟨by omega, by omega⟩ (Nat.le_of_ble_eq_true rfl) ?_
    refine lv_iload (pc := 1227) E.1 E.2 dL_law_1227 (lv_at hl 1 rfl) ?_
    refine z_same (pc := 1229) (tgt := 1234) E hk8 dL_law_1229 (by decide) ?_
    refine lv_iload (pc := 1234) E.1 E.2 dL_law_1234 (lv_at hl 1 rfl) ?_
    refine z_if_ne (pc := 1236) (tgt := 1251) E (by decide) dL_law_1236 (by decide) (fun h => absurd rfl h) (fun _ => ?_)
    refine lv_aload_n (pc := 1239) E.1 E.2 dL_law_1239 rfl (lv_at hl 5 rfl) ?_
    refine z_iconst (pc := 1240) E dL_law_1240 ?_
    refine z_laloadE (pc := 1241) E hK hA (by decide) (by decide) (show zu fq 0 (rI ((axWriteR σ (sx xs (i + 1)) (sx xs (i + 2))))) 0 = rI ((axWriteR σ (sx xs (i + 1)) (sx xs (i + 2)))) from if_pos rfl) dL_law_1241 ?_
    refine lv_iload (pc := 1242) E.1 E.2 dL_law_1242 (lv_at hl 0 rfl) ?_
    refine z_i2lR (pc := 1244) E dL_law_1244 ?_
    refine z_sameL (pc := 1245) (tgt := 1251) E (if_pos hk8).symm dL_law_1245 dL_law_1246 (by decide) ?_
    refine lv_goto (pc := 1251) (tgt := 2822) E.1 E.2 dL_law_1251 (by decide) ?_
    refine W.widen (k := cells + 1) (n := slots + 6) (by omega) (by omega) ?_
    exact kk H locs ls ⟨⟨_, _, _, _, _, _, _, _, _, hQ, hW, hR.id rfl rfl rfl rfl⟩, ⟨_, hA⟩, ⟨_, hD⟩⟩ hS (lv_sub hl [2, 3, 4, 5, 6, 7] rfl)
  · refine z_lwc (pc := 1200) (As := [.ref (qo s.heap.size 0), .int (iI (sx xs (i + 1))), .int (iI (sx xs (i + 2))), .ref (s.heap.size + 193)]) (rest := []) E hml hown hts (mbL_writeReason l hst G (qo s.heap.size) ν σ π δ (fun j => sg8 (β j)) ω (sx xs (i + 1)) (sx xs (i + 2)) hR.ok.1 (sx_b _ _) (sx_b _ _) hk (s.heap.size + 193) fq) (vx_cwSW 4 hts gL_law_L_writeReason rfl rfl rfl vdL_writeReason.2 ⟨Nat.le_of_ble_eq_true rfl, Nat.le_of_ble_eq_true rfl⟩) ⟨hQ, hA⟩ hK hX hS (fun q h => h.elim) rfl hl.1 rfl dL_law_1200 ⟨by omega, by omega⟩ (Nat.le_of_ble_eq_true rfl) (fun H locs hQA hsz hoth hS => ?_)
    obtain ⟨hQ, hA⟩ := hQA
    have hW := hW.kp (fun k hk => hoth _ (hW.lt k hk) (fun h => h))
    have hD := hD.kp (hoth _ hD.lt (fun h => h))
    have hkb : -2147483648 ≤ (kxWriteR σ (sx xs (i + 1)) (sx xs (i + 2))) ∧ (kxWriteR σ (sx xs (i + 1)) (sx xs (i + 2))) < 2147483648 := by unfold kxWriteR; (try unfold kxPK); (repeat' split) <;> decide
    have hkn : ¬ (kxWriteR σ (sx xs (i + 1)) (sx xs (i + 2))) = 0 := hk
    refine lv_istore (pc := 1203) (lv' := [(6, .int (iI ((kxWriteR σ (sx xs (i + 1)) (sx xs (i + 2)))))), (0, .ref (b)), (1, .ref (qo s.heap.size 0)), (2, .ref (s.heap.size + 187 + 0)), (3, .ref (s.heap.size + 193)), (4, .ref (s.heap.size + 194)), (5, .int (iI (i)))]) E.1 E.2 dL_law_1203 hl (by decide) rfl (fun ls hl => ?_)
    refine lv_aload_n (pc := 1205) E.1 E.2 dL_law_1205 rfl (lv_at hl 3 rfl) ?_
    refine lv_aload_n (pc := 1206) E.1 E.2 dL_law_1206 rfl (lv_at hl 1 rfl) ?_
    refine lv_iload (pc := 1207) E.1 E.2 dL_law_1207 (lv_at hl 6 rfl) ?_
    refine z_iconst (pc := 1209) E dL_law_1209 ?_
    refine z_iadd (pc := 1210) E dL_law_1210 ?_
    refine z_sld (pc := 1211) E hx hb hbA hS ⟨by omega, by omega⟩ hL dL_law_1211 ?_
    refine lv_aload_n (pc := 1212) E.1 E.2 dL_law_1212 rfl (lv_at hl 1 rfl) ?_
    refine lv_iload (pc := 1213) E.1 E.2 dL_law_1213 (lv_at hl 6 rfl) ?_
    refine z_iconst (pc := 1215) E dL_law_1215 ?_
    refine z_iadd (pc := 1216) E dL_law_1216 ?_
    refine z_sld (pc := 1217) E hx hb hbA hS ⟨by omega, by omega⟩ hL dL_law_1217 ?_
    refine z_wVi (pc := 1218) (As := [.int (iI (sx xs (i + 1))), .int (iI (sx xs (i + 2)))]) (rest := []) E hml hown hts (mX8_writeReason l G (fun k => s.heap.size + 187 + k) μ σ φ κ β ω (sx xs (i + 1)) (sx xs (i + 2)) hR.ok.1 (sx_b _ _) (sx_b _ _)) (cwV 2 hts gL_law_X8_writeReason rfl rfl rfl vdX8_writeReason ⟨Nat.le_of_ble_eq_true rfl, Nat.le_of_ble_eq_true rfl⟩) (hW.1.recv hK rfl) hW hK hS (fun q h => la_8 h) rfl hl.1 rfl dL_law_1218 ⟨by omega, by omega⟩ (Nat.le_of_ble_eq_true rfl) (fun H locs hW hsz hoth hS => ?_)
    have hQ := hQ.kp (fun k hk => hoth _ (hQ.lt k hk) (lb_8 hk))
    have hA := hA.kp (hoth _ hA.lt le_193)
    have hD := hD.kp (hoth _ hD.lt le_194)
    have hk8 := hk
    try simp only [if_neg hk8] at hW
    refine lv_istore (pc := 1221) (lv' := [(7, .int (iI ((if (kxWriteR σ (sx xs (i + 1)) (sx xs (i + 2))) = 0 then axWriteR σ (sx xs (i + 1)) (sx xs (i + 2)) else 0)))), (6, .int (iI ((kxWriteR σ (sx xs (i + 1)) (sx xs (i + 2)))))), (0, .ref (b)), (1, .ref (qo s.heap.size 0)), (2, .ref (s.heap.size + 187 + 0)), (3, .ref (s.heap.size + 193)), (4, .ref (s.heap.size + 194)), (5, .int (iI (i)))]) E.1 E.2 dL_law_1221 hl (by decide) rfl (fun ls hl => ?_)
    refine lv_aload_n (pc := 1223) E.1 E.2 dL_law_1223 rfl (lv_at hl 4 rfl) ?_
    refine z_rVi (pc := 1224) (As := []) (rest := []) E hml hown hts (mX8_thrown l G (fun k => s.heap.size + 187 + k) _ _ _ _ _ _) (cwV 0 hts gL_law_X8_thrown rfl rfl rfl vdX8_thrown ⟨Nat.le_of_ble_eq_true rfl, Nat.le_of_ble_eq_true rfl⟩) (hW.1.recv hK rfl) hW hK rfl hl.1 rfl dL_law_1224 ⟨by omega, by omega⟩ (Nat.le_of_ble_eq_true rfl) ?_
    refine lv_iload (pc := 1227) E.1 E.2 dL_law_1227 (lv_at hl 1 rfl) ?_
    refine z_same (pc := 1229) (tgt := 1234) E rfl dL_law_1229 (by decide) ?_
    refine lv_iload (pc := 1234) E.1 E.2 dL_law_1234 (lv_at hl 1 rfl) ?_
    refine z_if_ne (pc := 1236) (tgt := 1251) E hkb dL_law_1236 (by decide) (fun _ => ?_) (fun h => absurd h hkn)
    refine lv_goto (pc := 1251) (tgt := 2822) E.1 E.2 dL_law_1251 (by decide) ?_
    refine W.widen (k := cells + 1) (n := slots + 6) (by omega) (by omega) ?_
    exact kk H locs ls ⟨⟨_, _, _, _, _, _, _, _, _, hQ, hW, hR.id rfl rfl rfl rfl⟩, ⟨_, hA⟩, ⟨_, hD⟩⟩ hS (lv_sub hl [2, 3, 4, 5, 6, 7] rfl)
set_option maxHeartbeats 1000000 in
set_option maxRecDepth 100000 in
theorem cs_write {p : Program} {l : Launch} {e : Env} {s : State} {m : MethodId} {below : List Frame} {meth : Method} {c : Code} {G : GG} {b L : Nat} {xs : Nat → Int32} {aK aV : Nat → Nat} (X : LX p l s m c G b L xs aK aV) {n : Nat} {i : Int} {H : Heap} {locs : List Loc} {ls : Array Slot} {cells slots : Nat} {Q : State → Prop} (hn : n ≤ 600) (hi : 0 ≤ i ∧ i + 6 ≤ (L : Int)) (hH : LH G n s.heap.size H) (hS : va_S (fun q => s.heap.size ≤ q) s.heap H locs) (hl : lv_has ls 8 [(0, .ref b), (1, .ref (qo s.heap.size 0)), (2, .ref (s.heap.size + 187 + 0)), (3, .ref (s.heap.size + 193)), (4, .ref (s.heap.size + 194)), (5, .int (iI i))]) (hc : cells + 1 ≤ room_1.cells) (hsl : slots + 6 ≤ room_1.slots) (kk : ∀ (H : Heap) (locs : List Loc) (ls : Array Slot), LH G (n + 1) s.heap.size H → va_S (fun q => s.heap.size ≤ q) s.heap H locs → lv_has ls 8 [(0, .ref b), (1, .ref (qo s.heap.size 0)), (2, .ref (s.heap.size + 187 + 0)), (3, .ref (s.heap.size + 193)), (4, .ref (s.heap.size + 194)), (5, .int (iI i))] → W p l e room_1 s m #[Value.ref b] below meth c H locs (cells + 1) (slots + 6) Q (F0 m 2822 ls [])) : W p l e room_1 s m #[Value.ref b] below meth c H locs cells slots Q (F0 m 1254 ls []) := by
  obtain ⟨E, hml, hown, hts, hK, hX0, hx, hb, hst, hL, hks⟩ := X
  obtain ⟨⟨ν, σ, π, δ, β, ω, μ, φ, κ, hQ, hW, hR⟩, ⟨fq, hA⟩, ⟨xq, hD⟩⟩ := hH
  have hX : KX FF0 s H := (hX0.kept (fun a ha hna => hS.2.1 a ha hna)).narrow (fun q h => h.elim)
  have hbA : ¬ (s.heap.size ≤ b) := by omega
  refine lv_aload_n (pc := 1254) E.1 E.2 dL_law_1254 rfl (lv_at hl 1 rfl) ?_
  refine lv_aload_n (pc := 1255) E.1 E.2 dL_law_1255 rfl (lv_at hl 0 rfl) ?_
  refine lv_iload (pc := 1256) E.1 E.2 dL_law_1256 (lv_at hl 5 rfl) ?_
  refine z_iconst (pc := 1258) E dL_law_1258 ?_
  refine z_iadd (pc := 1259) E dL_law_1259 ?_
  refine z_sld (pc := 1260) E hx hb hbA hS ⟨by omega, by omega⟩ hL dL_law_1260 ?_
  refine lv_aload_n (pc := 1261) E.1 E.2 dL_law_1261 rfl (lv_at hl 0 rfl) ?_
  refine lv_iload (pc := 1262) E.1 E.2 dL_law_1262 (lv_at hl 5 rfl) ?_
  refine z_iconst (pc := 1264) E dL_law_1264 ?_
  refine z_iadd (pc := 1265) E dL_law_1265 ?_
  refine z_sld (pc := 1266) E hx hb hbA hS ⟨by omega, by omega⟩ hL dL_law_1266 ?_
  refine lv_aload_n (pc := 1267) E.1 E.2 dL_law_1267 rfl (lv_at hl 3 rfl) ?_
  by_cases hk : (kxWrite σ (sx xs (i + 1)) (sx xs (i + 2))) = 0
  · refine z_lwc (pc := 1268) (As := [.ref (qo s.heap.size 0), .int (iI (sx xs (i + 1))), .int (iI (sx xs (i + 2))), .ref (s.heap.size + 193)]) (rest := []) E hml hown hts (mL_write l G (qo s.heap.size) ν σ π δ (fun j => sg8 (β j)) ω (sx xs (i + 1)) (sx xs (i + 2)) hR.ok.1 (sx_b _ _) (sx_b _ _) hk (hR.hc hn) hR.hu (hR.ok.ub hn) (s.heap.size + 193) fq (fun k hk => by have := qo_b s.heap.size hk; omega)) (vx_cwSW 4 hts gL_law_L_write rfl rfl rfl vdL_write.2 ⟨Nat.le_of_ble_eq_true rfl, Nat.le_of_ble_eq_true rfl⟩) ⟨hQ, hA⟩ hK hX hS (fun q h => la_193 h) rfl hl.1 rfl dL_law_1268 ⟨by omega, by omega⟩ (Nat.le_of_ble_eq_true rfl) (fun H locs hQA hsz hoth hS => ?_)
    obtain ⟨hQ, hA⟩ := hQA
    have hW := hW.kp (fun k hk => hoth _ (hW.lt k hk) (lb_193 hk))
    have hD := hD.kp (hoth _ hD.lt lc_193)
    refine lv_istore (pc := 1271) (lv' := [(6, .int (iI (0))), (0, .ref (b)), (1, .ref (qo s.heap.size 0)), (2, .ref (s.heap.size + 187 + 0)), (3, .ref (s.heap.size + 193)), (4, .ref (s.heap.size + 194)), (5, .int (iI (i)))]) E.1 E.2 dL_law_1271 hl (by decide) rfl (fun ls hl => ?_)
    refine lv_aload_n (pc := 1273) E.1 E.2 dL_law_1273 rfl (lv_at hl 3 rfl) ?_
    refine lv_aload_n (pc := 1274) E.1 E.2 dL_law_1274 rfl (lv_at hl 1 rfl) ?_
    refine lv_iload (pc := 1275) E.1 E.2 dL_law_1275 (lv_at hl 6 rfl) ?_
    refine z_iconst (pc := 1277) E dL_law_1277 ?_
    refine z_iadd (pc := 1278) E dL_law_1278 ?_
    refine z_sld (pc := 1279) E hx hb hbA hS ⟨by omega, by omega⟩ hL dL_law_1279 ?_
    refine lv_aload_n (pc := 1280) E.1 E.2 dL_law_1280 rfl (lv_at hl 1 rfl) ?_
    refine lv_iload (pc := 1281) E.1 E.2 dL_law_1281 (lv_at hl 6 rfl) ?_
    refine z_iconst (pc := 1283) E dL_law_1283 ?_
    refine z_iadd (pc := 1284) E dL_law_1284 ?_
    refine z_sld (pc := 1285) E hx hb hbA hS ⟨by omega, by omega⟩ hL dL_law_1285 ?_
    refine z_wVi (pc := 1286) (As := [.int (iI (sx xs (i + 1))), .int (iI (sx xs (i + 2)))]) (rest := []) E hml hown hts (mX8_write l G (fun k => s.heap.size + 187 + k) μ σ φ κ β ω (sx xs (i + 1)) (sx xs (i + 2)) hR.ok.1 (sx_b _ _) (sx_b _ _) hR.m3 (hR.ok.ub hn)) (cwV 2 hts gL_law_X8_write rfl rfl rfl vdX8_write ⟨Nat.le_of_ble_eq_true rfl, Nat.le_of_ble_eq_true rfl⟩) (hW.1.recv hK rfl) hW hK hS (fun q h => la_8 h) rfl hl.1 rfl dL_law_1286 ⟨by omega, by omega⟩ (Nat.le_of_ble_eq_true rfl) (fun H locs hW hsz hoth hS => ?_)
    have hQ := hQ.kp (fun k hk => hoth _ (hQ.lt k hk) (lb_8 hk))
    have hA := hA.kp (hoth _ hA.lt le_193)
    have hD := hD.kp (hoth _ hD.lt le_194)
    have hk8 := hk
    try simp only [if_pos hk8] at hW
    refine lv_istore (pc := 1289) (lv' := [(7, .int (iI ((if (kxWrite σ (sx xs (i + 1)) (sx xs (i + 2))) = 0 then σ 3 else 0)))), (6, .int (iI (0))), (0, .ref (b)), (1, .ref (qo s.heap.size 0)), (2, .ref (s.heap.size + 187 + 0)), (3, .ref (s.heap.size + 193)), (4, .ref (s.heap.size + 194)), (5, .int (iI (i)))]) E.1 E.2 dL_law_1289 hl (by decide) rfl (fun ls hl => ?_)
    refine lv_aload_n (pc := 1291) E.1 E.2 dL_law_1291 rfl (lv_at hl 4 rfl) ?_
    refine z_rVi (pc := 1292) (As := []) (rest := []) E hml hown hts (mX8_thrown l G (fun k => s.heap.size + 187 + k) _ _ _ _ _ _) (cwV 0 hts gL_law_X8_thrown rfl rfl rfl vdX8_thrown ⟨Nat.le_of_ble_eq_true rfl, Nat.le_of_ble_eq_true rfl⟩) (hW.1.recv hK rfl) hW hK rfl hl.1 rfl dL_law_1292 ⟨by omega, by omega⟩ (Nat.le_of_ble_eq_true rfl) ?_
    refine lv_iload (pc := 1295) E.1 E.2 dL_law_1295 (lv_at hl 1 rfl) ?_
    refine z_same (pc := 1297) (tgt := 1302) E hk8 dL_law_1297 (by decide) ?_
    refine lv_iload (pc := 1302) E.1 E.2 dL_law_1302 (lv_at hl 1 rfl) ?_
    refine z_if_ne (pc := 1304) (tgt := 1319) E (by decide) dL_law_1304 (by decide) (fun h => absurd rfl h) (fun _ => ?_)
    refine lv_aload_n (pc := 1307) E.1 E.2 dL_law_1307 rfl (lv_at hl 5 rfl) ?_
    refine z_iconst (pc := 1308) E dL_law_1308 ?_
    refine z_laloadE (pc := 1309) E hK hA (by decide) (by decide) (show zu fq 0 (rI ((σ 3))) 0 = rI ((σ 3)) from if_pos rfl) dL_law_1309 ?_
    refine lv_iload (pc := 1310) E.1 E.2 dL_law_1310 (lv_at hl 0 rfl) ?_
    refine z_i2lR (pc := 1312) E dL_law_1312 ?_
    refine z_sameL (pc := 1313) (tgt := 1319) E (if_pos hk8).symm dL_law_1313 dL_law_1314 (by decide) ?_
    refine lv_goto (pc := 1319) (tgt := 2822) E.1 E.2 dL_law_1319 (by decide) ?_
    refine W.widen (k := cells + 1) (n := slots + 6) (by omega) (by omega) ?_
    exact kk H locs ls ⟨⟨_, _, _, _, _, _, _, _, _, hQ, hW, hR.wr (ok_Write hR.ok hn hk) rfl rfl hR.e6 hR.m6 rfl hR.e14 rfl rfl⟩, ⟨_, hA⟩, ⟨_, hD⟩⟩ hS (lv_sub hl [2, 3, 4, 5, 6, 7] rfl)
  · refine z_lwc (pc := 1268) (As := [.ref (qo s.heap.size 0), .int (iI (sx xs (i + 1))), .int (iI (sx xs (i + 2))), .ref (s.heap.size + 193)]) (rest := []) E hml hown hts (mbL_write l hst G (qo s.heap.size) ν σ π δ (fun j => sg8 (β j)) ω (sx xs (i + 1)) (sx xs (i + 2)) hR.ok.1 (sx_b _ _) (sx_b _ _) hk (s.heap.size + 193) fq) (vx_cwSW 4 hts gL_law_L_write rfl rfl rfl vdL_write.2 ⟨Nat.le_of_ble_eq_true rfl, Nat.le_of_ble_eq_true rfl⟩) ⟨hQ, hA⟩ hK hX hS (fun q h => h.elim) rfl hl.1 rfl dL_law_1268 ⟨by omega, by omega⟩ (Nat.le_of_ble_eq_true rfl) (fun H locs hQA hsz hoth hS => ?_)
    obtain ⟨hQ, hA⟩ := hQA
    have hW := hW.kp (fun k hk => hoth _ (hW.lt k hk) (fun h => h))
    have hD := hD.kp (hoth _ hD.lt (fun h => h))
    have hkb : -2147483648 ≤ (kxWrite σ (sx xs (i + 1)) (sx xs (i + 2))) ∧ (kxWrite σ (sx xs (i + 1)) (sx xs (i + 2))) < 2147483648 := by unfold kxWrite; (try unfold kxPK); (repeat' split) <;> decide
    have hkn : ¬ (kxWrite σ (sx xs (i + 1)) (sx xs (i + 2))) = 0 := hk
    refine lv_istore (pc := 1271) (lv' := [(6, .int (iI ((kxWrite σ (sx xs (i + 1)) (sx xs (i + 2)))))), (0, .ref (b)), (1, .ref (qo s.heap.size 0)), (2, .ref (s.heap.size + 187 + 0)), (3, .ref (s.heap.size + 193)), (4, .ref (s.heap.size + 194)), (5, .int (iI (i)))]) E.1 E.2 dL_law_1271 hl (by decide) rfl (fun ls hl => ?_)
    refine lv_aload_n (pc := 1273) E.1 E.2 dL_law_1273 rfl (lv_at hl 3 rfl) ?_
    refine lv_aload_n (pc := 1274) E.1 E.2 dL_law_1274 rfl (lv_at hl 1 rfl) ?_
    refine lv_iload (pc := 1275) E.1 E.2 dL_law_1275 (lv_at hl 6 rfl) ?_
    refine z_iconst (pc := 1277) E dL_law_1277 ?_
    refine z_iadd (pc := 1278) E dL_law_1278 ?_
    refine z_sld (pc := 1279) E hx hb hbA hS ⟨by omega, by omega⟩ hL dL_law_1279 ?_
    refine lv_aload_n (pc := 1280) E.1 E.2 dL_law_1280 rfl (lv_at hl 1 rfl) ?_
    refine lv_iload (pc := 1281) E.1 E.2 dL_law_1281 (lv_at hl 6 rfl) ?_
    refine z_iconst (pc := 1283) E dL_law_1283 ?_
    refine z_iadd (pc := 1284) E dL_law_1284 ?_
    refine z_sld (pc := 1285) E hx hb hbA hS ⟨by omega, by omega⟩ hL dL_law_1285 ?_
    refine z_wVi (pc := 1286) (As := [.int (iI (sx xs (i + 1))), .int (iI (sx xs (i + 2)))]) (rest := []) E hml hown hts (mX8_write l G (fun k => s.heap.size + 187 + k) μ σ φ κ β ω (sx xs (i + 1)) (sx xs (i + 2)) hR.ok.1 (sx_b _ _) (sx_b _ _) hR.m3 (hR.ok.ub hn)) (cwV 2 hts gL_law_X8_write rfl rfl rfl vdX8_write ⟨Nat.le_of_ble_eq_true rfl, Nat.le_of_ble_eq_true rfl⟩) (hW.1.recv hK rfl) hW hK hS (fun q h => la_8 h) rfl hl.1 rfl dL_law_1286 ⟨by omega, by omega⟩ (Nat.le_of_ble_eq_true rfl) (fun H locs hW hsz hoth hS => ?_)
    have hQ := hQ.kp (fun k hk => hoth _ (hQ.lt k hk) (lb_8 hk))
    have hA := hA.kp (hoth _ hA.lt le_193)
    have hD := hD.kp (hoth _ hD.lt le_194)
    have hk8 := hk
    try simp only [if_neg hk8] at hW
    refine lv_istore (pc := 1289) (lv' := [(7, .int (iI ((if (kxWrite σ (sx xs (i + 1)) (sx xs (i + 2))) = 0 then σ 3 else 0)))), (6, .int (iI ((kxWrite σ (sx xs (i + 1)) (sx xs (i + 2)))))), (0, .ref (b)), (1, .ref (qo s.heap.size 0)), (2, .ref (s.heap.size + 187 + 0)), (3, .ref (s.heap.size + 193)), (4, .ref (s.heap.size + 194)), (5, .int (iI (i)))]) E.1 E.2 dL_law_1289 hl (by decide) rfl (fun ls hl => ?_)
    refine lv_aload_n (pc := 1291) E.1 E.2 dL_law_1291 rfl (lv_at hl 4 rfl) ?_
    refine z_rVi (pc := 1292) (As := []) (rest := []) E hml hown hts (mX8_thrown l G (fun k => s.heap.size + 187 + k) _ _ _ _ _ _) (cwV 0 hts gL_law_X8_thrown rfl rfl rfl vdX8_thrown ⟨Nat.le_of_ble_eq_true rfl, Nat.le_of_ble_eq_true rfl⟩) (hW.1.recv hK rfl) hW hK rfl hl.1 rfl dL_law_1292 ⟨by omega, by omega⟩ (Nat.le_of_ble_eq_true rfl) ?_
    refine lv_iload (pc := 1295) E.1 E.2 dL_law_1295 (lv_at hl 1 rfl) ?_
    refine z_same (pc := 1297) (tgt := 1302) E rfl dL_law_1297 (by decide) ?_
    refine lv_iload (pc := 1302) E.1 E.2 dL_law_1302 (lv_at hl 1 rfl) ?_
    refine z_if_ne (pc := 1304) (tgt := 1319) E hkb dL_law_1304 (by decide) (fun _ => ?_) (fun h => absurd h hkn)
    refine lv_goto (pc := 1319) (tgt := 2822) E.1 E.2 dL_law_1319 (by decide) ?_
    refine W.widen (k := cells + 1) (n := slots + 6) (by omega) (by omega) ?_
    exact kk H locs ls ⟨⟨_, _, _, _, _, _, _, _, _, hQ, hW, hR.id rfl rfl rfl rfl⟩, ⟨_, hA⟩, ⟨_, hD⟩⟩ hS (lv_sub hl [2, 3, 4, 5, 6, 7] rfl)
set_option maxHeartbeats 1000000 in
set_option maxRecDepth 100000 in
theorem cs_room {p : Program} {l : Launch} {e : Env} {s : State} {m : MethodId} {below : List Frame} {meth : Method} {c : Code} {G : GG} {b L : Nat} {xs : Nat → Int32} {aK aV : Nat → Nat} (X : LX p l s m c G b L xs aK aV) {n : Nat} {i : Int} {H : Heap} {locs : List Loc} {ls : Array Slot} {cells slots : Nat} {Q : State → Prop} (hn : n ≤ 600) (hi : 0 ≤ i ∧ i + 6 ≤ (L : Int)) (hH : LH G n s.heap.size H) (hS : va_S (fun q => s.heap.size ≤ q) s.heap H locs) (hl : lv_has ls 8 [(0, .ref b), (1, .ref (qo s.heap.size 0)), (2, .ref (s.heap.size + 187 + 0)), (3, .ref (s.heap.size + 193)), (4, .ref (s.heap.size + 194)), (5, .int (iI i))]) (hc : cells + 1 ≤ room_1.cells) (hsl : slots + 6 ≤ room_1.slots) (kk : ∀ (H : Heap) (locs : List Loc) (ls : Array Slot), LH G (n + 1) s.heap.size H → va_S (fun q => s.heap.size ≤ q) s.heap H locs → lv_has ls 8 [(0, .ref b), (1, .ref (qo s.heap.size 0)), (2, .ref (s.heap.size + 187 + 0)), (3, .ref (s.heap.size + 193)), (4, .ref (s.heap.size + 194)), (5, .int (iI i))] → W p l e room_1 s m #[Value.ref b] below meth c H locs (cells + 1) (slots + 6) Q (F0 m 2822 ls [])) : W p l e room_1 s m #[Value.ref b] below meth c H locs cells slots Q (F0 m 1322 ls []) := by
  obtain ⟨E, hml, hown, hts, hK, hX0, hx, hb, hst, hL, hks⟩ := X
  obtain ⟨⟨ν, σ, π, δ, β, ω, μ, φ, κ, hQ, hW, hR⟩, ⟨fq, hA⟩, ⟨xq, hD⟩⟩ := hH
  have hX : KX FF0 s H := (hX0.kept (fun a ha hna => hS.2.1 a ha hna)).narrow (fun q h => h.elim)
  have hbA : ¬ (s.heap.size ≤ b) := by omega
  refine lv_aload_n (pc := 1322) E.1 E.2 dL_law_1322 rfl (lv_at hl 1 rfl) ?_
  refine lv_aload_n (pc := 1323) E.1 E.2 dL_law_1323 rfl (lv_at hl 0 rfl) ?_
  refine lv_iload (pc := 1324) E.1 E.2 dL_law_1324 (lv_at hl 5 rfl) ?_
  refine z_iconst (pc := 1326) E dL_law_1326 ?_
  refine z_iadd (pc := 1327) E dL_law_1327 ?_
  refine z_sld (pc := 1328) E hx hb hbA hS ⟨by omega, by omega⟩ hL dL_law_1328 ?_
  refine lv_aload_n (pc := 1329) E.1 E.2 dL_law_1329 rfl (lv_at hl 3 rfl) ?_
  by_cases hk : (kxFo σ (sx xs (i + 1))) = 0
  · refine z_lwc (pc := 1330) (As := [.ref (qo s.heap.size 0), .int (iI (sx xs (i + 1))), .ref (s.heap.size + 193)]) (rest := []) E hml hown hts (mL_room l G (qo s.heap.size) ν σ π δ (fun j => sg8 (β j)) ω (sx xs (i + 1)) hR.ok.1 (sx_b _ _) hk (s.heap.size + 193) fq (fun k hk => by have := qo_b s.heap.size hk; omega)) (vx_cwSW 3 hts gL_law_L_room rfl rfl rfl vdL_room.2 ⟨Nat.le_of_ble_eq_true rfl, Nat.le_of_ble_eq_true rfl⟩) ⟨hQ, hA⟩ hK hX hS (fun q h => la_193 h) rfl hl.1 rfl dL_law_1330 ⟨by omega, by omega⟩ (Nat.le_of_ble_eq_true rfl) (fun H locs hQA hsz hoth hS => ?_)
    obtain ⟨hQ, hA⟩ := hQA
    have hW := hW.kp (fun k hk => hoth _ (hW.lt k hk) (lb_193 hk))
    have hD := hD.kp (hoth _ hD.lt lc_193)
    refine lv_istore (pc := 1333) (lv' := [(6, .int (iI (0))), (0, .ref (b)), (1, .ref (qo s.heap.size 0)), (2, .ref (s.heap.size + 187 + 0)), (3, .ref (s.heap.size + 193)), (4, .ref (s.heap.size + 194)), (5, .int (iI (i)))]) E.1 E.2 dL_law_1333 hl (by decide) rfl (fun ls hl => ?_)
    refine lv_aload_n (pc := 1335) E.1 E.2 dL_law_1335 rfl (lv_at hl 3 rfl) ?_
    refine lv_aload_n (pc := 1336) E.1 E.2 dL_law_1336 rfl (lv_at hl 1 rfl) ?_
    refine lv_iload (pc := 1337) E.1 E.2 dL_law_1337 (lv_at hl 6 rfl) ?_
    refine z_iconst (pc := 1339) E dL_law_1339 ?_
    refine z_iadd (pc := 1340) E dL_law_1340 ?_
    refine z_sld (pc := 1341) E hx hb hbA hS ⟨by omega, by omega⟩ hL dL_law_1341 ?_
    refine z_wVi (pc := 1342) (As := [.int (iI (sx xs (i + 1)))]) (rest := []) E hml hown hts (mX8_room l G (fun k => s.heap.size + 187 + k) μ σ φ κ β ω (sx xs (i + 1)) hR.ok.1 (sx_b _ _)) (cwV 1 hts gL_law_X8_room rfl rfl rfl vdX8_room ⟨Nat.le_of_ble_eq_true rfl, Nat.le_of_ble_eq_true rfl⟩) (hW.1.recv hK rfl) hW hK hS (fun q h => la_8 h) rfl hl.1 rfl dL_law_1342 ⟨by omega, by omega⟩ (Nat.le_of_ble_eq_true rfl) (fun H locs hW hsz hoth hS => ?_)
    have hQ := hQ.kp (fun k hk => hoth _ (hQ.lt k hk) (lb_8 hk))
    have hA := hA.kp (hoth _ hA.lt le_193)
    have hD := hD.kp (hoth _ hD.lt le_194)
    have hk8 := hk
    try simp only [if_pos hk8] at hW
    refine lv_istore (pc := 1345) (lv' := [(7, .int (iI ((if (kxFo σ (sx xs (i + 1))) = 0 then rooS σ (pjF σ (sx xs (i + 1))) else 0)))), (6, .int (iI (0))), (0, .ref (b)), (1, .ref (qo s.heap.size 0)), (2, .ref (s.heap.size + 187 + 0)), (3, .ref (s.heap.size + 193)), (4, .ref (s.heap.size + 194)), (5, .int (iI (i)))]) E.1 E.2 dL_law_1345 hl (by decide) rfl (fun ls hl => ?_)
    refine lv_aload_n (pc := 1347) E.1 E.2 dL_law_1347 rfl (lv_at hl 4 rfl) ?_
    refine z_rVi (pc := 1348) (As := []) (rest := []) E hml hown hts (mX8_thrown l G (fun k => s.heap.size + 187 + k) _ _ _ _ _ _) (cwV 0 hts gL_law_X8_thrown rfl rfl rfl vdX8_thrown ⟨Nat.le_of_ble_eq_true rfl, Nat.le_of_ble_eq_true rfl⟩) (hW.1.recv hK rfl) hW hK rfl hl.1 rfl dL_law_1348 ⟨by omega, by omega⟩ (Nat.le_of_ble_eq_true rfl) ?_
    refine lv_iload (pc := 1351) E.1 E.2 dL_law_1351 (lv_at hl 1 rfl) ?_
    refine z_same (pc := 1353) (tgt := 1358) E hk8 dL_law_1353 (by decide) ?_
    refine lv_iload (pc := 1358) E.1 E.2 dL_law_1358 (lv_at hl 1 rfl) ?_
    refine z_if_ne (pc := 1360) (tgt := 1375) E (by decide) dL_law_1360 (by decide) (fun h => absurd rfl h) (fun _ => ?_)
    refine lv_aload_n (pc := 1363) E.1 E.2 dL_law_1363 rfl (lv_at hl 5 rfl) ?_
    refine z_iconst (pc := 1364) E dL_law_1364 ?_
    refine z_laloadE (pc := 1365) E hK hA (by decide) (by decide) (show zu fq 0 (rI ((rooS σ (pjF σ (sx xs (i + 1)))))) 0 = rI ((rooS σ (pjF σ (sx xs (i + 1))))) from if_pos rfl) dL_law_1365 ?_
    refine lv_iload (pc := 1366) E.1 E.2 dL_law_1366 (lv_at hl 0 rfl) ?_
    refine z_i2lR (pc := 1368) E dL_law_1368 ?_
    refine z_sameL (pc := 1369) (tgt := 1375) E (if_pos hk8).symm dL_law_1369 dL_law_1370 (by decide) ?_
    refine lv_goto (pc := 1375) (tgt := 2822) E.1 E.2 dL_law_1375 (by decide) ?_
    refine W.widen (k := cells + 1) (n := slots + 6) (by omega) (by omega) ?_
    exact kk H locs ls ⟨⟨_, _, _, _, _, _, _, _, _, hQ, hW, hR.id rfl rfl rfl rfl⟩, ⟨_, hA⟩, ⟨_, hD⟩⟩ hS (lv_sub hl [2, 3, 4, 5, 6, 7] rfl)
  · refine z_lwc (pc := 1330) (As := [.ref (qo s.heap.size 0), .int (iI (sx xs (i + 1))), .ref (s.heap.size + 193)]) (rest := []) E hml hown hts (mbL_room l hst G (qo s.heap.size) ν σ π δ (fun j => sg8 (β j)) ω (sx xs (i + 1)) hR.ok.1 (sx_b _ _) hk (s.heap.size + 193) fq) (vx_cwSW 3 hts gL_law_L_room rfl rfl rfl vdL_room.2 ⟨Nat.le_of_ble_eq_true rfl, Nat.le_of_ble_eq_true rfl⟩) ⟨hQ, hA⟩ hK hX hS (fun q h => h.elim) rfl hl.1 rfl dL_law_1330 ⟨by omega, by omega⟩ (Nat.le_of_ble_eq_true rfl) (fun H locs hQA hsz hoth hS => ?_)
    obtain ⟨hQ, hA⟩ := hQA
    have hW := hW.kp (fun k hk => hoth _ (hW.lt k hk) (fun h => h))
    have hD := hD.kp (hoth _ hD.lt (fun h => h))
    have hkb : -2147483648 ≤ (kxFo σ (sx xs (i + 1))) ∧ (kxFo σ (sx xs (i + 1))) < 2147483648 := by unfold kxFo; (try unfold kxPK); (repeat' split) <;> decide
    have hkn : ¬ (kxFo σ (sx xs (i + 1))) = 0 := hk
    refine lv_istore (pc := 1333) (lv' := [(6, .int (iI ((kxFo σ (sx xs (i + 1)))))), (0, .ref (b)), (1, .ref (qo s.heap.size 0)), (2, .ref (s.heap.size + 187 + 0)), (3, .ref (s.heap.size + 193)), (4, .ref (s.heap.size + 194)), (5, .int (iI (i)))]) E.1 E.2 dL_law_1333 hl (by decide) rfl (fun ls hl => ?_)
    refine lv_aload_n (pc := 1335) E.1 E.2 dL_law_1335 rfl (lv_at hl 3 rfl) ?_
    refine lv_aload_n (pc := 1336) E.1 E.2 dL_law_1336 rfl (lv_at hl 1 rfl) ?_
    refine lv_iload (pc := 1337) E.1 E.2 dL_law_1337 (lv_at hl 6 rfl) ?_
    refine z_iconst (pc := 1339) E dL_law_1339 ?_
    refine z_iadd (pc := 1340) E dL_law_1340 ?_
    refine z_sld (pc := 1341) E hx hb hbA hS ⟨by omega, by omega⟩ hL dL_law_1341 ?_
    refine z_wVi (pc := 1342) (As := [.int (iI (sx xs (i + 1)))]) (rest := []) E hml hown hts (mX8_room l G (fun k => s.heap.size + 187 + k) μ σ φ κ β ω (sx xs (i + 1)) hR.ok.1 (sx_b _ _)) (cwV 1 hts gL_law_X8_room rfl rfl rfl vdX8_room ⟨Nat.le_of_ble_eq_true rfl, Nat.le_of_ble_eq_true rfl⟩) (hW.1.recv hK rfl) hW hK hS (fun q h => la_8 h) rfl hl.1 rfl dL_law_1342 ⟨by omega, by omega⟩ (Nat.le_of_ble_eq_true rfl) (fun H locs hW hsz hoth hS => ?_)
    have hQ := hQ.kp (fun k hk => hoth _ (hQ.lt k hk) (lb_8 hk))
    have hA := hA.kp (hoth _ hA.lt le_193)
    have hD := hD.kp (hoth _ hD.lt le_194)
    have hk8 := hk
    try simp only [if_neg hk8] at hW
    refine lv_istore (pc := 1345) (lv' := [(7, .int (iI ((if (kxFo σ (sx xs (i + 1))) = 0 then rooS σ (pjF σ (sx xs (i + 1))) else 0)))), (6, .int (iI ((kxFo σ (sx xs (i + 1)))))), (0, .ref (b)), (1, .ref (qo s.heap.size 0)), (2, .ref (s.heap.size + 187 + 0)), (3, .ref (s.heap.size + 193)), (4, .ref (s.heap.size + 194)), (5, .int (iI (i)))]) E.1 E.2 dL_law_1345 hl (by decide) rfl (fun ls hl => ?_)
    refine lv_aload_n (pc := 1347) E.1 E.2 dL_law_1347 rfl (lv_at hl 4 rfl) ?_
    refine z_rVi (pc := 1348) (As := []) (rest := []) E hml hown hts (mX8_thrown l G (fun k => s.heap.size + 187 + k) _ _ _ _ _ _) (cwV 0 hts gL_law_X8_thrown rfl rfl rfl vdX8_thrown ⟨Nat.le_of_ble_eq_true rfl, Nat.le_of_ble_eq_true rfl⟩) (hW.1.recv hK rfl) hW hK rfl hl.1 rfl dL_law_1348 ⟨by omega, by omega⟩ (Nat.le_of_ble_eq_true rfl) ?_
    refine lv_iload (pc := 1351) E.1 E.2 dL_law_1351 (lv_at hl 1 rfl) ?_
    refine z_same (pc := 1353) (tgt := 1358) E rfl dL_law_1353 (by decide) ?_
    refine lv_iload (pc := 1358) E.1 E.2 dL_law_1358 (lv_at hl 1 rfl) ?_
    refine z_if_ne (pc := 1360) (tgt := 1375) E hkb dL_law_1360 (by decide) (fun _ => ?_) (fun h => absurd h hkn)
    refine lv_goto (pc := 1375) (tgt := 2822) E.1 E.2 dL_law_1375 (by decide) ?_
    refine W.widen (k := cells + 1) (n := slots + 6) (by omega) (by omega) ?_
    exact kk H locs ls ⟨⟨_, _, _, _, _, _, _, _, _, hQ, hW, hR.id rfl rfl rfl rfl⟩, ⟨_, hA⟩, ⟨_, hD⟩⟩ hS (lv_sub hl [2, 3, 4, 5, 6, 7] rfl)
set_option maxHeartbeats 1000000 in
set_option maxRecDepth 100000 in
theorem cs_resize {p : Program} {l : Launch} {e : Env} {s : State} {m : MethodId} {below : List Frame} {meth : Method} {c : Code} {G : GG} {b L : Nat} {xs : Nat → Int32} {aK aV : Nat → Nat} (X : LX p l s m c G b L xs aK aV) {n : Nat} {i : Int} {H : Heap} {locs : List Loc} {ls : Array Slot} {cells slots : Nat} {Q : State → Prop} (hn : n ≤ 600) (hi : 0 ≤ i ∧ i + 6 ≤ (L : Int)) (hH : LH G n s.heap.size H) (hS : va_S (fun q => s.heap.size ≤ q) s.heap H locs) (hl : lv_has ls 8 [(0, .ref b), (1, .ref (qo s.heap.size 0)), (2, .ref (s.heap.size + 187 + 0)), (3, .ref (s.heap.size + 193)), (4, .ref (s.heap.size + 194)), (5, .int (iI i))]) (hc : cells + 1 ≤ room_1.cells) (hsl : slots + 6 ≤ room_1.slots) (kk : ∀ (H : Heap) (locs : List Loc) (ls : Array Slot), LH G (n + 1) s.heap.size H → va_S (fun q => s.heap.size ≤ q) s.heap H locs → lv_has ls 8 [(0, .ref b), (1, .ref (qo s.heap.size 0)), (2, .ref (s.heap.size + 187 + 0)), (3, .ref (s.heap.size + 193)), (4, .ref (s.heap.size + 194)), (5, .int (iI i))] → W p l e room_1 s m #[Value.ref b] below meth c H locs (cells + 1) (slots + 6) Q (F0 m 2822 ls [])) : W p l e room_1 s m #[Value.ref b] below meth c H locs cells slots Q (F0 m 1378 ls []) := by
  obtain ⟨E, hml, hown, hts, hK, hX0, hx, hb, hst, hL, hks⟩ := X
  obtain ⟨⟨ν, σ, π, δ, β, ω, μ, φ, κ, hQ, hW, hR⟩, ⟨fq, hA⟩, ⟨xq, hD⟩⟩ := hH
  have hX : KX FF0 s H := (hX0.kept (fun a ha hna => hS.2.1 a ha hna)).narrow (fun q h => h.elim)
  have hbA : ¬ (s.heap.size ≤ b) := by omega
  refine lv_aload_n (pc := 1378) E.1 E.2 dL_law_1378 rfl (lv_at hl 1 rfl) ?_
  refine lv_aload_n (pc := 1379) E.1 E.2 dL_law_1379 rfl (lv_at hl 0 rfl) ?_
  refine lv_iload (pc := 1380) E.1 E.2 dL_law_1380 (lv_at hl 5 rfl) ?_
  refine z_iconst (pc := 1382) E dL_law_1382 ?_
  refine z_iadd (pc := 1383) E dL_law_1383 ?_
  refine z_sld (pc := 1384) E hx hb hbA hS ⟨by omega, by omega⟩ hL dL_law_1384 ?_
  refine lv_aload_n (pc := 1385) E.1 E.2 dL_law_1385 rfl (lv_at hl 0 rfl) ?_
  refine lv_iload (pc := 1386) E.1 E.2 dL_law_1386 (lv_at hl 5 rfl) ?_
  refine z_iconst (pc := 1388) E dL_law_1388 ?_
  refine z_iadd (pc := 1389) E dL_law_1389 ?_
  refine z_sld (pc := 1390) E hx hb hbA hS ⟨by omega, by omega⟩ hL dL_law_1390 ?_
  refine lv_aload_n (pc := 1391) E.1 E.2 dL_law_1391 rfl (lv_at hl 3 rfl) ?_
  by_cases hk : (kxResize σ (sx xs (i + 1)) (sx xs (i + 2))) = 0
  · refine z_lwc (pc := 1392) (As := [.ref (qo s.heap.size 0), .int (iI (sx xs (i + 1))), .int (iI (sx xs (i + 2))), .ref (s.heap.size + 193)]) (rest := []) E hml hown hts (mL_resize l G (qo s.heap.size) ν σ π δ (fun j => sg8 (β j)) ω (sx xs (i + 1)) (sx xs (i + 2)) hR.ok.1 (sx_b _ _) (sx_b _ _) hk (hR.hc hn) hR.hu (hR.ok.ub hn) (s.heap.size + 193) fq (fun k hk => by have := qo_b s.heap.size hk; omega)) (vx_cwSW 4 hts gL_law_L_resize rfl rfl rfl vdL_resize.2 ⟨Nat.le_of_ble_eq_true rfl, Nat.le_of_ble_eq_true rfl⟩) ⟨hQ, hA⟩ hK hX hS (fun q h => la_193 h) rfl hl.1 rfl dL_law_1392 ⟨by omega, by omega⟩ (Nat.le_of_ble_eq_true rfl) (fun H locs hQA hsz hoth hS => ?_)
    obtain ⟨hQ, hA⟩ := hQA
    have hW := hW.kp (fun k hk => hoth _ (hW.lt k hk) (lb_193 hk))
    have hD := hD.kp (hoth _ hD.lt lc_193)
    refine lv_istore (pc := 1395) (lv' := [(6, .int (iI (0))), (0, .ref (b)), (1, .ref (qo s.heap.size 0)), (2, .ref (s.heap.size + 187 + 0)), (3, .ref (s.heap.size + 193)), (4, .ref (s.heap.size + 194)), (5, .int (iI (i)))]) E.1 E.2 dL_law_1395 hl (by decide) rfl (fun ls hl => ?_)
    refine lv_aload_n (pc := 1397) E.1 E.2 dL_law_1397 rfl (lv_at hl 3 rfl) ?_
    refine lv_aload_n (pc := 1398) E.1 E.2 dL_law_1398 rfl (lv_at hl 1 rfl) ?_
    refine lv_iload (pc := 1399) E.1 E.2 dL_law_1399 (lv_at hl 6 rfl) ?_
    refine z_iconst (pc := 1401) E dL_law_1401 ?_
    refine z_iadd (pc := 1402) E dL_law_1402 ?_
    refine z_sld (pc := 1403) E hx hb hbA hS ⟨by omega, by omega⟩ hL dL_law_1403 ?_
    refine lv_aload_n (pc := 1404) E.1 E.2 dL_law_1404 rfl (lv_at hl 1 rfl) ?_
    refine lv_iload (pc := 1405) E.1 E.2 dL_law_1405 (lv_at hl 6 rfl) ?_
    refine z_iconst (pc := 1407) E dL_law_1407 ?_
    refine z_iadd (pc := 1408) E dL_law_1408 ?_
    refine z_sld (pc := 1409) E hx hb hbA hS ⟨by omega, by omega⟩ hL dL_law_1409 ?_
    refine z_wVi (pc := 1410) (As := [.int (iI (sx xs (i + 1))), .int (iI (sx xs (i + 2)))]) (rest := []) E hml hown hts (mX8_resize l G (fun k => s.heap.size + 187 + k) μ σ φ κ β ω (sx xs (i + 1)) (sx xs (i + 2)) hR.ok.1 (sx_b _ _) (sx_b _ _) hR.m3 (hR.ok.ub hn)) (cwV 2 hts gL_law_X8_resize rfl rfl rfl vdX8_resize ⟨Nat.le_of_ble_eq_true rfl, Nat.le_of_ble_eq_true rfl⟩) (hW.1.recv hK rfl) hW hK hS (fun q h => la_8 h) rfl hl.1 rfl dL_law_1410 ⟨by omega, by omega⟩ (Nat.le_of_ble_eq_true rfl) (fun H locs hW hsz hoth hS => ?_)
    have hQ := hQ.kp (fun k hk => hoth _ (hQ.lt k hk) (lb_8 hk))
    have hA := hA.kp (hoth _ hA.lt le_193)
    have hD := hD.kp (hoth _ hD.lt le_194)
    have hk8 := hk
    try simp only [if_pos hk8] at hW
    refine lv_istore (pc := 1413) (lv' := [(7, .int (iI ((if (kxResize σ (sx xs (i + 1)) (sx xs (i + 2))) = 0 then σ (249 + (sx xs (i + 1))) else 0)))), (6, .int (iI (0))), (0, .ref (b)), (1, .ref (qo s.heap.size 0)), (2, .ref (s.heap.size + 187 + 0)), (3, .ref (s.heap.size + 193)), (4, .ref (s.heap.size + 194)), (5, .int (iI (i)))]) E.1 E.2 dL_law_1413 hl (by decide) rfl (fun ls hl => ?_)
    refine lv_aload_n (pc := 1415) E.1 E.2 dL_law_1415 rfl (lv_at hl 4 rfl) ?_
    refine z_rVi (pc := 1416) (As := []) (rest := []) E hml hown hts (mX8_thrown l G (fun k => s.heap.size + 187 + k) _ _ _ _ _ _) (cwV 0 hts gL_law_X8_thrown rfl rfl rfl vdX8_thrown ⟨Nat.le_of_ble_eq_true rfl, Nat.le_of_ble_eq_true rfl⟩) (hW.1.recv hK rfl) hW hK rfl hl.1 rfl dL_law_1416 ⟨by omega, by omega⟩ (Nat.le_of_ble_eq_true rfl) ?_
    refine lv_iload (pc := 1419) E.1 E.2 dL_law_1419 (lv_at hl 1 rfl) ?_
    refine z_same (pc := 1421) (tgt := 1426) E hk8 dL_law_1421 (by decide) ?_
    refine lv_iload (pc := 1426) E.1 E.2 dL_law_1426 (lv_at hl 1 rfl) ?_
    refine z_if_ne (pc := 1428) (tgt := 1443) E (by decide) dL_law_1428 (by decide) (fun h => absurd rfl h) (fun _ => ?_)
    refine lv_aload_n (pc := 1431) E.1 E.2 dL_law_1431 rfl (lv_at hl 5 rfl) ?_
    refine z_iconst (pc := 1432) E dL_law_1432 ?_
    refine z_laloadE (pc := 1433) E hK hA (by decide) (by decide) (show zu fq 0 (rI ((σ (249 + (sx xs (i + 1)))))) 0 = rI ((σ (249 + (sx xs (i + 1))))) from if_pos rfl) dL_law_1433 ?_
    refine lv_iload (pc := 1434) E.1 E.2 dL_law_1434 (lv_at hl 0 rfl) ?_
    refine z_i2lR (pc := 1436) E dL_law_1436 ?_
    refine z_sameL (pc := 1437) (tgt := 1443) E (if_pos hk8).symm dL_law_1437 dL_law_1438 (by decide) ?_
    refine lv_goto (pc := 1443) (tgt := 2822) E.1 E.2 dL_law_1443 (by decide) ?_
    refine W.widen (k := cells + 1) (n := slots + 6) (by omega) (by omega) ?_
    exact kk H locs ls ⟨⟨_, _, _, _, _, _, _, _, _, hQ, hW, hR.wr (ok_Resize hR.ok hn hk) rfl rfl hR.e6 hR.m6 rfl hR.e14 rfl rfl⟩, ⟨_, hA⟩, ⟨_, hD⟩⟩ hS (lv_sub hl [2, 3, 4, 5, 6, 7] rfl)
  · refine z_lwc (pc := 1392) (As := [.ref (qo s.heap.size 0), .int (iI (sx xs (i + 1))), .int (iI (sx xs (i + 2))), .ref (s.heap.size + 193)]) (rest := []) E hml hown hts (mbL_resize l hst G (qo s.heap.size) ν σ π δ (fun j => sg8 (β j)) ω (sx xs (i + 1)) (sx xs (i + 2)) hR.ok.1 (sx_b _ _) (sx_b _ _) hk (s.heap.size + 193) fq) (vx_cwSW 4 hts gL_law_L_resize rfl rfl rfl vdL_resize.2 ⟨Nat.le_of_ble_eq_true rfl, Nat.le_of_ble_eq_true rfl⟩) ⟨hQ, hA⟩ hK hX hS (fun q h => h.elim) rfl hl.1 rfl dL_law_1392 ⟨by omega, by omega⟩ (Nat.le_of_ble_eq_true rfl) (fun H locs hQA hsz hoth hS => ?_)
    obtain ⟨hQ, hA⟩ := hQA
    have hW := hW.kp (fun k hk => hoth _ (hW.lt k hk) (fun h => h))
    have hD := hD.kp (hoth _ hD.lt (fun h => h))
    have hkb : -2147483648 ≤ (kxResize σ (sx xs (i + 1)) (sx xs (i + 2))) ∧ (kxResize σ (sx xs (i + 1)) (sx xs (i + 2))) < 2147483648 := by unfold kxResize; (try unfold kxPK); (repeat' split) <;> decide
    have hkn : ¬ (kxResize σ (sx xs (i + 1)) (sx xs (i + 2))) = 0 := hk
    refine lv_istore (pc := 1395) (lv' := [(6, .int (iI ((kxResize σ (sx xs (i + 1)) (sx xs (i + 2)))))), (0, .ref (b)), (1, .ref (qo s.heap.size 0)), (2, .ref (s.heap.size + 187 + 0)), (3, .ref (s.heap.size + 193)), (4, .ref (s.heap.size + 194)), (5, .int (iI (i)))]) E.1 E.2 dL_law_1395 hl (by decide) rfl (fun ls hl => ?_)
    refine lv_aload_n (pc := 1397) E.1 E.2 dL_law_1397 rfl (lv_at hl 3 rfl) ?_
    refine lv_aload_n (pc := 1398) E.1 E.2 dL_law_1398 rfl (lv_at hl 1 rfl) ?_
    refine lv_iload (pc := 1399) E.1 E.2 dL_law_1399 (lv_at hl 6 rfl) ?_
    refine z_iconst (pc := 1401) E dL_law_1401 ?_
    refine z_iadd (pc := 1402) E dL_law_1402 ?_
    refine z_sld (pc := 1403) E hx hb hbA hS ⟨by omega, by omega⟩ hL dL_law_1403 ?_
    refine lv_aload_n (pc := 1404) E.1 E.2 dL_law_1404 rfl (lv_at hl 1 rfl) ?_
    refine lv_iload (pc := 1405) E.1 E.2 dL_law_1405 (lv_at hl 6 rfl) ?_
    refine z_iconst (pc := 1407) E dL_law_1407 ?_
    refine z_iadd (pc := 1408) E dL_law_1408 ?_
    refine z_sld (pc := 1409) E hx hb hbA hS ⟨by omega, by omega⟩ hL dL_law_1409 ?_
    refine z_wVi (pc := 1410) (As := [.int (iI (sx xs (i + 1))), .int (iI (sx xs (i + 2)))]) (rest := []) E hml hown hts (mX8_resize l G (fun k => s.heap.size + 187 + k) μ σ φ κ β ω (sx xs (i + 1)) (sx xs (i + 2)) hR.ok.1 (sx_b _ _) (sx_b _ _) hR.m3 (hR.ok.ub hn)) (cwV 2 hts gL_law_X8_resize rfl rfl rfl vdX8_resize ⟨Nat.le_of_ble_eq_true rfl, Nat.le_of_ble_eq_true rfl⟩) (hW.1.recv hK rfl) hW hK hS (fun q h => la_8 h) rfl hl.1 rfl dL_law_1410 ⟨by omega, by omega⟩ (Nat.le_of_ble_eq_true rfl) (fun H locs hW hsz hoth hS => ?_)
    have hQ := hQ.kp (fun k hk => hoth _ (hQ.lt k hk) (lb_8 hk))
    have hA := hA.kp (hoth _ hA.lt le_193)
    have hD := hD.kp (hoth _ hD.lt le_194)
    have hk8 := hk
    try simp only [if_neg hk8] at hW
    refine lv_istore (pc := 1413) (lv' := [(7, .int (iI ((if (kxResize σ (sx xs (i + 1)) (sx xs (i + 2))) = 0 then σ (249 + (sx xs (i + 1))) else 0)))), (6, .int (iI ((kxResize σ (sx xs (i + 1)) (sx xs (i + 2)))))), (0, .ref (b)), (1, .ref (qo s.heap.size 0)), (2, .ref (s.heap.size + 187 + 0)), (3, .ref (s.heap.size + 193)), (4, .ref (s.heap.size + 194)), (5, .int (iI (i)))]) E.1 E.2 dL_law_1413 hl (by decide) rfl (fun ls hl => ?_)
    refine lv_aload_n (pc := 1415) E.1 E.2 dL_law_1415 rfl (lv_at hl 4 rfl) ?_
    refine z_rVi (pc := 1416) (As := []) (rest := []) E hml hown hts (mX8_thrown l G (fun k => s.heap.size + 187 + k) _ _ _ _ _ _) (cwV 0 hts gL_law_X8_thrown rfl rfl rfl vdX8_thrown ⟨Nat.le_of_ble_eq_true rfl, Nat.le_of_ble_eq_true rfl⟩) (hW.1.recv hK rfl) hW hK rfl hl.1 rfl dL_law_1416 ⟨by omega, by omega⟩ (Nat.le_of_ble_eq_true rfl) ?_
    refine lv_iload (pc := 1419) E.1 E.2 dL_law_1419 (lv_at hl 1 rfl) ?_
    refine z_same (pc := 1421) (tgt := 1426) E rfl dL_law_1421 (by decide) ?_
    refine lv_iload (pc := 1426) E.1 E.2 dL_law_1426 (lv_at hl 1 rfl) ?_
    refine z_if_ne (pc := 1428) (tgt := 1443) E hkb dL_law_1428 (by decide) (fun _ => ?_) (fun h => absurd h hkn)
    refine lv_goto (pc := 1443) (tgt := 2822) E.1 E.2 dL_law_1443 (by decide) ?_
    refine W.widen (k := cells + 1) (n := slots + 6) (by omega) (by omega) ?_
    exact kk H locs ls ⟨⟨_, _, _, _, _, _, _, _, _, hQ, hW, hR.id rfl rfl rfl rfl⟩, ⟨_, hA⟩, ⟨_, hD⟩⟩ hS (lv_sub hl [2, 3, 4, 5, 6, 7] rfl)
set_option maxHeartbeats 1000000 in
set_option maxRecDepth 100000 in
theorem cs_delete {p : Program} {l : Launch} {e : Env} {s : State} {m : MethodId} {below : List Frame} {meth : Method} {c : Code} {G : GG} {b L : Nat} {xs : Nat → Int32} {aK aV : Nat → Nat} (X : LX p l s m c G b L xs aK aV) {n : Nat} {i : Int} {H : Heap} {locs : List Loc} {ls : Array Slot} {cells slots : Nat} {Q : State → Prop} (hn : n ≤ 600) (hi : 0 ≤ i ∧ i + 6 ≤ (L : Int)) (hH : LH G n s.heap.size H) (hS : va_S (fun q => s.heap.size ≤ q) s.heap H locs) (hl : lv_has ls 8 [(0, .ref b), (1, .ref (qo s.heap.size 0)), (2, .ref (s.heap.size + 187 + 0)), (3, .ref (s.heap.size + 193)), (4, .ref (s.heap.size + 194)), (5, .int (iI i))]) (hc : cells + 1 ≤ room_1.cells) (hsl : slots + 6 ≤ room_1.slots) (kk : ∀ (H : Heap) (locs : List Loc) (ls : Array Slot), LH G (n + 1) s.heap.size H → va_S (fun q => s.heap.size ≤ q) s.heap H locs → lv_has ls 8 [(0, .ref b), (1, .ref (qo s.heap.size 0)), (2, .ref (s.heap.size + 187 + 0)), (3, .ref (s.heap.size + 193)), (4, .ref (s.heap.size + 194)), (5, .int (iI i))] → W p l e room_1 s m #[Value.ref b] below meth c H locs (cells + 1) (slots + 6) Q (F0 m 2822 ls [])) : W p l e room_1 s m #[Value.ref b] below meth c H locs cells slots Q (F0 m 1446 ls []) := by
  obtain ⟨E, hml, hown, hts, hK, hX0, hx, hb, hst, hL, hks⟩ := X
  obtain ⟨⟨ν, σ, π, δ, β, ω, μ, φ, κ, hQ, hW, hR⟩, ⟨fq, hA⟩, ⟨xq, hD⟩⟩ := hH
  have hX : KX FF0 s H := (hX0.kept (fun a ha hna => hS.2.1 a ha hna)).narrow (fun q h => h.elim)
  have hbA : ¬ (s.heap.size ≤ b) := by omega
  refine lv_aload_n (pc := 1446) E.1 E.2 dL_law_1446 rfl (lv_at hl 1 rfl) ?_
  refine lv_aload_n (pc := 1447) E.1 E.2 dL_law_1447 rfl (lv_at hl 0 rfl) ?_
  refine lv_iload (pc := 1448) E.1 E.2 dL_law_1448 (lv_at hl 5 rfl) ?_
  refine z_iconst (pc := 1450) E dL_law_1450 ?_
  refine z_iadd (pc := 1451) E dL_law_1451 ?_
  refine z_sld (pc := 1452) E hx hb hbA hS ⟨by omega, by omega⟩ hL dL_law_1452 ?_
  refine lv_aload_n (pc := 1453) E.1 E.2 dL_law_1453 rfl (lv_at hl 3 rfl) ?_
  by_cases hk : (kxFi σ (sx xs (i + 1))) = 0
  · refine z_lwc (pc := 1454) (As := [.ref (qo s.heap.size 0), .int (iI (sx xs (i + 1))), .ref (s.heap.size + 193)]) (rest := []) E hml hown hts (mL_delete l G (qo s.heap.size) ν σ π δ (fun j => sg8 (β j)) ω (sx xs (i + 1)) hR.ok.1 (sx_b _ _) hk (hR.hc hn) hR.hu (s.heap.size + 193) fq (fun k hk => by have := qo_b s.heap.size hk; omega)) (vx_cwSW 3 hts gL_law_L_delete rfl rfl rfl vdL_delete.2 ⟨Nat.le_of_ble_eq_true rfl, Nat.le_of_ble_eq_true rfl⟩) ⟨hQ, hA⟩ hK hX hS (fun q h => la_193 h) rfl hl.1 rfl dL_law_1454 ⟨by omega, by omega⟩ (Nat.le_of_ble_eq_true rfl) (fun H locs hQA hsz hoth hS => ?_)
    obtain ⟨hQ, hA⟩ := hQA
    have hW := hW.kp (fun k hk => hoth _ (hW.lt k hk) (lb_193 hk))
    have hD := hD.kp (hoth _ hD.lt lc_193)
    refine lv_istore (pc := 1457) (lv' := [(6, .int (iI (0))), (0, .ref (b)), (1, .ref (qo s.heap.size 0)), (2, .ref (s.heap.size + 187 + 0)), (3, .ref (s.heap.size + 193)), (4, .ref (s.heap.size + 194)), (5, .int (iI (i)))]) E.1 E.2 dL_law_1457 hl (by decide) rfl (fun ls hl => ?_)
    refine lv_aload_n (pc := 1459) E.1 E.2 dL_law_1459 rfl (lv_at hl 3 rfl) ?_
    refine lv_aload_n (pc := 1460) E.1 E.2 dL_law_1460 rfl (lv_at hl 1 rfl) ?_
    refine lv_iload (pc := 1461) E.1 E.2 dL_law_1461 (lv_at hl 6 rfl) ?_
    refine z_iconst (pc := 1463) E dL_law_1463 ?_
    refine z_iadd (pc := 1464) E dL_law_1464 ?_
    refine z_sld (pc := 1465) E hx hb hbA hS ⟨by omega, by omega⟩ hL dL_law_1465 ?_
    refine z_wVi (pc := 1466) (As := [.int (iI (sx xs (i + 1)))]) (rest := []) E hml hown hts (mX8_delete l G (fun k => s.heap.size + 187 + k) μ σ φ κ β ω (sx xs (i + 1)) hR.ok.1 (sx_b _ _) hR.m3) (cwV 1 hts gL_law_X8_delete rfl rfl rfl vdX8_delete ⟨Nat.le_of_ble_eq_true rfl, Nat.le_of_ble_eq_true rfl⟩) (hW.1.recv hK rfl) hW hK hS (fun q h => la_8 h) rfl hl.1 rfl dL_law_1466 ⟨by omega, by omega⟩ (Nat.le_of_ble_eq_true rfl) (fun H locs hW hsz hoth hS => ?_)
    have hQ := hQ.kp (fun k hk => hoth _ (hQ.lt k hk) (lb_8 hk))
    have hA := hA.kp (hoth _ hA.lt le_193)
    have hD := hD.kp (hoth _ hD.lt le_194)
    have hk8 := hk
    try simp only [if_pos hk8] at hW
    refine lv_istore (pc := 1469) (lv' := [(7, .int (iI ((if (kxFi σ (sx xs (i + 1))) = 0 then σ 3 - 1 else 0)))), (6, .int (iI (0))), (0, .ref (b)), (1, .ref (qo s.heap.size 0)), (2, .ref (s.heap.size + 187 + 0)), (3, .ref (s.heap.size + 193)), (4, .ref (s.heap.size + 194)), (5, .int (iI (i)))]) E.1 E.2 dL_law_1469 hl (by decide) rfl (fun ls hl => ?_)
    refine lv_aload_n (pc := 1471) E.1 E.2 dL_law_1471 rfl (lv_at hl 4 rfl) ?_
    refine z_rVi (pc := 1472) (As := []) (rest := []) E hml hown hts (mX8_thrown l G (fun k => s.heap.size + 187 + k) _ _ _ _ _ _) (cwV 0 hts gL_law_X8_thrown rfl rfl rfl vdX8_thrown ⟨Nat.le_of_ble_eq_true rfl, Nat.le_of_ble_eq_true rfl⟩) (hW.1.recv hK rfl) hW hK rfl hl.1 rfl dL_law_1472 ⟨by omega, by omega⟩ (Nat.le_of_ble_eq_true rfl) ?_
    refine lv_iload (pc := 1475) E.1 E.2 dL_law_1475 (lv_at hl 1 rfl) ?_
    refine z_same (pc := 1477) (tgt := 1482) E hk8 dL_law_1477 (by decide) ?_
    refine lv_iload (pc := 1482) E.1 E.2 dL_law_1482 (lv_at hl 1 rfl) ?_
    refine z_if_ne (pc := 1484) (tgt := 1499) E (by decide) dL_law_1484 (by decide) (fun h => absurd rfl h) (fun _ => ?_)
    refine lv_aload_n (pc := 1487) E.1 E.2 dL_law_1487 rfl (lv_at hl 5 rfl) ?_
    refine z_iconst (pc := 1488) E dL_law_1488 ?_
    refine z_laloadE (pc := 1489) E hK hA (by decide) (by decide) (show zu fq 0 (rI ((σ 3 - 1))) 0 = rI ((σ 3 - 1)) from if_pos rfl) dL_law_1489 ?_
    refine lv_iload (pc := 1490) E.1 E.2 dL_law_1490 (lv_at hl 0 rfl) ?_
    refine z_i2lR (pc := 1492) E dL_law_1492 ?_
    refine z_sameL (pc := 1493) (tgt := 1499) E (if_pos hk8).symm dL_law_1493 dL_law_1494 (by decide) ?_
    refine lv_goto (pc := 1499) (tgt := 2822) E.1 E.2 dL_law_1499 (by decide) ?_
    refine W.widen (k := cells + 1) (n := slots + 6) (by omega) (by omega) ?_
    exact kk H locs ls ⟨⟨_, _, _, _, _, _, _, _, _, hQ, hW, hR.wr (ok_Delete hR.ok hk) rfl rfl hR.e6 hR.m6 rfl hR.e14 rfl rfl⟩, ⟨_, hA⟩, ⟨_, hD⟩⟩ hS (lv_sub hl [2, 3, 4, 5, 6, 7] rfl)
  · refine z_lwc (pc := 1454) (As := [.ref (qo s.heap.size 0), .int (iI (sx xs (i + 1))), .ref (s.heap.size + 193)]) (rest := []) E hml hown hts (mbL_delete l hst G (qo s.heap.size) ν σ π δ (fun j => sg8 (β j)) ω (sx xs (i + 1)) hR.ok.1 (sx_b _ _) hk (s.heap.size + 193) fq) (vx_cwSW 3 hts gL_law_L_delete rfl rfl rfl vdL_delete.2 ⟨Nat.le_of_ble_eq_true rfl, Nat.le_of_ble_eq_true rfl⟩) ⟨hQ, hA⟩ hK hX hS (fun q h => h.elim) rfl hl.1 rfl dL_law_1454 ⟨by omega, by omega⟩ (Nat.le_of_ble_eq_true rfl) (fun H locs hQA hsz hoth hS => ?_)
    obtain ⟨hQ, hA⟩ := hQA
    have hW := hW.kp (fun k hk => hoth _ (hW.lt k hk) (fun h => h))
    have hD := hD.kp (hoth _ hD.lt (fun h => h))
    have hkb : -2147483648 ≤ (kxFi σ (sx xs (i + 1))) ∧ (kxFi σ (sx xs (i + 1))) < 2147483648 := by unfold kxFi; (try unfold kxPK); (repeat' split) <;> decide
    have hkn : ¬ (kxFi σ (sx xs (i + 1))) = 0 := hk
    refine lv_istore (pc := 1457) (lv' := [(6, .int (iI ((kxFi σ (sx xs (i + 1)))))), (0, .ref (b)), (1, .ref (qo s.heap.size 0)), (2, .ref (s.heap.size + 187 + 0)), (3, .ref (s.heap.size + 193)), (4, .ref (s.heap.size + 194)), (5, .int (iI (i)))]) E.1 E.2 dL_law_1457 hl (by decide) rfl (fun ls hl => ?_)
    refine lv_aload_n (pc := 1459) E.1 E.2 dL_law_1459 rfl (lv_at hl 3 rfl) ?_
    refine lv_aload_n (pc := 1460) E.1 E.2 dL_law_1460 rfl (lv_at hl 1 rfl) ?_
    refine lv_iload (pc := 1461) E.1 E.2 dL_law_1461 (lv_at hl 6 rfl) ?_
    refine z_iconst (pc := 1463) E dL_law_1463 ?_
    refine z_iadd (pc := 1464) E dL_law_1464 ?_
    refine z_sld (pc := 1465) E hx hb hbA hS ⟨by omega, by omega⟩ hL dL_law_1465 ?_
    refine z_wVi (pc := 1466) (As := [.int (iI (sx xs (i + 1)))]) (rest := []) E hml hown hts (mX8_delete l G (fun k => s.heap.size + 187 + k) μ σ φ κ β ω (sx xs (i + 1)) hR.ok.1 (sx_b _ _) hR.m3) (cwV 1 hts gL_law_X8_delete rfl rfl rfl vdX8_delete ⟨Nat.le_of_ble_eq_true rfl, Nat.le_of_ble_eq_true rfl⟩) (hW.1.recv hK rfl) hW hK hS (fun q h => la_8 h) rfl hl.1 rfl dL_law_1466 ⟨by omega, by omega⟩ (Nat.le_of_ble_eq_true rfl) (fun H locs hW hsz hoth hS => ?_)
    have hQ := hQ.kp (fun k hk => hoth _ (hQ.lt k hk) (lb_8 hk))
    have hA := hA.kp (hoth _ hA.lt le_193)
    have hD := hD.kp (hoth _ hD.lt le_194)
    have hk8 := hk
    try simp only [if_neg hk8] at hW
    refine lv_istore (pc := 1469) (lv' := [(7, .int (iI ((if (kxFi σ (sx xs (i + 1))) = 0 then σ 3 - 1 else 0)))), (6, .int (iI ((kxFi σ (sx xs (i + 1)))))), (0, .ref (b)), (1, .ref (qo s.heap.size 0)), (2, .ref (s.heap.size + 187 + 0)), (3, .ref (s.heap.size + 193)), (4, .ref (s.heap.size + 194)), (5, .int (iI (i)))]) E.1 E.2 dL_law_1469 hl (by decide) rfl (fun ls hl => ?_)
    refine lv_aload_n (pc := 1471) E.1 E.2 dL_law_1471 rfl (lv_at hl 4 rfl) ?_
    refine z_rVi (pc := 1472) (As := []) (rest := []) E hml hown hts (mX8_thrown l G (fun k => s.heap.size + 187 + k) _ _ _ _ _ _) (cwV 0 hts gL_law_X8_thrown rfl rfl rfl vdX8_thrown ⟨Nat.le_of_ble_eq_true rfl, Nat.le_of_ble_eq_true rfl⟩) (hW.1.recv hK rfl) hW hK rfl hl.1 rfl dL_law_1472 ⟨by omega, by omega⟩ (Nat.le_of_ble_eq_true rfl) ?_
    refine lv_iload (pc := 1475) E.1 E.2 dL_law_1475 (lv_at hl 1 rfl) ?_
    refine z_same (pc := 1477) (tgt := 1482) E rfl dL_law_1477 (by decide) ?_
    refine lv_iload (pc := 1482) E.1 E.2 dL_law_1482 (lv_at hl 1 rfl) ?_
    refine z_if_ne (pc := 1484) (tgt := 1499) E hkb dL_law_1484 (by decide) (fun _ => ?_) (fun h => absurd h hkn)
    refine lv_goto (pc := 1499) (tgt := 2822) E.1 E.2 dL_law_1499 (by decide) ?_
    refine W.widen (k := cells + 1) (n := slots + 6) (by omega) (by omega) ?_
    exact kk H locs ls ⟨⟨_, _, _, _, _, _, _, _, _, hQ, hW, hR.id rfl rfl rfl rfl⟩, ⟨_, hA⟩, ⟨_, hD⟩⟩ hS (lv_sub hl [2, 3, 4, 5, 6, 7] rfl)
set_option maxHeartbeats 1000000 in
set_option maxRecDepth 100000 in
theorem cs_moveFile {p : Program} {l : Launch} {e : Env} {s : State} {m : MethodId} {below : List Frame} {meth : Method} {c : Code} {G : GG} {b L : Nat} {xs : Nat → Int32} {aK aV : Nat → Nat} (X : LX p l s m c G b L xs aK aV) {n : Nat} {i : Int} {H : Heap} {locs : List Loc} {ls : Array Slot} {cells slots : Nat} {Q : State → Prop} (hn : n ≤ 600) (hi : 0 ≤ i ∧ i + 6 ≤ (L : Int)) (hH : LH G n s.heap.size H) (hS : va_S (fun q => s.heap.size ≤ q) s.heap H locs) (hl : lv_has ls 8 [(0, .ref b), (1, .ref (qo s.heap.size 0)), (2, .ref (s.heap.size + 187 + 0)), (3, .ref (s.heap.size + 193)), (4, .ref (s.heap.size + 194)), (5, .int (iI i))]) (hc : cells + 1 ≤ room_1.cells) (hsl : slots + 6 ≤ room_1.slots) (kk : ∀ (H : Heap) (locs : List Loc) (ls : Array Slot), LH G (n + 1) s.heap.size H → va_S (fun q => s.heap.size ≤ q) s.heap H locs → lv_has ls 8 [(0, .ref b), (1, .ref (qo s.heap.size 0)), (2, .ref (s.heap.size + 187 + 0)), (3, .ref (s.heap.size + 193)), (4, .ref (s.heap.size + 194)), (5, .int (iI i))] → W p l e room_1 s m #[Value.ref b] below meth c H locs (cells + 1) (slots + 6) Q (F0 m 2822 ls [])) : W p l e room_1 s m #[Value.ref b] below meth c H locs cells slots Q (F0 m 1502 ls []) := by
  obtain ⟨E, hml, hown, hts, hK, hX0, hx, hb, hst, hL, hks⟩ := X
  obtain ⟨⟨ν, σ, π, δ, β, ω, μ, φ, κ, hQ, hW, hR⟩, ⟨fq, hA⟩, ⟨xq, hD⟩⟩ := hH
  have hX : KX FF0 s H := (hX0.kept (fun a ha hna => hS.2.1 a ha hna)).narrow (fun q h => h.elim)
  have hbA : ¬ (s.heap.size ≤ b) := by omega
  refine lv_aload_n (pc := 1502) E.1 E.2 dL_law_1502 rfl (lv_at hl 1 rfl) ?_
  refine lv_aload_n (pc := 1503) E.1 E.2 dL_law_1503 rfl (lv_at hl 0 rfl) ?_
  refine lv_iload (pc := 1504) E.1 E.2 dL_law_1504 (lv_at hl 5 rfl) ?_
  refine z_iconst (pc := 1506) E dL_law_1506 ?_
  refine z_iadd (pc := 1507) E dL_law_1507 ?_
  refine z_sld (pc := 1508) E hx hb hbA hS ⟨by omega, by omega⟩ hL dL_law_1508 ?_
  refine lv_aload_n (pc := 1509) E.1 E.2 dL_law_1509 rfl (lv_at hl 0 rfl) ?_
  refine lv_iload (pc := 1510) E.1 E.2 dL_law_1510 (lv_at hl 5 rfl) ?_
  refine z_iconst (pc := 1512) E dL_law_1512 ?_
  refine z_iadd (pc := 1513) E dL_law_1513 ?_
  refine z_sld (pc := 1514) E hx hb hbA hS ⟨by omega, by omega⟩ hL dL_law_1514 ?_
  refine lv_aload_n (pc := 1515) E.1 E.2 dL_law_1515 rfl (lv_at hl 3 rfl) ?_
  by_cases hk : (kxMoveFi σ (sx xs (i + 1)) (sx xs (i + 2))) = 0
  · refine z_lwc (pc := 1516) (As := [.ref (qo s.heap.size 0), .int (iI (sx xs (i + 1))), .int (iI (sx xs (i + 2))), .ref (s.heap.size + 193)]) (rest := []) E hml hown hts (mL_moveFile l G (qo s.heap.size) ν σ π δ (fun j => sg8 (β j)) ω (sx xs (i + 1)) (sx xs (i + 2)) hR.ok.1 (sx_b _ _) (sx_b _ _) hk (hR.hc hn) hR.hu (hR.ok.ub hn) (s.heap.size + 193) fq (fun k hk => by have := qo_b s.heap.size hk; omega)) (vx_cwSW 4 hts gL_law_L_moveFile rfl rfl rfl vdL_moveFile.2 ⟨Nat.le_of_ble_eq_true rfl, Nat.le_of_ble_eq_true rfl⟩) ⟨hQ, hA⟩ hK hX hS (fun q h => la_193 h) rfl hl.1 rfl dL_law_1516 ⟨by omega, by omega⟩ (Nat.le_of_ble_eq_true rfl) (fun H locs hQA hsz hoth hS => ?_)
    obtain ⟨hQ, hA⟩ := hQA
    have hW := hW.kp (fun k hk => hoth _ (hW.lt k hk) (lb_193 hk))
    have hD := hD.kp (hoth _ hD.lt lc_193)
    refine lv_istore (pc := 1519) (lv' := [(6, .int (iI (0))), (0, .ref (b)), (1, .ref (qo s.heap.size 0)), (2, .ref (s.heap.size + 187 + 0)), (3, .ref (s.heap.size + 193)), (4, .ref (s.heap.size + 194)), (5, .int (iI (i)))]) E.1 E.2 dL_law_1519 hl (by decide) rfl (fun ls hl => ?_)
    refine lv_aload_n (pc := 1521) E.1 E.2 dL_law_1521 rfl (lv_at hl 3 rfl) ?_
    refine lv_aload_n (pc := 1522) E.1 E.2 dL_law_1522 rfl (lv_at hl 1 rfl) ?_
    refine lv_iload (pc := 1523) E.1 E.2 dL_law_1523 (lv_at hl 6 rfl) ?_
    refine z_iconst (pc := 1525) E dL_law_1525 ?_
    refine z_iadd (pc := 1526) E dL_law_1526 ?_
    refine z_sld (pc := 1527) E hx hb hbA hS ⟨by omega, by omega⟩ hL dL_law_1527 ?_
    refine lv_aload_n (pc := 1528) E.1 E.2 dL_law_1528 rfl (lv_at hl 1 rfl) ?_
    refine lv_iload (pc := 1529) E.1 E.2 dL_law_1529 (lv_at hl 6 rfl) ?_
    refine z_iconst (pc := 1531) E dL_law_1531 ?_
    refine z_iadd (pc := 1532) E dL_law_1532 ?_
    refine z_sld (pc := 1533) E hx hb hbA hS ⟨by omega, by omega⟩ hL dL_law_1533 ?_
    refine z_wVi (pc := 1534) (As := [.int (iI (sx xs (i + 1))), .int (iI (sx xs (i + 2)))]) (rest := []) E hml hown hts (mX8_moveFile l G (fun k => s.heap.size + 187 + k) μ σ φ κ β ω (sx xs (i + 1)) (sx xs (i + 2)) hR.ok.1 (sx_b _ _) (sx_b _ _) hR.m3 (hR.ok.ub hn)) (cwV 2 hts gL_law_X8_moveFile rfl rfl rfl vdX8_moveFile ⟨Nat.le_of_ble_eq_true rfl, Nat.le_of_ble_eq_true rfl⟩) (hW.1.recv hK rfl) hW hK hS (fun q h => la_8 h) rfl hl.1 rfl dL_law_1534 ⟨by omega, by omega⟩ (Nat.le_of_ble_eq_true rfl) (fun H locs hW hsz hoth hS => ?_)
    have hQ := hQ.kp (fun k hk => hoth _ (hQ.lt k hk) (lb_8 hk))
    have hA := hA.kp (hoth _ hA.lt le_193)
    have hD := hD.kp (hoth _ hD.lt le_194)
    have hk8 := hk
    try simp only [if_pos hk8] at hW
    refine lv_istore (pc := 1537) (lv' := [(7, .int (iI ((if (kxMoveFi σ (sx xs (i + 1)) (sx xs (i + 2))) = 0 then axMoveFi σ (sx xs (i + 1)) (sx xs (i + 2)) else 0)))), (6, .int (iI (0))), (0, .ref (b)), (1, .ref (qo s.heap.size 0)), (2, .ref (s.heap.size + 187 + 0)), (3, .ref (s.heap.size + 193)), (4, .ref (s.heap.size + 194)), (5, .int (iI (i)))]) E.1 E.2 dL_law_1537 hl (by decide) rfl (fun ls hl => ?_)
    refine lv_aload_n (pc := 1539) E.1 E.2 dL_law_1539 rfl (lv_at hl 4 rfl) ?_
    refine z_rVi (pc := 1540) (As := []) (rest := []) E hml hown hts (mX8_thrown l G (fun k => s.heap.size + 187 + k) _ _ _ _ _ _) (cwV 0 hts gL_law_X8_thrown rfl rfl rfl vdX8_thrown ⟨Nat.le_of_ble_eq_true rfl, Nat.le_of_ble_eq_true rfl⟩) (hW.1.recv hK rfl) hW hK rfl hl.1 rfl dL_law_1540 ⟨by omega, by omega⟩ (Nat.le_of_ble_eq_true rfl) ?_
    refine lv_iload (pc := 1543) E.1 E.2 dL_law_1543 (lv_at hl 1 rfl) ?_
    refine z_same (pc := 1545) (tgt := 1550) E hk8 dL_law_1545 (by decide) ?_
    refine lv_iload (pc := 1550) E.1 E.2 dL_law_1550 (lv_at hl 1 rfl) ?_
    refine z_if_ne (pc := 1552) (tgt := 1567) E (by decide) dL_law_1552 (by decide) (fun h => absurd rfl h) (fun _ => ?_)
    refine lv_aload_n (pc := 1555) E.1 E.2 dL_law_1555 rfl (lv_at hl 5 rfl) ?_
    refine z_iconst (pc := 1556) E dL_law_1556 ?_
    refine z_laloadE (pc := 1557) E hK hA (by decide) (by decide) (show zu fq 0 (rI ((axMoveFi σ (sx xs (i + 1)) (sx xs (i + 2))))) 0 = rI ((axMoveFi σ (sx xs (i + 1)) (sx xs (i + 2)))) from if_pos rfl) dL_law_1557 ?_
    refine lv_iload (pc := 1558) E.1 E.2 dL_law_1558 (lv_at hl 0 rfl) ?_
    refine z_i2lR (pc := 1560) E dL_law_1560 ?_
    refine z_sameL (pc := 1561) (tgt := 1567) E (if_pos hk8).symm dL_law_1561 dL_law_1562 (by decide) ?_
    refine lv_goto (pc := 1567) (tgt := 2822) E.1 E.2 dL_law_1567 (by decide) ?_
    refine W.widen (k := cells + 1) (n := slots + 6) (by omega) (by omega) ?_
    exact kk H locs ls ⟨⟨_, _, _, _, _, _, _, _, _, hQ, hW, hR.wr (ok_MoveFi hR.ok hn hk) rfl rfl hR.e6 hR.m6 rfl hR.e14 rfl rfl⟩, ⟨_, hA⟩, ⟨_, hD⟩⟩ hS (lv_sub hl [2, 3, 4, 5, 6, 7] rfl)
  · refine z_lwc (pc := 1516) (As := [.ref (qo s.heap.size 0), .int (iI (sx xs (i + 1))), .int (iI (sx xs (i + 2))), .ref (s.heap.size + 193)]) (rest := []) E hml hown hts (mbL_moveFile l hst G (qo s.heap.size) ν σ π δ (fun j => sg8 (β j)) ω (sx xs (i + 1)) (sx xs (i + 2)) hR.ok.1 (sx_b _ _) (sx_b _ _) hk (s.heap.size + 193) fq) (vx_cwSW 4 hts gL_law_L_moveFile rfl rfl rfl vdL_moveFile.2 ⟨Nat.le_of_ble_eq_true rfl, Nat.le_of_ble_eq_true rfl⟩) ⟨hQ, hA⟩ hK hX hS (fun q h => h.elim) rfl hl.1 rfl dL_law_1516 ⟨by omega, by omega⟩ (Nat.le_of_ble_eq_true rfl) (fun H locs hQA hsz hoth hS => ?_)
    obtain ⟨hQ, hA⟩ := hQA
    have hW := hW.kp (fun k hk => hoth _ (hW.lt k hk) (fun h => h))
    have hD := hD.kp (hoth _ hD.lt (fun h => h))
    have hkb : -2147483648 ≤ (kxMoveFi σ (sx xs (i + 1)) (sx xs (i + 2))) ∧ (kxMoveFi σ (sx xs (i + 1)) (sx xs (i + 2))) < 2147483648 := by unfold kxMoveFi; (try unfold kxPK); (repeat' split) <;> decide
    have hkn : ¬ (kxMoveFi σ (sx xs (i + 1)) (sx xs (i + 2))) = 0 := hk
    refine lv_istore (pc := 1519) (lv' := [(6, .int (iI ((kxMoveFi σ (sx xs (i + 1)) (sx xs (i + 2)))))), (0, .ref (b)), (1, .ref (qo s.heap.size 0)), (2, .ref (s.heap.size + 187 + 0)), (3, .ref (s.heap.size + 193)), (4, .ref (s.heap.size + 194)), (5, .int (iI (i)))]) E.1 E.2 dL_law_1519 hl (by decide) rfl (fun ls hl => ?_)
    refine lv_aload_n (pc := 1521) E.1 E.2 dL_law_1521 rfl (lv_at hl 3 rfl) ?_
    refine lv_aload_n (pc := 1522) E.1 E.2 dL_law_1522 rfl (lv_at hl 1 rfl) ?_
    refine lv_iload (pc := 1523) E.1 E.2 dL_law_1523 (lv_at hl 6 rfl) ?_
    refine z_iconst (pc := 1525) E dL_law_1525 ?_
    refine z_iadd (pc := 1526) E dL_law_1526 ?_
    refine z_sld (pc := 1527) E hx hb hbA hS ⟨by omega, by omega⟩ hL dL_law_1527 ?_
    refine lv_aload_n (pc := 1528) E.1 E.2 dL_law_1528 rfl (lv_at hl 1 rfl) ?_
    refine lv_iload (pc := 1529) E.1 E.2 dL_law_1529 (lv_at hl 6 rfl) ?_
    refine z_iconst (pc := 1531) E dL_law_1531 ?_
    refine z_iadd (pc := 1532) E dL_law_1532 ?_
    refine z_sld (pc := 1533) E hx hb hbA hS ⟨by omega, by omega⟩ hL dL_law_1533 ?_
    refine z_wVi (pc := 1534) (As := [.int (iI (sx xs (i + 1))), .int (iI (sx xs (i + 2)))]) (rest := []) E hml hown hts (mX8_moveFile l G (fun k => s.heap.size + 187 + k) μ σ φ κ β ω (sx xs (i + 1)) (sx xs (i + 2)) hR.ok.1 (sx_b _ _) (sx_b _ _) hR.m3 (hR.ok.ub hn)) (cwV 2 hts gL_law_X8_moveFile rfl rfl rfl vdX8_moveFile ⟨Nat.le_of_ble_eq_true rfl, Nat.le_of_ble_eq_true rfl⟩) (hW.1.recv hK rfl) hW hK hS (fun q h => la_8 h) rfl hl.1 rfl dL_law_1534 ⟨by omega, by omega⟩ (Nat.le_of_ble_eq_true rfl) (fun H locs hW hsz hoth hS => ?_)
    have hQ := hQ.kp (fun k hk => hoth _ (hQ.lt k hk) (lb_8 hk))
    have hA := hA.kp (hoth _ hA.lt le_193)
    have hD := hD.kp (hoth _ hD.lt le_194)
    have hk8 := hk
    try simp only [if_neg hk8] at hW
    refine lv_istore (pc := 1537) (lv' := [(7, .int (iI ((if (kxMoveFi σ (sx xs (i + 1)) (sx xs (i + 2))) = 0 then axMoveFi σ (sx xs (i + 1)) (sx xs (i + 2)) else 0)))), (6, .int (iI ((kxMoveFi σ (sx xs (i + 1)) (sx xs (i + 2)))))), (0, .ref (b)), (1, .ref (qo s.heap.size 0)), (2, .ref (s.heap.size + 187 + 0)), (3, .ref (s.heap.size + 193)), (4, .ref (s.heap.size + 194)), (5, .int (iI (i)))]) E.1 E.2 dL_law_1537 hl (by decide) rfl (fun ls hl => ?_)
    refine lv_aload_n (pc := 1539) E.1 E.2 dL_law_1539 rfl (lv_at hl 4 rfl) ?_
    refine z_rVi (pc := 1540) (As := []) (rest := []) E hml hown hts (mX8_thrown l G (fun k => s.heap.size + 187 + k) _ _ _ _ _ _) (cwV 0 hts gL_law_X8_thrown rfl rfl rfl vdX8_thrown ⟨Nat.le_of_ble_eq_true rfl, Nat.le_of_ble_eq_true rfl⟩) (hW.1.recv hK rfl) hW hK rfl hl.1 rfl dL_law_1540 ⟨by omega, by omega⟩ (Nat.le_of_ble_eq_true rfl) ?_
    refine lv_iload (pc := 1543) E.1 E.2 dL_law_1543 (lv_at hl 1 rfl) ?_
    refine z_same (pc := 1545) (tgt := 1550) E rfl dL_law_1545 (by decide) ?_
    refine lv_iload (pc := 1550) E.1 E.2 dL_law_1550 (lv_at hl 1 rfl) ?_
    refine z_if_ne (pc := 1552) (tgt := 1567) E hkb dL_law_1552 (by decide) (fun _ => ?_) (fun h => absurd h hkn)
    refine lv_goto (pc := 1567) (tgt := 2822) E.1 E.2 dL_law_1567 (by decide) ?_
    refine W.widen (k := cells + 1) (n := slots + 6) (by omega) (by omega) ?_
    exact kk H locs ls ⟨⟨_, _, _, _, _, _, _, _, _, hQ, hW, hR.id rfl rfl rfl rfl⟩, ⟨_, hA⟩, ⟨_, hD⟩⟩ hS (lv_sub hl [2, 3, 4, 5, 6, 7] rfl)
set_option maxHeartbeats 1000000 in
set_option maxRecDepth 100000 in
theorem cs_greatest {p : Program} {l : Launch} {e : Env} {s : State} {m : MethodId} {below : List Frame} {meth : Method} {c : Code} {G : GG} {b L : Nat} {xs : Nat → Int32} {aK aV : Nat → Nat} (X : LX p l s m c G b L xs aK aV) {n : Nat} {i : Int} {H : Heap} {locs : List Loc} {ls : Array Slot} {cells slots : Nat} {Q : State → Prop} (hn : n ≤ 600) (hi : 0 ≤ i ∧ i + 6 ≤ (L : Int)) (hH : LH G n s.heap.size H) (hS : va_S (fun q => s.heap.size ≤ q) s.heap H locs) (hl : lv_has ls 8 [(0, .ref b), (1, .ref (qo s.heap.size 0)), (2, .ref (s.heap.size + 187 + 0)), (3, .ref (s.heap.size + 193)), (4, .ref (s.heap.size + 194)), (5, .int (iI i))]) (hc : cells + 1 ≤ room_1.cells) (hsl : slots + 6 ≤ room_1.slots) (kk : ∀ (H : Heap) (locs : List Loc) (ls : Array Slot), LH G (n + 1) s.heap.size H → va_S (fun q => s.heap.size ≤ q) s.heap H locs → lv_has ls 8 [(0, .ref b), (1, .ref (qo s.heap.size 0)), (2, .ref (s.heap.size + 187 + 0)), (3, .ref (s.heap.size + 193)), (4, .ref (s.heap.size + 194)), (5, .int (iI i))] → W p l e room_1 s m #[Value.ref b] below meth c H locs (cells + 1) (slots + 6) Q (F0 m 2822 ls [])) : W p l e room_1 s m #[Value.ref b] below meth c H locs cells slots Q (F0 m 1570 ls []) := by
  obtain ⟨E, hml, hown, hts, hK, hX0, hx, hb, hst, hL, hks⟩ := X
  obtain ⟨⟨ν, σ, π, δ, β, ω, μ, φ, κ, hQ, hW, hR⟩, ⟨fq, hA⟩, ⟨xq, hD⟩⟩ := hH
  have hX : KX FF0 s H := (hX0.kept (fun a ha hna => hS.2.1 a ha hna)).narrow (fun q h => h.elim)
  have hbA : ¬ (s.heap.size ≤ b) := by omega
  refine lv_aload_n (pc := 1570) E.1 E.2 dL_law_1570 rfl (lv_at hl 1 rfl) ?_
  refine lv_aload_n (pc := 1571) E.1 E.2 dL_law_1571 rfl (lv_at hl 0 rfl) ?_
  refine lv_iload (pc := 1572) E.1 E.2 dL_law_1572 (lv_at hl 5 rfl) ?_
  refine z_iconst (pc := 1574) E dL_law_1574 ?_
  refine z_iadd (pc := 1575) E dL_law_1575 ?_
  refine z_sld (pc := 1576) E hx hb hbA hS ⟨by omega, by omega⟩ hL dL_law_1576 ?_
  refine lv_aload_n (pc := 1577) E.1 E.2 dL_law_1577 rfl (lv_at hl 3 rfl) ?_
  by_cases hk : (kxGreat σ (sx xs (i + 1))) = 0
  · refine z_lwc (pc := 1578) (As := [.ref (qo s.heap.size 0), .int (iI (sx xs (i + 1))), .ref (s.heap.size + 193)]) (rest := []) E hml hown hts (mL_greatest l G (qo s.heap.size) ν σ π δ (fun j => sg8 (β j)) ω (sx xs (i + 1)) hR.ok.1 (sx_b _ _) hk (s.heap.size + 193) fq (fun k hk => by have := qo_b s.heap.size hk; omega)) (vx_cwSW 3 hts gL_law_L_greatest rfl rfl rfl vdL_greatest.2 ⟨Nat.le_of_ble_eq_true rfl, Nat.le_of_ble_eq_true rfl⟩) ⟨hQ, hA⟩ hK hX hS (fun q h => la_193 h) rfl hl.1 rfl dL_law_1578 ⟨by omega, by omega⟩ (Nat.le_of_ble_eq_true rfl) (fun H locs hQA hsz hoth hS => ?_)
    obtain ⟨hQ, hA⟩ := hQA
    have hW := hW.kp (fun k hk => hoth _ (hW.lt k hk) (lb_193 hk))
    have hD := hD.kp (hoth _ hD.lt lc_193)
    refine lv_istore (pc := 1581) (lv' := [(6, .int (iI (0))), (0, .ref (b)), (1, .ref (qo s.heap.size 0)), (2, .ref (s.heap.size + 187 + 0)), (3, .ref (s.heap.size + 193)), (4, .ref (s.heap.size + 194)), (5, .int (iI (i)))]) E.1 E.2 dL_law_1581 hl (by decide) rfl (fun ls hl => ?_)
    refine lv_aload_n (pc := 1583) E.1 E.2 dL_law_1583 rfl (lv_at hl 3 rfl) ?_
    refine lv_aload_n (pc := 1584) E.1 E.2 dL_law_1584 rfl (lv_at hl 1 rfl) ?_
    refine lv_iload (pc := 1585) E.1 E.2 dL_law_1585 (lv_at hl 6 rfl) ?_
    refine z_iconst (pc := 1587) E dL_law_1587 ?_
    refine z_iadd (pc := 1588) E dL_law_1588 ?_
    refine z_sld (pc := 1589) E hx hb hbA hS ⟨by omega, by omega⟩ hL dL_law_1589 ?_
    refine z_wVi (pc := 1590) (As := [.int (iI (sx xs (i + 1)))]) (rest := []) E hml hown hts (mX8_greatest l G (fun k => s.heap.size + 187 + k) μ σ φ κ β ω (sx xs (i + 1)) hR.ok.1 (sx_b _ _)) (cwV 1 hts gL_law_X8_greatest rfl rfl rfl vdX8_greatest ⟨Nat.le_of_ble_eq_true rfl, Nat.le_of_ble_eq_true rfl⟩) (hW.1.recv hK rfl) hW hK hS (fun q h => la_8 h) rfl hl.1 rfl dL_law_1590 ⟨by omega, by omega⟩ (Nat.le_of_ble_eq_true rfl) (fun H locs hW hsz hoth hS => ?_)
    have hQ := hQ.kp (fun k hk => hoth _ (hQ.lt k hk) (lb_8 hk))
    have hA := hA.kp (hoth _ hA.lt le_193)
    have hD := hD.kp (hoth _ hD.lt le_194)
    have hk8 := hk
    try simp only [if_pos hk8] at hW
    refine lv_istore (pc := 1593) (lv' := [(7, .int (iI ((if (kxGreat σ (sx xs (i + 1))) = 0 then gfS σ (sx xs (i + 1)) else 0)))), (6, .int (iI (0))), (0, .ref (b)), (1, .ref (qo s.heap.size 0)), (2, .ref (s.heap.size + 187 + 0)), (3, .ref (s.heap.size + 193)), (4, .ref (s.heap.size + 194)), (5, .int (iI (i)))]) E.1 E.2 dL_law_1593 hl (by decide) rfl (fun ls hl => ?_)
    refine lv_aload_n (pc := 1595) E.1 E.2 dL_law_1595 rfl (lv_at hl 4 rfl) ?_
    refine z_rVi (pc := 1596) (As := []) (rest := []) E hml hown hts (mX8_thrown l G (fun k => s.heap.size + 187 + k) _ _ _ _ _ _) (cwV 0 hts gL_law_X8_thrown rfl rfl rfl vdX8_thrown ⟨Nat.le_of_ble_eq_true rfl, Nat.le_of_ble_eq_true rfl⟩) (hW.1.recv hK rfl) hW hK rfl hl.1 rfl dL_law_1596 ⟨by omega, by omega⟩ (Nat.le_of_ble_eq_true rfl) ?_
    refine lv_iload (pc := 1599) E.1 E.2 dL_law_1599 (lv_at hl 1 rfl) ?_
    refine z_same (pc := 1601) (tgt := 1606) E hk8 dL_law_1601 (by decide) ?_
    refine lv_iload (pc := 1606) E.1 E.2 dL_law_1606 (lv_at hl 1 rfl) ?_
    refine z_if_ne (pc := 1608) (tgt := 1623) E (by decide) dL_law_1608 (by decide) (fun h => absurd rfl h) (fun _ => ?_)
    refine lv_aload_n (pc := 1611) E.1 E.2 dL_law_1611 rfl (lv_at hl 5 rfl) ?_
    refine z_iconst (pc := 1612) E dL_law_1612 ?_
    refine z_laloadE (pc := 1613) E hK hA (by decide) (by decide) (show zu fq 0 (rI ((gfS σ (sx xs (i + 1))))) 0 = rI ((gfS σ (sx xs (i + 1)))) from if_pos rfl) dL_law_1613 ?_
    refine lv_iload (pc := 1614) E.1 E.2 dL_law_1614 (lv_at hl 0 rfl) ?_
    refine z_i2lR (pc := 1616) E dL_law_1616 ?_
    refine z_sameL (pc := 1617) (tgt := 1623) E (if_pos hk8).symm dL_law_1617 dL_law_1618 (by decide) ?_
    refine lv_goto (pc := 1623) (tgt := 2822) E.1 E.2 dL_law_1623 (by decide) ?_
    refine W.widen (k := cells + 1) (n := slots + 6) (by omega) (by omega) ?_
    exact kk H locs ls ⟨⟨_, _, _, _, _, _, _, _, _, hQ, hW, hR.id rfl rfl rfl rfl⟩, ⟨_, hA⟩, ⟨_, hD⟩⟩ hS (lv_sub hl [2, 3, 4, 5, 6, 7] rfl)
  · refine z_lwc (pc := 1578) (As := [.ref (qo s.heap.size 0), .int (iI (sx xs (i + 1))), .ref (s.heap.size + 193)]) (rest := []) E hml hown hts (mbL_greatest l hst G (qo s.heap.size) ν σ π δ (fun j => sg8 (β j)) ω (sx xs (i + 1)) hR.ok.1 (sx_b _ _) hk (s.heap.size + 193) fq) (vx_cwSW 3 hts gL_law_L_greatest rfl rfl rfl vdL_greatest.2 ⟨Nat.le_of_ble_eq_true rfl, Nat.le_of_ble_eq_true rfl⟩) ⟨hQ, hA⟩ hK hX hS (fun q h => h.elim) rfl hl.1 rfl dL_law_1578 ⟨by omega, by omega⟩ (Nat.le_of_ble_eq_true rfl) (fun H locs hQA hsz hoth hS => ?_)
    obtain ⟨hQ, hA⟩ := hQA
    have hW := hW.kp (fun k hk => hoth _ (hW.lt k hk) (fun h => h))
    have hD := hD.kp (hoth _ hD.lt (fun h => h))
    have hkb : -2147483648 ≤ (kxGreat σ (sx xs (i + 1))) ∧ (kxGreat σ (sx xs (i + 1))) < 2147483648 := by unfold kxGreat; (try unfold kxPK); (repeat' split) <;> decide
    have hkn : ¬ (kxGreat σ (sx xs (i + 1))) = 0 := hk
    refine lv_istore (pc := 1581) (lv' := [(6, .int (iI ((kxGreat σ (sx xs (i + 1)))))), (0, .ref (b)), (1, .ref (qo s.heap.size 0)), (2, .ref (s.heap.size + 187 + 0)), (3, .ref (s.heap.size + 193)), (4, .ref (s.heap.size + 194)), (5, .int (iI (i)))]) E.1 E.2 dL_law_1581 hl (by decide) rfl (fun ls hl => ?_)
    refine lv_aload_n (pc := 1583) E.1 E.2 dL_law_1583 rfl (lv_at hl 3 rfl) ?_
    refine lv_aload_n (pc := 1584) E.1 E.2 dL_law_1584 rfl (lv_at hl 1 rfl) ?_
    refine lv_iload (pc := 1585) E.1 E.2 dL_law_1585 (lv_at hl 6 rfl) ?_
    refine z_iconst (pc := 1587) E dL_law_1587 ?_
    refine z_iadd (pc := 1588) E dL_law_1588 ?_
    refine z_sld (pc := 1589) E hx hb hbA hS ⟨by omega, by omega⟩ hL dL_law_1589 ?_
    refine z_wVi (pc := 1590) (As := [.int (iI (sx xs (i + 1)))]) (rest := []) E hml hown hts (mX8_greatest l G (fun k => s.heap.size + 187 + k) μ σ φ κ β ω (sx xs (i + 1)) hR.ok.1 (sx_b _ _)) (cwV 1 hts gL_law_X8_greatest rfl rfl rfl vdX8_greatest ⟨Nat.le_of_ble_eq_true rfl, Nat.le_of_ble_eq_true rfl⟩) (hW.1.recv hK rfl) hW hK hS (fun q h => la_8 h) rfl hl.1 rfl dL_law_1590 ⟨by omega, by omega⟩ (Nat.le_of_ble_eq_true rfl) (fun H locs hW hsz hoth hS => ?_)
    have hQ := hQ.kp (fun k hk => hoth _ (hQ.lt k hk) (lb_8 hk))
    have hA := hA.kp (hoth _ hA.lt le_193)
    have hD := hD.kp (hoth _ hD.lt le_194)
    have hk8 := hk
    try simp only [if_neg hk8] at hW
    refine lv_istore (pc := 1593) (lv' := [(7, .int (iI ((if (kxGreat σ (sx xs (i + 1))) = 0 then gfS σ (sx xs (i + 1)) else 0)))), (6, .int (iI ((kxGreat σ (sx xs (i + 1)))))), (0, .ref (b)), (1, .ref (qo s.heap.size 0)), (2, .ref (s.heap.size + 187 + 0)), (3, .ref (s.heap.size + 193)), (4, .ref (s.heap.size + 194)), (5, .int (iI (i)))]) E.1 E.2 dL_law_1593 hl (by decide) rfl (fun ls hl => ?_)
    refine lv_aload_n (pc := 1595) E.1 E.2 dL_law_1595 rfl (lv_at hl 4 rfl) ?_
    refine z_rVi (pc := 1596) (As := []) (rest := []) E hml hown hts (mX8_thrown l G (fun k => s.heap.size + 187 + k) _ _ _ _ _ _) (cwV 0 hts gL_law_X8_thrown rfl rfl rfl vdX8_thrown ⟨Nat.le_of_ble_eq_true rfl, Nat.le_of_ble_eq_true rfl⟩) (hW.1.recv hK rfl) hW hK rfl hl.1 rfl dL_law_1596 ⟨by omega, by omega⟩ (Nat.le_of_ble_eq_true rfl) ?_
    refine lv_iload (pc := 1599) E.1 E.2 dL_law_1599 (lv_at hl 1 rfl) ?_
    refine z_same (pc := 1601) (tgt := 1606) E rfl dL_law_1601 (by decide) ?_
    refine lv_iload (pc := 1606) E.1 E.2 dL_law_1606 (lv_at hl 1 rfl) ?_
    refine z_if_ne (pc := 1608) (tgt := 1623) E hkb dL_law_1608 (by decide) (fun _ => ?_) (fun h => absurd h hkn)
    refine lv_goto (pc := 1623) (tgt := 2822) E.1 E.2 dL_law_1623 (by decide) ?_
    refine W.widen (k := cells + 1) (n := slots + 6) (by omega) (by omega) ?_
    exact kk H locs ls ⟨⟨_, _, _, _, _, _, _, _, _, hQ, hW, hR.id rfl rfl rfl rfl⟩, ⟨_, hA⟩, ⟨_, hD⟩⟩ hS (lv_sub hl [2, 3, 4, 5, 6, 7] rfl)
