set_option maxHeartbeats 1000000 in
set_option maxRecDepth 100000 in
theorem cs_used {p : Program} {l : Launch} {e : Env} {s : State} {m : MethodId} {below : List Frame} {meth : Method} {c : Code} {G : GG} {b L : Nat} {xs : Nat → Int32} {aK aV : Nat → Nat} (X : LX p l s m c G b L xs aK aV) {n : Nat} {i : Int} {H : Heap} {locs : List Loc} {ls : Array Slot} {cells slots : Nat} {Q : State → Prop} (hn : n ≤ 600) (hi : 0 ≤ i ∧ i + 6 ≤ (L : Int)) (hH : LH G n s.heap.size H) (hS : va_S (fun q => s.heap.size ≤ q) s.heap H locs) (hl : lv_has ls 8 [(0, .ref b), (1, .ref (qo s.heap.size 0)), (2, .ref (s.heap.size + 187 + 0)), (3, .ref (s.heap.size + 193)), (4, .ref (s.heap.size + 194)), (5, .int (iI i))]) (hc : cells + 1 ≤ room_1.cells) (hsl : slots + 6 ≤ room_1.slots) (kk : ∀ (H : Heap) (locs : List Loc) (ls : Array Slot), LH G (n + 1) s.heap.size H → va_S (fun q => s.heap.size ≤ q) s.heap H locs → lv_has ls 8 [(0, .ref b), (1, .ref (qo s.heap.size 0)), (2, .ref (s.heap.size + 187 + 0)), (3, .ref (s.heap.size + 193)), (4, .ref (s.heap.size + 194)), (5, .int (iI i))] → W p l e room_1 s m #[Value.ref b] below meth c H locs (cells + 1) (slots + 6) Q (F0 m 2822 ls [])) : W p l e room_1 s m #[Value.ref b] below meth c H locs cells slots Q (F0 m 1626 ls []) := by
  obtain ⟨E, hml, hown, hts, hK, hX0, hx, hb, hst, hL, hks⟩ := X
  obtain ⟨⟨ν, σ, π, δ, β, ω, μ, φ, κ, hQ, hW, hR⟩, ⟨fq, hA⟩, ⟨xq, hD⟩⟩ := hH
  have hX : KX FF0 s H := (hX0.kept (fun a ha hna => hS.2.1 a ha hna)).narrow (fun q h => h.elim)
  have hbA : ¬ (s.heap.size ≤ b) := by omega
  refine lv_aload_n (pc := 1626) E.1 E.2 dL_law_1626 rfl (lv_at hl 1 rfl) ?_
  refine lv_aload_n (pc := 1627) E.1 E.2 dL_law_1627 rfl (lv_at hl 0 rfl) ?_
  refine lv_iload (pc := 1628) E.1 E.2 dL_law_1628 (lv_at hl 5 rfl) ?_
  refine z_iconst (pc := 1630) E dL_law_1630 ?_
  refine z_iadd (pc := 1631) E dL_law_1631 ?_
  refine z_sld (pc := 1632) E hx hb hbA hS ⟨by omega, by omega⟩ hL dL_law_1632 ?_
  refine lv_aload_n (pc := 1633) E.1 E.2 dL_law_1633 rfl (lv_at hl 0 rfl) ?_
  refine lv_iload (pc := 1634) E.1 E.2 dL_law_1634 (lv_at hl 5 rfl) ?_
  refine z_iconst (pc := 1636) E dL_law_1636 ?_
  refine z_iadd (pc := 1637) E dL_law_1637 ?_
  refine z_sld (pc := 1638) E hx hb hbA hS ⟨by omega, by omega⟩ hL dL_law_1638 ?_
  refine lv_aload_n (pc := 1639) E.1 E.2 dL_law_1639 rfl (lv_at hl 3 rfl) ?_
  by_cases hk : (kxPK (sx xs (i + 1)) (sx xs (i + 2))) = 0
  · refine z_lwc (pc := 1640) (As := [.ref (qo s.heap.size 0), .int (iI (sx xs (i + 1))), .int (iI (sx xs (i + 2))), .ref (s.heap.size + 193)]) (rest := []) E hml hown hts (mL_used l G (qo s.heap.size) ν σ π δ (fun j => sg8 (β j)) ω (sx xs (i + 1)) (sx xs (i + 2)) hR.ok.1 (sx_b _ _) (sx_b _ _) hk (s.heap.size + 193) fq (fun k hk => by have := qo_b s.heap.size hk; omega)) (vx_cwSW 4 hts gL_law_L_used rfl rfl rfl vdL_used.2 ⟨Nat.le_of_ble_eq_true rfl, Nat.le_of_ble_eq_true rfl⟩) ⟨hQ, hA⟩ hK hX hS (fun q h => la_193 h) rfl hl.1 rfl dL_law_1640 ⟨by omega, by omega⟩ (Nat.le_of_ble_eq_true rfl) (fun H locs hQA hsz hoth hS => ?_)
    obtain ⟨hQ, hA⟩ := hQA
    have hW := hW.kp (fun k hk => hoth _ (hW.lt k hk) (lb_193 hk))
    have hD := hD.kp (hoth _ hD.lt lc_193)
    refine lv_istore (pc := 1643) (lv' := [(6, .int (iI (0))), (0, .ref (b)), (1, .ref (qo s.heap.size 0)), (2, .ref (s.heap.size + 187 + 0)), (3, .ref (s.heap.size + 193)), (4, .ref (s.heap.size + 194)), (5, .int (iI (i)))]) E.1 E.2 dL_law_1643 hl (by decide) rfl (fun ls hl => ?_)
    refine lv_aload_n (pc := 1645) E.1 E.2 dL_law_1645 rfl (lv_at hl 3 rfl) ?_
    refine lv_aload_n (pc := 1646) E.1 E.2 dL_law_1646 rfl (lv_at hl 1 rfl) ?_
    refine lv_iload (pc := 1647) E.1 E.2 dL_law_1647 (lv_at hl 6 rfl) ?_
    refine z_iconst (pc := 1649) E dL_law_1649 ?_
    refine z_iadd (pc := 1650) E dL_law_1650 ?_
    refine z_sld (pc := 1651) E hx hb hbA hS ⟨by omega, by omega⟩ hL dL_law_1651 ?_
    refine lv_aload_n (pc := 1652) E.1 E.2 dL_law_1652 rfl (lv_at hl 1 rfl) ?_
    refine lv_iload (pc := 1653) E.1 E.2 dL_law_1653 (lv_at hl 6 rfl) ?_
    refine z_iconst (pc := 1655) E dL_law_1655 ?_
    refine z_iadd (pc := 1656) E dL_law_1656 ?_
    refine z_sld (pc := 1657) E hx hb hbA hS ⟨by omega, by omega⟩ hL dL_law_1657 ?_
    refine z_wVi (pc := 1658) (As := [.int (iI (sx xs (i + 1))), .int (iI (sx xs (i + 2)))]) (rest := []) E hml hown hts (mX8_used l G (fun k => s.heap.size + 187 + k) μ σ φ κ β ω (sx xs (i + 1)) (sx xs (i + 2)) hR.ok.1 (sx_b _ _) (sx_b _ _)) (cwV 2 hts gL_law_X8_used rfl rfl rfl vdX8_used ⟨Nat.le_of_ble_eq_true rfl, Nat.le_of_ble_eq_true rfl⟩) (hW.1.recv hK rfl) hW hK hS (fun q h => la_8 h) rfl hl.1 rfl dL_law_1658 ⟨by omega, by omega⟩ (Nat.le_of_ble_eq_true rfl) (fun H locs hW hsz hoth hS => ?_)
    have hQ := hQ.kp (fun k hk => hoth _ (hQ.lt k hk) (lb_8 hk))
    have hA := hA.kp (hoth _ hA.lt le_193)
    have hD := hD.kp (hoth _ hD.lt le_194)
    have hk8 := hk
    try simp only [if_pos hk8] at hW
    refine lv_istore (pc := 1661) (lv' := [(7, .int (iI ((if (kxPK (sx xs (i + 1)) (sx xs (i + 2))) = 0 then σ (37 + (2 * (sx xs (i + 1)) + (sx xs (i + 2)))) else 0)))), (6, .int (iI (0))), (0, .ref (b)), (1, .ref (qo s.heap.size 0)), (2, .ref (s.heap.size + 187 + 0)), (3, .ref (s.heap.size + 193)), (4, .ref (s.heap.size + 194)), (5, .int (iI (i)))]) E.1 E.2 dL_law_1661 hl (by decide) rfl (fun ls hl => ?_)
    refine lv_aload_n (pc := 1663) E.1 E.2 dL_law_1663 rfl (lv_at hl 4 rfl) ?_
    refine z_rVi (pc := 1664) (As := []) (rest := []) E hml hown hts (mX8_thrown l G (fun k => s.heap.size + 187 + k) _ _ _ _ _ _) (cwV 0 hts gL_law_X8_thrown rfl rfl rfl vdX8_thrown ⟨Nat.le_of_ble_eq_true rfl, Nat.le_of_ble_eq_true rfl⟩) (hW.1.recv hK rfl) hW hK rfl hl.1 rfl dL_law_1664 ⟨by omega, by omega⟩ (Nat.le_of_ble_eq_true rfl) ?_
    refine lv_iload (pc := 1667) E.1 E.2 dL_law_1667 (lv_at hl 1 rfl) ?_
    refine z_same (pc := 1669) (tgt := 1674) E hk8 dL_law_1669 (by decide) ?_
    refine lv_iload (pc := 1674) E.1 E.2 dL_law_1674 (lv_at hl 1 rfl) ?_
    refine z_if_ne (pc := 1676) (tgt := 1691) E (by decide) dL_law_1676 (by decide) (fun h => absurd rfl h) (fun _ => ?_)
    refine lv_aload_n (pc := 1679) E.1 E.2 dL_law_1679 rfl (lv_at hl 5 rfl) ?_
    refine z_iconst (pc := 1680) E dL_law_1680 ?_
    refine z_laloadE (pc := 1681) E hK hA (by decide) (by decide) (show zu fq 0 (rI ((σ (37 + (2 * (sx xs (i + 1)) + (sx xs (i + 2))))))) 0 = rI ((σ (37 + (2 * (sx xs (i + 1)) + (sx xs (i + 2)))))) from if_pos rfl) dL_law_1681 ?_
    refine lv_iload (pc := 1682) E.1 E.2 dL_law_1682 (lv_at hl 0 rfl) ?_
    refine z_i2lR (pc := 1684) E dL_law_1684 ?_
    refine z_sameL (pc := 1685) (tgt := 1691) E (if_pos hk8).symm dL_law_1685 dL_law_1686 (by decide) ?_
    refine lv_goto (pc := 1691) (tgt := 2822) E.1 E.2 dL_law_1691 (by decide) ?_
    refine W.widen (k := cells + 1) (n := slots + 6) (by omega) (by omega) ?_
    exact kk H locs ls ⟨⟨_, _, _, _, _, _, _, _, _, hQ, hW, hR.id rfl rfl rfl rfl⟩, ⟨_, hA⟩, ⟨_, hD⟩⟩ hS (lv_sub hl [2, 3, 4, 5, 6, 7] rfl)
  · refine z_lwc (pc := 1640) (As := [.ref (qo s.heap.size 0), .int (iI (sx xs (i + 1))), .int (iI (sx xs (i + 2))), .ref (s.heap.size + 193)]) (rest := []) E hml hown hts (mbL_used l hst G (qo s.heap.size) ν σ π δ (fun j => sg8 (β j)) ω (sx xs (i + 1)) (sx xs (i + 2)) hR.ok.1 (sx_b _ _) (sx_b _ _) hk (s.heap.size + 193) fq) (vx_cwSW 4 hts gL_law_L_used rfl rfl rfl vdL_used.2 ⟨Nat.le_of_ble_eq_true rfl, Nat.le_of_ble_eq_true rfl⟩) ⟨hQ, hA⟩ hK hX hS (fun q h => h.elim) rfl hl.1 rfl dL_law_1640 ⟨by omega, by omega⟩ (Nat.le_of_ble_eq_true rfl) (fun H locs hQA hsz hoth hS => ?_)
    obtain ⟨hQ, hA⟩ := hQA
    have hW := hW.kp (fun k hk => hoth _ (hW.lt k hk) (fun h => h))
    have hD := hD.kp (hoth _ hD.lt (fun h => h))
    have hkb : -2147483648 ≤ (kxPK (sx xs (i + 1)) (sx xs (i + 2))) ∧ (kxPK (sx xs (i + 1)) (sx xs (i + 2))) < 2147483648 := by unfold kxPK; (try unfold kxPK); (repeat' split) <;> decide
    have hkn : ¬ (kxPK (sx xs (i + 1)) (sx xs (i + 2))) = 0 := hk
    refine lv_istore (pc := 1643) (lv' := [(6, .int (iI ((kxPK (sx xs (i + 1)) (sx xs (i + 2)))))), (0, .ref (b)), (1, .ref (qo s.heap.size 0)), (2, .ref (s.heap.size + 187 + 0)), (3, .ref (s.heap.size + 193)), (4, .ref (s.heap.size + 194)), (5, .int (iI (i)))]) E.1 E.2 dL_law_1643 hl (by decide) rfl (fun ls hl => ?_)
    refine lv_aload_n (pc := 1645) E.1 E.2 dL_law_1645 rfl (lv_at hl 3 rfl) ?_
    refine lv_aload_n (pc := 1646) E.1 E.2 dL_law_1646 rfl (lv_at hl 1 rfl) ?_
    refine lv_iload (pc := 1647) E.1 E.2 dL_law_1647 (lv_at hl 6 rfl) ?_
    refine z_iconst (pc := 1649) E dL_law_1649 ?_
    refine z_iadd (pc := 1650) E dL_law_1650 ?_
    refine z_sld (pc := 1651) E hx hb hbA hS ⟨by omega, by omega⟩ hL dL_law_1651 ?_
    refine lv_aload_n (pc := 1652) E.1 E.2 dL_law_1652 rfl (lv_at hl 1 rfl) ?_
    refine lv_iload (pc := 1653) E.1 E.2 dL_law_1653 (lv_at hl 6 rfl) ?_
    refine z_iconst (pc := 1655) E dL_law_1655 ?_
    refine z_iadd (pc := 1656) E dL_law_1656 ?_
    refine z_sld (pc := 1657) E hx hb hbA hS ⟨by omega, by omega⟩ hL dL_law_1657 ?_
    refine z_wVi (pc := 1658) (As := [.int (iI (sx xs (i + 1))), .int (iI (sx xs (i + 2)))]) (rest := []) E hml hown hts (mX8_used l G (fun k => s.heap.size + 187 + k) μ σ φ κ β ω (sx xs (i + 1)) (sx xs (i + 2)) hR.ok.1 (sx_b _ _) (sx_b _ _)) (cwV 2 hts gL_law_X8_used rfl rfl rfl vdX8_used ⟨Nat.le_of_ble_eq_true rfl, Nat.le_of_ble_eq_true rfl⟩) (hW.1.recv hK rfl) hW hK hS (fun q h => la_8 h) rfl hl.1 rfl dL_law_1658 ⟨by omega, by omega⟩ (Nat.le_of_ble_eq_true rfl) (fun H locs hW hsz hoth hS => ?_)
    have hQ := hQ.kp (fun k hk => hoth _ (hQ.lt k hk) (lb_8 hk))
    have hA := hA.kp (hoth _ hA.lt le_193)
    have hD := hD.kp (hoth _ hD.lt le_194)
    have hk8 := hk
    try simp only [if_neg hk8] at hW
    refine lv_istore (pc := 1661) (lv' := [(7, .int (iI ((if (kxPK (sx xs (i + 1)) (sx xs (i + 2))) = 0 then σ (37 + (2 * (sx xs (i + 1)) + (sx xs (i + 2)))) else 0)))), (6, .int (iI ((kxPK (sx xs (i + 1)) (sx xs (i + 2)))))), (0, .ref (b)), (1, .ref (qo s.heap.size 0)), (2, .ref (s.heap.size + 187 + 0)), (3, .ref (s.heap.size + 193)), (4, .ref (s.heap.size + 194)), (5, .int (iI (i)))]) E.1 E.2 dL_law_1661 hl (by decide) rfl (fun ls hl => ?_)
    refine lv_aload_n (pc := 1663) E.1 E.2 dL_law_1663 rfl (lv_at hl 4 rfl) ?_
    refine z_rVi (pc := 1664) (As := []) (rest := []) E hml hown hts (mX8_thrown l G (fun k => s.heap.size + 187 + k) _ _ _ _ _ _) (cwV 0 hts gL_law_X8_thrown rfl rfl rfl vdX8_thrown ⟨Nat.le_of_ble_eq_true rfl, Nat.le_of_ble_eq_true rfl⟩) (hW.1.recv hK rfl) hW hK rfl hl.1 rfl dL_law_1664 ⟨by omega, by omega⟩ (Nat.le_of_ble_eq_true rfl) ?_
    refine lv_iload (pc := 1667) E.1 E.2 dL_law_1667 (lv_at hl 1 rfl) ?_
    refine z_same (pc := 1669) (tgt := 1674) E rfl dL_law_1669 (by decide) ?_
    refine lv_iload (pc := 1674) E.1 E.2 dL_law_1674 (lv_at hl 1 rfl) ?_
    refine z_if_ne (pc := 1676) (tgt := 1691) E hkb dL_law_1676 (by decide) (fun _ => ?_) (fun h => absurd h hkn)
    refine lv_goto (pc := 1691) (tgt := 2822) E.1 E.2 dL_law_1691 (by decide) ?_
    refine W.widen (k := cells + 1) (n := slots + 6) (by omega) (by omega) ?_
    exact kk H locs ls ⟨⟨_, _, _, _, _, _, _, _, _, hQ, hW, hR.id rfl rfl rfl rfl⟩, ⟨_, hA⟩, ⟨_, hD⟩⟩ hS (lv_sub hl [2, 3, 4, 5, 6, 7] rfl)
set_option maxHeartbeats 1000000 in
set_option maxRecDepth 100000 in
theorem cs_counted {p : Program} {l : Launch} {e : Env} {s : State} {m : MethodId} {below : List Frame} {meth : Method} {c : Code} {G : GG} {b L : Nat} {xs : Nat → Int32} {aK aV : Nat → Nat} (X : LX p l s m c G b L xs aK aV) {n : Nat} {i : Int} {H : Heap} {locs : List Loc} {ls : Array Slot} {cells slots : Nat} {Q : State → Prop} (hn : n ≤ 600) (hi : 0 ≤ i ∧ i + 6 ≤ (L : Int)) (hH : LH G n s.heap.size H) (hS : va_S (fun q => s.heap.size ≤ q) s.heap H locs) (hl : lv_has ls 8 [(0, .ref b), (1, .ref (qo s.heap.size 0)), (2, .ref (s.heap.size + 187 + 0)), (3, .ref (s.heap.size + 193)), (4, .ref (s.heap.size + 194)), (5, .int (iI i))]) (hc : cells + 1 ≤ room_1.cells) (hsl : slots + 6 ≤ room_1.slots) (kk : ∀ (H : Heap) (locs : List Loc) (ls : Array Slot), LH G (n + 1) s.heap.size H → va_S (fun q => s.heap.size ≤ q) s.heap H locs → lv_has ls 8 [(0, .ref b), (1, .ref (qo s.heap.size 0)), (2, .ref (s.heap.size + 187 + 0)), (3, .ref (s.heap.size + 193)), (4, .ref (s.heap.size + 194)), (5, .int (iI i))] → W p l e room_1 s m #[Value.ref b] below meth c H locs (cells + 1) (slots + 6) Q (F0 m 2822 ls [])) : W p l e room_1 s m #[Value.ref b] below meth c H locs cells slots Q (F0 m 1694 ls []) := by
  obtain ⟨E, hml, hown, hts, hK, hX0, hx, hb, hst, hL, hks⟩ := X
  obtain ⟨⟨ν, σ, π, δ, β, ω, μ, φ, κ, hQ, hW, hR⟩, ⟨fq, hA⟩, ⟨xq, hD⟩⟩ := hH
  have hX : KX FF0 s H := (hX0.kept (fun a ha hna => hS.2.1 a ha hna)).narrow (fun q h => h.elim)
  have hbA : ¬ (s.heap.size ≤ b) := by omega
  refine lv_aload_n (pc := 1694) E.1 E.2 dL_law_1694 rfl (lv_at hl 1 rfl) ?_
  refine lv_aload_n (pc := 1695) E.1 E.2 dL_law_1695 rfl (lv_at hl 0 rfl) ?_
  refine lv_iload (pc := 1696) E.1 E.2 dL_law_1696 (lv_at hl 5 rfl) ?_
  refine z_iconst (pc := 1698) E dL_law_1698 ?_
  refine z_iadd (pc := 1699) E dL_law_1699 ?_
  refine z_sld (pc := 1700) E hx hb hbA hS ⟨by omega, by omega⟩ hL dL_law_1700 ?_
  refine lv_aload_n (pc := 1701) E.1 E.2 dL_law_1701 rfl (lv_at hl 0 rfl) ?_
  refine lv_iload (pc := 1702) E.1 E.2 dL_law_1702 (lv_at hl 5 rfl) ?_
  refine z_iconst (pc := 1704) E dL_law_1704 ?_
  refine z_iadd (pc := 1705) E dL_law_1705 ?_
  refine z_sld (pc := 1706) E hx hb hbA hS ⟨by omega, by omega⟩ hL dL_law_1706 ?_
  refine lv_aload_n (pc := 1707) E.1 E.2 dL_law_1707 rfl (lv_at hl 3 rfl) ?_
  by_cases hk : (kxPK (sx xs (i + 1)) (sx xs (i + 2))) = 0
  · refine z_lwc (pc := 1708) (As := [.ref (qo s.heap.size 0), .int (iI (sx xs (i + 1))), .int (iI (sx xs (i + 2))), .ref (s.heap.size + 193)]) (rest := []) E hml hown hts (mL_counted l G (qo s.heap.size) ν σ π δ (fun j => sg8 (β j)) ω (sx xs (i + 1)) (sx xs (i + 2)) hR.ok.1 (sx_b _ _) (sx_b _ _) hk (s.heap.size + 193) fq (fun k hk => by have := qo_b s.heap.size hk; omega)) (vx_cwSW 4 hts gL_law_L_counted rfl rfl rfl vdL_counted.2 ⟨Nat.le_of_ble_eq_true rfl, Nat.le_of_ble_eq_true rfl⟩) ⟨hQ, hA⟩ hK hX hS (fun q h => la_193 h) rfl hl.1 rfl dL_law_1708 ⟨by omega, by omega⟩ (Nat.le_of_ble_eq_true rfl) (fun H locs hQA hsz hoth hS => ?_)
    obtain ⟨hQ, hA⟩ := hQA
    have hW := hW.kp (fun k hk => hoth _ (hW.lt k hk) (lb_193 hk))
    have hD := hD.kp (hoth _ hD.lt lc_193)
    refine lv_istore (pc := 1711) (lv' := [(6, .int (iI (0))), (0, .ref (b)), (1, .ref (qo s.heap.size 0)), (2, .ref (s.heap.size + 187 + 0)), (3, .ref (s.heap.size + 193)), (4, .ref (s.heap.size + 194)), (5, .int (iI (i)))]) E.1 E.2 dL_law_1711 hl (by decide) rfl (fun ls hl => ?_)
    refine lv_aload_n (pc := 1713) E.1 E.2 dL_law_1713 rfl (lv_at hl 3 rfl) ?_
    refine lv_aload_n (pc := 1714) E.1 E.2 dL_law_1714 rfl (lv_at hl 1 rfl) ?_
    refine lv_iload (pc := 1715) E.1 E.2 dL_law_1715 (lv_at hl 6 rfl) ?_
    refine z_iconst (pc := 1717) E dL_law_1717 ?_
    refine z_iadd (pc := 1718) E dL_law_1718 ?_
    refine z_sld (pc := 1719) E hx hb hbA hS ⟨by omega, by omega⟩ hL dL_law_1719 ?_
    refine lv_aload_n (pc := 1720) E.1 E.2 dL_law_1720 rfl (lv_at hl 1 rfl) ?_
    refine lv_iload (pc := 1721) E.1 E.2 dL_law_1721 (lv_at hl 6 rfl) ?_
    refine z_iconst (pc := 1723) E dL_law_1723 ?_
    refine z_iadd (pc := 1724) E dL_law_1724 ?_
    refine z_sld (pc := 1725) E hx hb hbA hS ⟨by omega, by omega⟩ hL dL_law_1725 ?_
    refine z_wVi (pc := 1726) (As := [.int (iI (sx xs (i + 1))), .int (iI (sx xs (i + 2)))]) (rest := []) E hml hown hts (mX8_counted l G (fun k => s.heap.size + 187 + k) μ σ φ κ β ω (sx xs (i + 1)) (sx xs (i + 2)) hR.ok.1 (sx_b _ _) (sx_b _ _)) (cwV 2 hts gL_law_X8_counted rfl rfl rfl vdX8_counted ⟨Nat.le_of_ble_eq_true rfl, Nat.le_of_ble_eq_true rfl⟩) (hW.1.recv hK rfl) hW hK hS (fun q h => la_8 h) rfl hl.1 rfl dL_law_1726 ⟨by omega, by omega⟩ (Nat.le_of_ble_eq_true rfl) (fun H locs hW hsz hoth hS => ?_)
    have hQ := hQ.kp (fun k hk => hoth _ (hQ.lt k hk) (lb_8 hk))
    have hA := hA.kp (hoth _ hA.lt le_193)
    have hD := hD.kp (hoth _ hD.lt le_194)
    have hk8 := hk
    try simp only [if_pos hk8] at hW
    refine lv_istore (pc := 1729) (lv' := [(7, .int (iI ((if (kxPK (sx xs (i + 1)) (sx xs (i + 2))) = 0 then coS σ (sx xs (i + 1)) (sx xs (i + 2)) else 0)))), (6, .int (iI (0))), (0, .ref (b)), (1, .ref (qo s.heap.size 0)), (2, .ref (s.heap.size + 187 + 0)), (3, .ref (s.heap.size + 193)), (4, .ref (s.heap.size + 194)), (5, .int (iI (i)))]) E.1 E.2 dL_law_1729 hl (by decide) rfl (fun ls hl => ?_)
    refine lv_aload_n (pc := 1731) E.1 E.2 dL_law_1731 rfl (lv_at hl 4 rfl) ?_
    refine z_rVi (pc := 1732) (As := []) (rest := []) E hml hown hts (mX8_thrown l G (fun k => s.heap.size + 187 + k) _ _ _ _ _ _) (cwV 0 hts gL_law_X8_thrown rfl rfl rfl vdX8_thrown ⟨Nat.le_of_ble_eq_true rfl, Nat.le_of_ble_eq_true rfl⟩) (hW.1.recv hK rfl) hW hK rfl hl.1 rfl dL_law_1732 ⟨by omega, by omega⟩ (Nat.le_of_ble_eq_true rfl) ?_
    refine lv_iload (pc := 1735) E.1 E.2 dL_law_1735 (lv_at hl 1 rfl) ?_
    refine z_same (pc := 1737) (tgt := 1742) E hk8 dL_law_1737 (by decide) ?_
    refine lv_iload (pc := 1742) E.1 E.2 dL_law_1742 (lv_at hl 1 rfl) ?_
    refine z_if_ne (pc := 1744) (tgt := 1759) E (by decide) dL_law_1744 (by decide) (fun h => absurd rfl h) (fun _ => ?_)
    refine lv_aload_n (pc := 1747) E.1 E.2 dL_law_1747 rfl (lv_at hl 5 rfl) ?_
    refine z_iconst (pc := 1748) E dL_law_1748 ?_
    refine z_laloadE (pc := 1749) E hK hA (by decide) (by decide) (show zu fq 0 (rI ((coS σ (sx xs (i + 1)) (sx xs (i + 2))))) 0 = rI ((coS σ (sx xs (i + 1)) (sx xs (i + 2)))) from if_pos rfl) dL_law_1749 ?_
    refine lv_iload (pc := 1750) E.1 E.2 dL_law_1750 (lv_at hl 0 rfl) ?_
    refine z_i2lR (pc := 1752) E dL_law_1752 ?_
    refine z_sameL (pc := 1753) (tgt := 1759) E (if_pos hk8).symm dL_law_1753 dL_law_1754 (by decide) ?_
    refine lv_goto (pc := 1759) (tgt := 2822) E.1 E.2 dL_law_1759 (by decide) ?_
    refine W.widen (k := cells + 1) (n := slots + 6) (by omega) (by omega) ?_
    exact kk H locs ls ⟨⟨_, _, _, _, _, _, _, _, _, hQ, hW, hR.id rfl rfl rfl rfl⟩, ⟨_, hA⟩, ⟨_, hD⟩⟩ hS (lv_sub hl [2, 3, 4, 5, 6, 7] rfl)
  · refine z_lwc (pc := 1708) (As := [.ref (qo s.heap.size 0), .int (iI (sx xs (i + 1))), .int (iI (sx xs (i + 2))), .ref (s.heap.size + 193)]) (rest := []) E hml hown hts (mbL_counted l hst G (qo s.heap.size) ν σ π δ (fun j => sg8 (β j)) ω (sx xs (i + 1)) (sx xs (i + 2)) hR.ok.1 (sx_b _ _) (sx_b _ _) hk (s.heap.size + 193) fq) (vx_cwSW 4 hts gL_law_L_counted rfl rfl rfl vdL_counted.2 ⟨Nat.le_of_ble_eq_true rfl, Nat.le_of_ble_eq_true rfl⟩) ⟨hQ, hA⟩ hK hX hS (fun q h => h.elim) rfl hl.1 rfl dL_law_1708 ⟨by omega, by omega⟩ (Nat.le_of_ble_eq_true rfl) (fun H locs hQA hsz hoth hS => ?_)
    obtain ⟨hQ, hA⟩ := hQA
    have hW := hW.kp (fun k hk => hoth _ (hW.lt k hk) (fun h => h))
    have hD := hD.kp (hoth _ hD.lt (fun h => h))
    have hkb : -2147483648 ≤ (kxPK (sx xs (i + 1)) (sx xs (i + 2))) ∧ (kxPK (sx xs (i + 1)) (sx xs (i + 2))) < 2147483648 := by unfold kxPK; (try unfold kxPK); (repeat' split) <;> decide
    have hkn : ¬ (kxPK (sx xs (i + 1)) (sx xs (i + 2))) = 0 := hk
    refine lv_istore (pc := 1711) (lv' := [(6, .int (iI ((kxPK (sx xs (i + 1)) (sx xs (i + 2)))))), (0, .ref (b)), (1, .ref (qo s.heap.size 0)), (2, .ref (s.heap.size + 187 + 0)), (3, .ref (s.heap.size + 193)), (4, .ref (s.heap.size + 194)), (5, .int (iI (i)))]) E.1 E.2 dL_law_1711 hl (by decide) rfl (fun ls hl => ?_)
    refine lv_aload_n (pc := 1713) E.1 E.2 dL_law_1713 rfl (lv_at hl 3 rfl) ?_
    refine lv_aload_n (pc := 1714) E.1 E.2 dL_law_1714 rfl (lv_at hl 1 rfl) ?_
    refine lv_iload (pc := 1715) E.1 E.2 dL_law_1715 (lv_at hl 6 rfl) ?_
    refine z_iconst (pc := 1717) E dL_law_1717 ?_
    refine z_iadd (pc := 1718) E dL_law_1718 ?_
    refine z_sld (pc := 1719) E hx hb hbA hS ⟨by omega, by omega⟩ hL dL_law_1719 ?_
    refine lv_aload_n (pc := 1720) E.1 E.2 dL_law_1720 rfl (lv_at hl 1 rfl) ?_
    refine lv_iload (pc := 1721) E.1 E.2 dL_law_1721 (lv_at hl 6 rfl) ?_
    refine z_iconst (pc := 1723) E dL_law_1723 ?_
    refine z_iadd (pc := 1724) E dL_law_1724 ?_
    refine z_sld (pc := 1725) E hx hb hbA hS ⟨by omega, by omega⟩ hL dL_law_1725 ?_
    refine z_wVi (pc := 1726) (As := [.int (iI (sx xs (i + 1))), .int (iI (sx xs (i + 2)))]) (rest := []) E hml hown hts (mX8_counted l G (fun k => s.heap.size + 187 + k) μ σ φ κ β ω (sx xs (i + 1)) (sx xs (i + 2)) hR.ok.1 (sx_b _ _) (sx_b _ _)) (cwV 2 hts gL_law_X8_counted rfl rfl rfl vdX8_counted ⟨Nat.le_of_ble_eq_true rfl, Nat.le_of_ble_eq_true rfl⟩) (hW.1.recv hK rfl) hW hK hS (fun q h => la_8 h) rfl hl.1 rfl dL_law_1726 ⟨by omega, by omega⟩ (Nat.le_of_ble_eq_true rfl) (fun H locs hW hsz hoth hS => ?_)
    have hQ := hQ.kp (fun k hk => hoth _ (hQ.lt k hk) (lb_8 hk))
    have hA := hA.kp (hoth _ hA.lt le_193)
    have hD := hD.kp (hoth _ hD.lt le_194)
    have hk8 := hk
    try simp only [if_neg hk8] at hW
    refine lv_istore (pc := 1729) (lv' := [(7, .int (iI ((if (kxPK (sx xs (i + 1)) (sx xs (i + 2))) = 0 then coS σ (sx xs (i + 1)) (sx xs (i + 2)) else 0)))), (6, .int (iI ((kxPK (sx xs (i + 1)) (sx xs (i + 2)))))), (0, .ref (b)), (1, .ref (qo s.heap.size 0)), (2, .ref (s.heap.size + 187 + 0)), (3, .ref (s.heap.size + 193)), (4, .ref (s.heap.size + 194)), (5, .int (iI (i)))]) E.1 E.2 dL_law_1729 hl (by decide) rfl (fun ls hl => ?_)
    refine lv_aload_n (pc := 1731) E.1 E.2 dL_law_1731 rfl (lv_at hl 4 rfl) ?_
    refine z_rVi (pc := 1732) (As := []) (rest := []) E hml hown hts (mX8_thrown l G (fun k => s.heap.size + 187 + k) _ _ _ _ _ _) (cwV 0 hts gL_law_X8_thrown rfl rfl rfl vdX8_thrown ⟨Nat.le_of_ble_eq_true rfl, Nat.le_of_ble_eq_true rfl⟩) (hW.1.recv hK rfl) hW hK rfl hl.1 rfl dL_law_1732 ⟨by omega, by omega⟩ (Nat.le_of_ble_eq_true rfl) ?_
    refine lv_iload (pc := 1735) E.1 E.2 dL_law_1735 (lv_at hl 1 rfl) ?_
    refine z_same (pc := 1737) (tgt := 1742) E rfl dL_law_1737 (by decide) ?_
    refine lv_iload (pc := 1742) E.1 E.2 dL_law_1742 (lv_at hl 1 rfl) ?_
    refine z_if_ne (pc := 1744) (tgt := 1759) E hkb dL_law_1744 (by decide) (fun _ => ?_) (fun h => absurd h hkn)
    refine lv_goto (pc := 1759) (tgt := 2822) E.1 E.2 dL_law_1759 (by decide) ?_
    refine W.widen (k := cells + 1) (n := slots + 6) (by omega) (by omega) ?_
    exact kk H locs ls ⟨⟨_, _, _, _, _, _, _, _, _, hQ, hW, hR.id rfl rfl rfl rfl⟩, ⟨_, hA⟩, ⟨_, hD⟩⟩ hS (lv_sub hl [2, 3, 4, 5, 6, 7] rfl)
set_option maxHeartbeats 1000000 in
set_option maxRecDepth 100000 in
theorem cs_limit {p : Program} {l : Launch} {e : Env} {s : State} {m : MethodId} {below : List Frame} {meth : Method} {c : Code} {G : GG} {b L : Nat} {xs : Nat → Int32} {aK aV : Nat → Nat} (X : LX p l s m c G b L xs aK aV) {n : Nat} {i : Int} {H : Heap} {locs : List Loc} {ls : Array Slot} {cells slots : Nat} {Q : State → Prop} (hn : n ≤ 600) (hi : 0 ≤ i ∧ i + 6 ≤ (L : Int)) (hH : LH G n s.heap.size H) (hS : va_S (fun q => s.heap.size ≤ q) s.heap H locs) (hl : lv_has ls 8 [(0, .ref b), (1, .ref (qo s.heap.size 0)), (2, .ref (s.heap.size + 187 + 0)), (3, .ref (s.heap.size + 193)), (4, .ref (s.heap.size + 194)), (5, .int (iI i))]) (hc : cells + 1 ≤ room_1.cells) (hsl : slots + 6 ≤ room_1.slots) (kk : ∀ (H : Heap) (locs : List Loc) (ls : Array Slot), LH G (n + 1) s.heap.size H → va_S (fun q => s.heap.size ≤ q) s.heap H locs → lv_has ls 8 [(0, .ref b), (1, .ref (qo s.heap.size 0)), (2, .ref (s.heap.size + 187 + 0)), (3, .ref (s.heap.size + 193)), (4, .ref (s.heap.size + 194)), (5, .int (iI i))] → W p l e room_1 s m #[Value.ref b] below meth c H locs (cells + 1) (slots + 6) Q (F0 m 2822 ls [])) : W p l e room_1 s m #[Value.ref b] below meth c H locs cells slots Q (F0 m 1762 ls []) := by
  obtain ⟨E, hml, hown, hts, hK, hX0, hx, hb, hst, hL, hks⟩ := X
  obtain ⟨⟨ν, σ, π, δ, β, ω, μ, φ, κ, hQ, hW, hR⟩, ⟨fq, hA⟩, ⟨xq, hD⟩⟩ := hH
  have hX : KX FF0 s H := (hX0.kept (fun a ha hna => hS.2.1 a ha hna)).narrow (fun q h => h.elim)
  have hbA : ¬ (s.heap.size ≤ b) := by omega
  refine lv_aload_n (pc := 1762) E.1 E.2 dL_law_1762 rfl (lv_at hl 1 rfl) ?_
  refine lv_aload_n (pc := 1763) E.1 E.2 dL_law_1763 rfl (lv_at hl 0 rfl) ?_
  refine lv_iload (pc := 1764) E.1 E.2 dL_law_1764 (lv_at hl 5 rfl) ?_
  refine z_iconst (pc := 1766) E dL_law_1766 ?_
  refine z_iadd (pc := 1767) E dL_law_1767 ?_
  refine z_sld (pc := 1768) E hx hb hbA hS ⟨by omega, by omega⟩ hL dL_law_1768 ?_
  refine lv_aload_n (pc := 1769) E.1 E.2 dL_law_1769 rfl (lv_at hl 0 rfl) ?_
  refine lv_iload (pc := 1770) E.1 E.2 dL_law_1770 (lv_at hl 5 rfl) ?_
  refine z_iconst (pc := 1772) E dL_law_1772 ?_
  refine z_iadd (pc := 1773) E dL_law_1773 ?_
  refine z_sld (pc := 1774) E hx hb hbA hS ⟨by omega, by omega⟩ hL dL_law_1774 ?_
  refine lv_aload_n (pc := 1775) E.1 E.2 dL_law_1775 rfl (lv_at hl 0 rfl) ?_
  refine lv_iload (pc := 1776) E.1 E.2 dL_law_1776 (lv_at hl 5 rfl) ?_
  refine z_iconst (pc := 1778) E dL_law_1778 ?_
  refine z_iadd (pc := 1779) E dL_law_1779 ?_
  refine z_sld (pc := 1780) E hx hb hbA hS ⟨by omega, by omega⟩ hL dL_law_1780 ?_
  refine z_if_eq (pc := 1781) (tgt := 1788) E (sx_b _ _) dL_law_1781 (by decide) (fun hfl => ?_) (fun hfl => ?_)
  · refine z_iconst (pc := 1788) E dL_law_1788 ?_
    refine lv_aload_n (pc := 1789) E.1 E.2 dL_law_1789 rfl (lv_at hl 3 rfl) ?_
    by_cases hk : (kxPK (sx xs (i + 1)) (sx xs (i + 2))) = 0
    · refine z_lwc (pc := 1790) (As := [.ref (qo s.heap.size 0), .int (iI (sx xs (i + 1))), .int (iI (sx xs (i + 2))), .int (iI (0)), .ref (s.heap.size + 193)]) (rest := []) E hml hown hts (mL_limit l G (qo s.heap.size) ν σ π δ (fun j => sg8 (β j)) ω (sx xs (i + 1)) (sx xs (i + 2)) 0 hR.ok.1 (sx_b _ _) (sx_b _ _) (Or.inl rfl) hk (s.heap.size + 193) fq (fun k hk => by have := qo_b s.heap.size hk; omega)) (vx_cwSW 5 hts gL_law_L_limit rfl rfl rfl vdL_limit.2 ⟨Nat.le_of_ble_eq_true rfl, Nat.le_of_ble_eq_true rfl⟩) ⟨hQ, hA⟩ hK hX hS (fun q h => la_193 h) rfl hl.1 rfl dL_law_1790 ⟨by omega, by omega⟩ (Nat.le_of_ble_eq_true rfl) (fun H locs hQA hsz hoth hS => ?_)
      obtain ⟨hQ, hA⟩ := hQA
      have hW := hW.kp (fun k hk => hoth _ (hW.lt k hk) (lb_193 hk))
      have hD := hD.kp (hoth _ hD.lt lc_193)
      refine lv_istore (pc := 1793) (lv' := [(6, .int (iI (0))), (0, .ref (b)), (1, .ref (qo s.heap.size 0)), (2, .ref (s.heap.size + 187 + 0)), (3, .ref (s.heap.size + 193)), (4, .ref (s.heap.size + 194)), (5, .int (iI (i)))]) E.1 E.2 dL_law_1793 hl (by decide) rfl (fun ls hl => ?_)
      refine lv_aload_n (pc := 1795) E.1 E.2 dL_law_1795 rfl (lv_at hl 3 rfl) ?_
      refine lv_aload_n (pc := 1796) E.1 E.2 dL_law_1796 rfl (lv_at hl 1 rfl) ?_
      refine lv_iload (pc := 1797) E.1 E.2 dL_law_1797 (lv_at hl 6 rfl) ?_
      refine z_iconst (pc := 1799) E dL_law_1799 ?_
      refine z_iadd (pc := 1800) E dL_law_1800 ?_
      refine z_sld (pc := 1801) E hx hb hbA hS ⟨by omega, by omega⟩ hL dL_law_1801 ?_
      refine lv_aload_n (pc := 1802) E.1 E.2 dL_law_1802 rfl (lv_at hl 1 rfl) ?_
      refine lv_iload (pc := 1803) E.1 E.2 dL_law_1803 (lv_at hl 6 rfl) ?_
      refine z_iconst (pc := 1805) E dL_law_1805 ?_
      refine z_iadd (pc := 1806) E dL_law_1806 ?_
      refine z_sld (pc := 1807) E hx hb hbA hS ⟨by omega, by omega⟩ hL dL_law_1807 ?_
      refine lv_aload_n (pc := 1808) E.1 E.2 dL_law_1808 rfl (lv_at hl 1 rfl) ?_
      refine lv_iload (pc := 1809) E.1 E.2 dL_law_1809 (lv_at hl 6 rfl) ?_
      refine z_iconst (pc := 1811) E dL_law_1811 ?_
      refine z_iadd (pc := 1812) E dL_law_1812 ?_
      refine z_sld (pc := 1813) E hx hb hbA hS ⟨by omega, by omega⟩ hL dL_law_1813 ?_
      refine z_if_eq (pc := 1814) (tgt := 1821) E (sx_b _ _) dL_law_1814 (by decide) (fun _ => ?_) (fun h => absurd hfl h)
      refine z_iconst (pc := 1821) E dL_law_1821 ?_
      refine z_wVi (pc := 1822) (As := [.int (iI (sx xs (i + 1))), .int (iI (sx xs (i + 2))), .int (iI (0))]) (rest := []) E hml hown hts (mX8_limit l G (fun k => s.heap.size + 187 + k) μ σ φ κ β ω (sx xs (i + 1)) (sx xs (i + 2)) 0 hR.ok.1 (sx_b _ _) (sx_b _ _) (Or.inl rfl)) (cwV 3 hts gL_law_X8_limit rfl rfl rfl vdX8_limit ⟨Nat.le_of_ble_eq_true rfl, Nat.le_of_ble_eq_true rfl⟩) (hW.1.recv hK rfl) hW hK hS (fun q h => la_8 h) rfl hl.1 rfl dL_law_1822 ⟨by omega, by omega⟩ (Nat.le_of_ble_eq_true rfl) (fun H locs hW hsz hoth hS => ?_)
      have hQ := hQ.kp (fun k hk => hoth _ (hQ.lt k hk) (lb_8 hk))
      have hA := hA.kp (hoth _ hA.lt le_193)
      have hD := hD.kp (hoth _ hD.lt le_194)
      have hk8 := hk
      try simp only [if_pos hk8] at hW
      refine lv_istore (pc := 1825) (lv' := [(7, .int (iI ((if (kxPK (sx xs (i + 1)) (sx xs (i + 2))) = 0 then lmS σ (if 0 = 0 then 5 else 21) (sx xs (i + 1)) (sx xs (i + 2)) else 0)))), (6, .int (iI (0))), (0, .ref (b)), (1, .ref (qo s.heap.size 0)), (2, .ref (s.heap.size + 187 + 0)), (3, .ref (s.heap.size + 193)), (4, .ref (s.heap.size + 194)), (5, .int (iI (i)))]) E.1 E.2 dL_law_1825 hl (by decide) rfl (fun ls hl => ?_)
      refine lv_aload_n (pc := 1827) E.1 E.2 dL_law_1827 rfl (lv_at hl 4 rfl) ?_
      refine z_rVi (pc := 1828) (As := []) (rest := []) E hml hown hts (mX8_thrown l G (fun k => s.heap.size + 187 + k) _ _ _ _ _ _) (cwV 0 hts gL_law_X8_thrown rfl rfl rfl vdX8_thrown ⟨Nat.le_of_ble_eq_true rfl, Nat.le_of_ble_eq_true rfl⟩) (hW.1.recv hK rfl) hW hK rfl hl.1 rfl dL_law_1828 ⟨by omega, by omega⟩ (Nat.le_of_ble_eq_true rfl) ?_
      refine lv_iload (pc := 1831) E.1 E.2 dL_law_1831 (lv_at hl 1 rfl) ?_
      refine z_same (pc := 1833) (tgt := 1838) E hk8 dL_law_1833 (by decide) ?_
      refine lv_iload (pc := 1838) E.1 E.2 dL_law_1838 (lv_at hl 1 rfl) ?_
      refine z_if_ne (pc := 1840) (tgt := 1855) E (by decide) dL_law_1840 (by decide) (fun h => absurd rfl h) (fun _ => ?_)
      refine lv_aload_n (pc := 1843) E.1 E.2 dL_law_1843 rfl (lv_at hl 5 rfl) ?_
      refine z_iconst (pc := 1844) E dL_law_1844 ?_
      refine z_laloadE (pc := 1845) E hK hA (by decide) (by decide) (show zu fq 0 (rI ((lmS σ (if 0 = 0 then 5 else 21) (sx xs (i + 1)) (sx xs (i + 2))))) 0 = rI ((lmS σ (if 0 = 0 then 5 else 21) (sx xs (i + 1)) (sx xs (i + 2)))) from if_pos rfl) dL_law_1845 ?_
      refine lv_iload (pc := 1846) E.1 E.2 dL_law_1846 (lv_at hl 0 rfl) ?_
      refine z_i2lR (pc := 1848) E dL_law_1848 ?_
      refine z_sameL (pc := 1849) (tgt := 1855) E (if_pos hk8).symm dL_law_1849 dL_law_1850 (by decide) ?_
      refine lv_goto (pc := 1855) (tgt := 2822) E.1 E.2 dL_law_1855 (by decide) ?_
      refine W.widen (k := cells + 1) (n := slots + 6) (by omega) (by omega) ?_
      exact kk H locs ls ⟨⟨_, _, _, _, _, _, _, _, _, hQ, hW, hR.id rfl rfl rfl rfl⟩, ⟨_, hA⟩, ⟨_, hD⟩⟩ hS (lv_sub hl [2, 3, 4, 5, 6, 7] rfl)
    · refine z_lwc (pc := 1790) (As := [.ref (qo s.heap.size 0), .int (iI (sx xs (i + 1))), .int (iI (sx xs (i + 2))), .int (iI (0)), .ref (s.heap.size + 193)]) (rest := []) E hml hown hts (mbL_limit l hst G (qo s.heap.size) ν σ π δ (fun j => sg8 (β j)) ω (sx xs (i + 1)) (sx xs (i + 2)) 0 hR.ok.1 (sx_b _ _) (sx_b _ _) (Or.inl rfl) hk (s.heap.size + 193) fq) (vx_cwSW 5 hts gL_law_L_limit rfl rfl rfl vdL_limit.2 ⟨Nat.le_of_ble_eq_true rfl, Nat.le_of_ble_eq_true rfl⟩) ⟨hQ, hA⟩ hK hX hS (fun q h => h.elim) rfl hl.1 rfl dL_law_1790 ⟨by omega, by omega⟩ (Nat.le_of_ble_eq_true rfl) (fun H locs hQA hsz hoth hS => ?_)
      obtain ⟨hQ, hA⟩ := hQA
      have hW := hW.kp (fun k hk => hoth _ (hW.lt k hk) (fun h => h))
      have hD := hD.kp (hoth _ hD.lt (fun h => h))
      have hkb : -2147483648 ≤ (kxPK (sx xs (i + 1)) (sx xs (i + 2))) ∧ (kxPK (sx xs (i + 1)) (sx xs (i + 2))) < 2147483648 := by unfold kxPK; (try unfold kxPK); (repeat' split) <;> decide
      have hkn : ¬ (kxPK (sx xs (i + 1)) (sx xs (i + 2))) = 0 := hk
      refine lv_istore (pc := 1793) (lv' := [(6, .int (iI ((kxPK (sx xs (i + 1)) (sx xs (i + 2)))))), (0, .ref (b)), (1, .ref (qo s.heap.size 0)), (2, .ref (s.heap.size + 187 + 0)), (3, .ref (s.heap.size + 193)), (4, .ref (s.heap.size + 194)), (5, .int (iI (i)))]) E.1 E.2 dL_law_1793 hl (by decide) rfl (fun ls hl => ?_)
      refine lv_aload_n (pc := 1795) E.1 E.2 dL_law_1795 rfl (lv_at hl 3 rfl) ?_
      refine lv_aload_n (pc := 1796) E.1 E.2 dL_law_1796 rfl (lv_at hl 1 rfl) ?_
      refine lv_iload (pc := 1797) E.1 E.2 dL_law_1797 (lv_at hl 6 rfl) ?_
      refine z_iconst (pc := 1799) E dL_law_1799 ?_
      refine z_iadd (pc := 1800) E dL_law_1800 ?_
      refine z_sld (pc := 1801) E hx hb hbA hS ⟨by omega, by omega⟩ hL dL_law_1801 ?_
      refine lv_aload_n (pc := 1802) E.1 E.2 dL_law_1802 rfl (lv_at hl 1 rfl) ?_
      refine lv_iload (pc := 1803) E.1 E.2 dL_law_1803 (lv_at hl 6 rfl) ?_
      refine z_iconst (pc := 1805) E dL_law_1805 ?_
      refine z_iadd (pc := 1806) E dL_law_1806 ?_
      refine z_sld (pc := 1807) E hx hb hbA hS ⟨by omega, by omega⟩ hL dL_law_1807 ?_
      refine lv_aload_n (pc := 1808) E.1 E.2 dL_law_1808 rfl (lv_at hl 1 rfl) ?_
      refine lv_iload (pc := 1809) E.1 E.2 dL_law_1809 (lv_at hl 6 rfl) ?_
      refine z_iconst (pc := 1811) E dL_law_1811 ?_
      refine z_iadd (pc := 1812) E dL_law_1812 ?_
      refine z_sld (pc := 1813) E hx hb hbA hS ⟨by omega, by omega⟩ hL dL_law_1813 ?_
      refine z_if_eq (pc := 1814) (tgt := 1821) E (sx_b _ _) dL_law_1814 (by decide) (fun _ => ?_) (fun h => absurd hfl h)
      refine z_iconst (pc := 1821) E dL_law_1821 ?_
      refine z_wVi (pc := 1822) (As := [.int (iI (sx xs (i + 1))), .int (iI (sx xs (i + 2))), .int (iI (0))]) (rest := []) E hml hown hts (mX8_limit l G (fun k => s.heap.size + 187 + k) μ σ φ κ β ω (sx xs (i + 1)) (sx xs (i + 2)) 0 hR.ok.1 (sx_b _ _) (sx_b _ _) (Or.inl rfl)) (cwV 3 hts gL_law_X8_limit rfl rfl rfl vdX8_limit ⟨Nat.le_of_ble_eq_true rfl, Nat.le_of_ble_eq_true rfl⟩) (hW.1.recv hK rfl) hW hK hS (fun q h => la_8 h) rfl hl.1 rfl dL_law_1822 ⟨by omega, by omega⟩ (Nat.le_of_ble_eq_true rfl) (fun H locs hW hsz hoth hS => ?_)
      have hQ := hQ.kp (fun k hk => hoth _ (hQ.lt k hk) (lb_8 hk))
      have hA := hA.kp (hoth _ hA.lt le_193)
      have hD := hD.kp (hoth _ hD.lt le_194)
      have hk8 := hk
      try simp only [if_neg hk8] at hW
      refine lv_istore (pc := 1825) (lv' := [(7, .int (iI ((if (kxPK (sx xs (i + 1)) (sx xs (i + 2))) = 0 then lmS σ (if 0 = 0 then 5 else 21) (sx xs (i + 1)) (sx xs (i + 2)) else 0)))), (6, .int (iI ((kxPK (sx xs (i + 1)) (sx xs (i + 2)))))), (0, .ref (b)), (1, .ref (qo s.heap.size 0)), (2, .ref (s.heap.size + 187 + 0)), (3, .ref (s.heap.size + 193)), (4, .ref (s.heap.size + 194)), (5, .int (iI (i)))]) E.1 E.2 dL_law_1825 hl (by decide) rfl (fun ls hl => ?_)
      refine lv_aload_n (pc := 1827) E.1 E.2 dL_law_1827 rfl (lv_at hl 4 rfl) ?_
      refine z_rVi (pc := 1828) (As := []) (rest := []) E hml hown hts (mX8_thrown l G (fun k => s.heap.size + 187 + k) _ _ _ _ _ _) (cwV 0 hts gL_law_X8_thrown rfl rfl rfl vdX8_thrown ⟨Nat.le_of_ble_eq_true rfl, Nat.le_of_ble_eq_true rfl⟩) (hW.1.recv hK rfl) hW hK rfl hl.1 rfl dL_law_1828 ⟨by omega, by omega⟩ (Nat.le_of_ble_eq_true rfl) ?_
      refine lv_iload (pc := 1831) E.1 E.2 dL_law_1831 (lv_at hl 1 rfl) ?_
      refine z_same (pc := 1833) (tgt := 1838) E rfl dL_law_1833 (by decide) ?_
      refine lv_iload (pc := 1838) E.1 E.2 dL_law_1838 (lv_at hl 1 rfl) ?_
      refine z_if_ne (pc := 1840) (tgt := 1855) E hkb dL_law_1840 (by decide) (fun _ => ?_) (fun h => absurd h hkn)
      refine lv_goto (pc := 1855) (tgt := 2822) E.1 E.2 dL_law_1855 (by decide) ?_
      refine W.widen (k := cells + 1) (n := slots + 6) (by omega) (by omega) ?_
      exact kk H locs ls ⟨⟨_, _, _, _, _, _, _, _, _, hQ, hW, hR.id rfl rfl rfl rfl⟩, ⟨_, hA⟩, ⟨_, hD⟩⟩ hS (lv_sub hl [2, 3, 4, 5, 6, 7] rfl)
  · refine z_iconst (pc := 1784) E dL_law_1784 ?_
    refine lv_goto (pc := 1785) (tgt := 1789) E.1 E.2 dL_law_1785 (by decide) ?_
    refine lv_aload_n (pc := 1789) E.1 E.2 dL_law_1789 rfl (lv_at hl 3 rfl) ?_
    by_cases hk : (kxPK (sx xs (i + 1)) (sx xs (i + 2))) = 0
    · refine z_lwc (pc := 1790) (As := [.ref (qo s.heap.size 0), .int (iI (sx xs (i + 1))), .int (iI (sx xs (i + 2))), .int (iI (1)), .ref (s.heap.size + 193)]) (rest := []) E hml hown hts (mL_limit l G (qo s.heap.size) ν σ π δ (fun j => sg8 (β j)) ω (sx xs (i + 1)) (sx xs (i + 2)) 1 hR.ok.1 (sx_b _ _) (sx_b _ _) (Or.inr rfl) hk (s.heap.size + 193) fq (fun k hk => by have := qo_b s.heap.size hk; omega)) (vx_cwSW 5 hts gL_law_L_limit rfl rfl rfl vdL_limit.2 ⟨Nat.le_of_ble_eq_true rfl, Nat.le_of_ble_eq_true rfl⟩) ⟨hQ, hA⟩ hK hX hS (fun q h => la_193 h) rfl hl.1 rfl dL_law_1790 ⟨by omega, by omega⟩ (Nat.le_of_ble_eq_true rfl) (fun H locs hQA hsz hoth hS => ?_)
      obtain ⟨hQ, hA⟩ := hQA
      have hW := hW.kp (fun k hk => hoth _ (hW.lt k hk) (lb_193 hk))
      have hD := hD.kp (hoth _ hD.lt lc_193)
      refine lv_istore (pc := 1793) (lv' := [(6, .int (iI (0))), (0, .ref (b)), (1, .ref (qo s.heap.size 0)), (2, .ref (s.heap.size + 187 + 0)), (3, .ref (s.heap.size + 193)), (4, .ref (s.heap.size + 194)), (5, .int (iI (i)))]) E.1 E.2 dL_law_1793 hl (by decide) rfl (fun ls hl => ?_)
      refine lv_aload_n (pc := 1795) E.1 E.2 dL_law_1795 rfl (lv_at hl 3 rfl) ?_
      refine lv_aload_n (pc := 1796) E.1 E.2 dL_law_1796 rfl (lv_at hl 1 rfl) ?_
      refine lv_iload (pc := 1797) E.1 E.2 dL_law_1797 (lv_at hl 6 rfl) ?_
      refine z_iconst (pc := 1799) E dL_law_1799 ?_
      refine z_iadd (pc := 1800) E dL_law_1800 ?_
      refine z_sld (pc := 1801) E hx hb hbA hS ⟨by omega, by omega⟩ hL dL_law_1801 ?_
      refine lv_aload_n (pc := 1802) E.1 E.2 dL_law_1802 rfl (lv_at hl 1 rfl) ?_
      refine lv_iload (pc := 1803) E.1 E.2 dL_law_1803 (lv_at hl 6 rfl) ?_
      refine z_iconst (pc := 1805) E dL_law_1805 ?_
      refine z_iadd (pc := 1806) E dL_law_1806 ?_
      refine z_sld (pc := 1807) E hx hb hbA hS ⟨by omega, by omega⟩ hL dL_law_1807 ?_
      refine lv_aload_n (pc := 1808) E.1 E.2 dL_law_1808 rfl (lv_at hl 1 rfl) ?_
      refine lv_iload (pc := 1809) E.1 E.2 dL_law_1809 (lv_at hl 6 rfl) ?_
      refine z_iconst (pc := 1811) E dL_law_1811 ?_
      refine z_iadd (pc := 1812) E dL_law_1812 ?_
      refine z_sld (pc := 1813) E hx hb hbA hS ⟨by omega, by omega⟩ hL dL_law_1813 ?_
      refine z_if_eq (pc := 1814) (tgt := 1821) E (sx_b _ _) dL_law_1814 (by decide) (fun h => absurd h hfl) (fun _ => ?_)
      refine z_iconst (pc := 1817) E dL_law_1817 ?_
      refine lv_goto (pc := 1818) (tgt := 1822) E.1 E.2 dL_law_1818 (by decide) ?_
      refine z_wVi (pc := 1822) (As := [.int (iI (sx xs (i + 1))), .int (iI (sx xs (i + 2))), .int (iI (1))]) (rest := []) E hml hown hts (mX8_limit l G (fun k => s.heap.size + 187 + k) μ σ φ κ β ω (sx xs (i + 1)) (sx xs (i + 2)) 1 hR.ok.1 (sx_b _ _) (sx_b _ _) (Or.inr rfl)) (cwV 3 hts gL_law_X8_limit rfl rfl rfl vdX8_limit ⟨Nat.le_of_ble_eq_true rfl, Nat.le_of_ble_eq_true rfl⟩) (hW.1.recv hK rfl) hW hK hS (fun q h => la_8 h) rfl hl.1 rfl dL_law_1822 ⟨by omega, by omega⟩ (Nat.le_of_ble_eq_true rfl) (fun H locs hW hsz hoth hS => ?_)
      have hQ := hQ.kp (fun k hk => hoth _ (hQ.lt k hk) (lb_8 hk))
      have hA := hA.kp (hoth _ hA.lt le_193)
      have hD := hD.kp (hoth _ hD.lt le_194)
      have hk8 := hk
      try simp only [if_pos hk8] at hW
      refine lv_istore (pc := 1825) (lv' := [(7, .int (iI ((if (kxPK (sx xs (i + 1)) (sx xs (i + 2))) = 0 then lmS σ (if 1 = 0 then 5 else 21) (sx xs (i + 1)) (sx xs (i + 2)) else 0)))), (6, .int (iI (0))), (0, .ref (b)), (1, .ref (qo s.heap.size 0)), (2, .ref (s.heap.size + 187 + 0)), (3, .ref (s.heap.size + 193)), (4, .ref (s.heap.size + 194)), (5, .int (iI (i)))]) E.1 E.2 dL_law_1825 hl (by decide) rfl (fun ls hl => ?_)
      refine lv_aload_n (pc := 1827) E.1 E.2 dL_law_1827 rfl (lv_at hl 4 rfl) ?_
      refine z_rVi (pc := 1828) (As := []) (rest := []) E hml hown hts (mX8_thrown l G (fun k => s.heap.size + 187 + k) _ _ _ _ _ _) (cwV 0 hts gL_law_X8_thrown rfl rfl rfl vdX8_thrown ⟨Nat.le_of_ble_eq_true rfl, Nat.le_of_ble_eq_true rfl⟩) (hW.1.recv hK rfl) hW hK rfl hl.1 rfl dL_law_1828 ⟨by omega, by omega⟩ (Nat.le_of_ble_eq_true rfl) ?_
      refine lv_iload (pc := 1831) E.1 E.2 dL_law_1831 (lv_at hl 1 rfl) ?_
      refine z_same (pc := 1833) (tgt := 1838) E hk8 dL_law_1833 (by decide) ?_
      refine lv_iload (pc := 1838) E.1 E.2 dL_law_1838 (lv_at hl 1 rfl) ?_
      refine z_if_ne (pc := 1840) (tgt := 1855) E (by decide) dL_law_1840 (by decide) (fun h => absurd rfl h) (fun _ => ?_)
      refine lv_aload_n (pc := 1843) E.1 E.2 dL_law_1843 rfl (lv_at hl 5 rfl) ?_
      refine z_iconst (pc := 1844) E dL_law_1844 ?_
      refine z_laloadE (pc := 1845) E hK hA (by decide) (by decide) (show zu fq 0 (rI ((lmS σ (if 1 = 0 then 5 else 21) (sx xs (i + 1)) (sx xs (i + 2))))) 0 = rI ((lmS σ (if 1 = 0 then 5 else 21) (sx xs (i + 1)) (sx xs (i + 2)))) from if_pos rfl) dL_law_1845 ?_
      refine lv_iload (pc := 1846) E.1 E.2 dL_law_1846 (lv_at hl 0 rfl) ?_
      refine z_i2lR (pc := 1848) E dL_law_1848 ?_
      refine z_sameL (pc := 1849) (tgt := 1855) E (if_pos hk8).symm dL_law_1849 dL_law_1850 (by decide) ?_
      refine lv_goto (pc := 1855) (tgt := 2822) E.1 E.2 dL_law_1855 (by decide) ?_
      refine W.widen (k := cells + 1) (n := slots + 6) (by omega) (by omega) ?_
      exact kk H locs ls ⟨⟨_, _, _, _, _, _, _, _, _, hQ, hW, hR.id rfl rfl rfl rfl⟩, ⟨_, hA⟩, ⟨_, hD⟩⟩ hS (lv_sub hl [2, 3, 4, 5, 6, 7] rfl)
    · refine z_lwc (pc := 1790) (As := [.ref (qo s.heap.size 0), .int (iI (sx xs (i + 1))), .int (iI (sx xs (i + 2))), .int (iI (1)), .ref (s.heap.size + 193)]) (rest := []) E hml hown hts (mbL_limit l hst G (qo s.heap.size) ν σ π δ (fun j => sg8 (β j)) ω (sx xs (i + 1)) (sx xs (i + 2)) 1 hR.ok.1 (sx_b _ _) (sx_b _ _) (Or.inr rfl) hk (s.heap.size + 193) fq) (vx_cwSW 5 hts gL_law_L_limit rfl rfl rfl vdL_limit.2 ⟨Nat.le_of_ble_eq_true rfl, Nat.le_of_ble_eq_true rfl⟩) ⟨hQ, hA⟩ hK hX hS (fun q h => h.elim) rfl hl.1 rfl dL_law_1790 ⟨by omega, by omega⟩ (Nat.le_of_ble_eq_true rfl) (fun H locs hQA hsz hoth hS => ?_)
      obtain ⟨hQ, hA⟩ := hQA
      have hW := hW.kp (fun k hk => hoth _ (hW.lt k hk) (fun h => h))
      have hD := hD.kp (hoth _ hD.lt (fun h => h))
      have hkb : -2147483648 ≤ (kxPK (sx xs (i + 1)) (sx xs (i + 2))) ∧ (kxPK (sx xs (i + 1)) (sx xs (i + 2))) < 2147483648 := by unfold kxPK; (try unfold kxPK); (repeat' split) <;> decide
      have hkn : ¬ (kxPK (sx xs (i + 1)) (sx xs (i + 2))) = 0 := hk
      refine lv_istore (pc := 1793) (lv' := [(6, .int (iI ((kxPK (sx xs (i + 1)) (sx xs (i + 2)))))), (0, .ref (b)), (1, .ref (qo s.heap.size 0)), (2, .ref (s.heap.size + 187 + 0)), (3, .ref (s.heap.size + 193)), (4, .ref (s.heap.size + 194)), (5, .int (iI (i)))]) E.1 E.2 dL_law_1793 hl (by decide) rfl (fun ls hl => ?_)
      refine lv_aload_n (pc := 1795) E.1 E.2 dL_law_1795 rfl (lv_at hl 3 rfl) ?_
      refine lv_aload_n (pc := 1796) E.1 E.2 dL_law_1796 rfl (lv_at hl 1 rfl) ?_
      refine lv_iload (pc := 1797) E.1 E.2 dL_law_1797 (lv_at hl 6 rfl) ?_
      refine z_iconst (pc := 1799) E dL_law_1799 ?_
      refine z_iadd (pc := 1800) E dL_law_1800 ?_
      refine z_sld (pc := 1801) E hx hb hbA hS ⟨by omega, by omega⟩ hL dL_law_1801 ?_
      refine lv_aload_n (pc := 1802) E.1 E.2 dL_law_1802 rfl (lv_at hl 1 rfl) ?_
      refine lv_iload (pc := 1803) E.1 E.2 dL_law_1803 (lv_at hl 6 rfl) ?_
      refine z_iconst (pc := 1805) E dL_law_1805 ?_
      refine z_iadd (pc := 1806) E dL_law_1806 ?_
      refine z_sld (pc := 1807) E hx hb hbA hS ⟨by omega, by omega⟩ hL dL_law_1807 ?_
      refine lv_aload_n (pc := 1808) E.1 E.2 dL_law_1808 rfl (lv_at hl 1 rfl) ?_
      refine lv_iload (pc := 1809) E.1 E.2 dL_law_1809 (lv_at hl 6 rfl) ?_
      refine z_iconst (pc := 1811) E dL_law_1811 ?_
      refine z_iadd (pc := 1812) E dL_law_1812 ?_
      refine z_sld (pc := 1813) E hx hb hbA hS ⟨by omega, by omega⟩ hL dL_law_1813 ?_
      refine z_if_eq (pc := 1814) (tgt := 1821) E (sx_b _ _) dL_law_1814 (by decide) (fun h => absurd h hfl) (fun _ => ?_)
      refine z_iconst (pc := 1817) E dL_law_1817 ?_
      refine lv_goto (pc := 1818) (tgt := 1822) E.1 E.2 dL_law_1818 (by decide) ?_
      refine z_wVi (pc := 1822) (As := [.int (iI (sx xs (i + 1))), .int (iI (sx xs (i + 2))), .int (iI (1))]) (rest := []) E hml hown hts (mX8_limit l G (fun k => s.heap.size + 187 + k) μ σ φ κ β ω (sx xs (i + 1)) (sx xs (i + 2)) 1 hR.ok.1 (sx_b _ _) (sx_b _ _) (Or.inr rfl)) (cwV 3 hts gL_law_X8_limit rfl rfl rfl vdX8_limit ⟨Nat.le_of_ble_eq_true rfl, Nat.le_of_ble_eq_true rfl⟩) (hW.1.recv hK rfl) hW hK hS (fun q h => la_8 h) rfl hl.1 rfl dL_law_1822 ⟨by omega, by omega⟩ (Nat.le_of_ble_eq_true rfl) (fun H locs hW hsz hoth hS => ?_)
      have hQ := hQ.kp (fun k hk => hoth _ (hQ.lt k hk) (lb_8 hk))
      have hA := hA.kp (hoth _ hA.lt le_193)
      have hD := hD.kp (hoth _ hD.lt le_194)
      have hk8 := hk
      try simp only [if_neg hk8] at hW
      refine lv_istore (pc := 1825) (lv' := [(7, .int (iI ((if (kxPK (sx xs (i + 1)) (sx xs (i + 2))) = 0 then lmS σ (if 1 = 0 then 5 else 21) (sx xs (i + 1)) (sx xs (i + 2)) else 0)))), (6, .int (iI ((kxPK (sx xs (i + 1)) (sx xs (i + 2)))))), (0, .ref (b)), (1, .ref (qo s.heap.size 0)), (2, .ref (s.heap.size + 187 + 0)), (3, .ref (s.heap.size + 193)), (4, .ref (s.heap.size + 194)), (5, .int (iI (i)))]) E.1 E.2 dL_law_1825 hl (by decide) rfl (fun ls hl => ?_)
      refine lv_aload_n (pc := 1827) E.1 E.2 dL_law_1827 rfl (lv_at hl 4 rfl) ?_
      refine z_rVi (pc := 1828) (As := []) (rest := []) E hml hown hts (mX8_thrown l G (fun k => s.heap.size + 187 + k) _ _ _ _ _ _) (cwV 0 hts gL_law_X8_thrown rfl rfl rfl vdX8_thrown ⟨Nat.le_of_ble_eq_true rfl, Nat.le_of_ble_eq_true rfl⟩) (hW.1.recv hK rfl) hW hK rfl hl.1 rfl dL_law_1828 ⟨by omega, by omega⟩ (Nat.le_of_ble_eq_true rfl) ?_
      refine lv_iload (pc := 1831) E.1 E.2 dL_law_1831 (lv_at hl 1 rfl) ?_
      refine z_same (pc := 1833) (tgt := 1838) E rfl dL_law_1833 (by decide) ?_
      refine lv_iload (pc := 1838) E.1 E.2 dL_law_1838 (lv_at hl 1 rfl) ?_
      refine z_if_ne (pc := 1840) (tgt := 1855) E hkb dL_law_1840 (by decide) (fun _ => ?_) (fun h => absurd h hkn)
      refine lv_goto (pc := 1855) (tgt := 2822) E.1 E.2 dL_law_1855 (by decide) ?_
      refine W.widen (k := cells + 1) (n := slots + 6) (by omega) (by omega) ?_
      exact kk H locs ls ⟨⟨_, _, _, _, _, _, _, _, _, hQ, hW, hR.id rfl rfl rfl rfl⟩, ⟨_, hA⟩, ⟨_, hD⟩⟩ hS (lv_sub hl [2, 3, 4, 5, 6, 7] rfl)
set_option maxHeartbeats 1000000 in
set_option maxRecDepth 100000 in
theorem cs_setLimit {p : Program} {l : Launch} {e : Env} {s : State} {m : MethodId} {below : List Frame} {meth : Method} {c : Code} {G : GG} {b L : Nat} {xs : Nat → Int32} {aK aV : Nat → Nat} (X : LX p l s m c G b L xs aK aV) {n : Nat} {i : Int} {H : Heap} {locs : List Loc} {ls : Array Slot} {cells slots : Nat} {Q : State → Prop} (hn : n ≤ 600) (hi : 0 ≤ i ∧ i + 6 ≤ (L : Int)) (hH : LH G n s.heap.size H) (hS : va_S (fun q => s.heap.size ≤ q) s.heap H locs) (hl : lv_has ls 8 [(0, .ref b), (1, .ref (qo s.heap.size 0)), (2, .ref (s.heap.size + 187 + 0)), (3, .ref (s.heap.size + 193)), (4, .ref (s.heap.size + 194)), (5, .int (iI i))]) (hc : cells + 1 ≤ room_1.cells) (hsl : slots + 6 ≤ room_1.slots) (kk : ∀ (H : Heap) (locs : List Loc) (ls : Array Slot), LH G (n + 1) s.heap.size H → va_S (fun q => s.heap.size ≤ q) s.heap H locs → lv_has ls 8 [(0, .ref b), (1, .ref (qo s.heap.size 0)), (2, .ref (s.heap.size + 187 + 0)), (3, .ref (s.heap.size + 193)), (4, .ref (s.heap.size + 194)), (5, .int (iI i))] → W p l e room_1 s m #[Value.ref b] below meth c H locs (cells + 1) (slots + 6) Q (F0 m 2822 ls [])) : W p l e room_1 s m #[Value.ref b] below meth c H locs cells slots Q (F0 m 1858 ls []) := by
  obtain ⟨E, hml, hown, hts, hK, hX0, hx, hb, hst, hL, hks⟩ := X
  obtain ⟨⟨ν, σ, π, δ, β, ω, μ, φ, κ, hQ, hW, hR⟩, ⟨fq, hA⟩, ⟨xq, hD⟩⟩ := hH
  have hX : KX FF0 s H := (hX0.kept (fun a ha hna => hS.2.1 a ha hna)).narrow (fun q h => h.elim)
  have hbA : ¬ (s.heap.size ≤ b) := by omega
  refine lv_aload_n (pc := 1858) E.1 E.2 dL_law_1858 rfl (lv_at hl 1 rfl) ?_
  refine lv_aload_n (pc := 1859) E.1 E.2 dL_law_1859 rfl (lv_at hl 0 rfl) ?_
  refine lv_iload (pc := 1860) E.1 E.2 dL_law_1860 (lv_at hl 5 rfl) ?_
  refine z_iconst (pc := 1862) E dL_law_1862 ?_
  refine z_iadd (pc := 1863) E dL_law_1863 ?_
  refine z_sld (pc := 1864) E hx hb hbA hS ⟨by omega, by omega⟩ hL dL_law_1864 ?_
  refine lv_aload_n (pc := 1865) E.1 E.2 dL_law_1865 rfl (lv_at hl 0 rfl) ?_
  refine lv_iload (pc := 1866) E.1 E.2 dL_law_1866 (lv_at hl 5 rfl) ?_
  refine z_iconst (pc := 1868) E dL_law_1868 ?_
  refine z_iadd (pc := 1869) E dL_law_1869 ?_
  refine z_sld (pc := 1870) E hx hb hbA hS ⟨by omega, by omega⟩ hL dL_law_1870 ?_
  refine lv_aload_n (pc := 1871) E.1 E.2 dL_law_1871 rfl (lv_at hl 0 rfl) ?_
  refine lv_iload (pc := 1872) E.1 E.2 dL_law_1872 (lv_at hl 5 rfl) ?_
  refine z_iconst (pc := 1874) E dL_law_1874 ?_
  refine z_iadd (pc := 1875) E dL_law_1875 ?_
  refine z_sld (pc := 1876) E hx hb hbA hS ⟨by omega, by omega⟩ hL dL_law_1876 ?_
  refine lv_aload_n (pc := 1877) E.1 E.2 dL_law_1877 rfl (lv_at hl 0 rfl) ?_
  refine lv_iload (pc := 1878) E.1 E.2 dL_law_1878 (lv_at hl 5 rfl) ?_
  refine z_iconst (pc := 1880) E dL_law_1880 ?_
  refine z_iadd (pc := 1881) E dL_law_1881 ?_
  refine z_sld (pc := 1882) E hx hb hbA hS ⟨by omega, by omega⟩ hL dL_law_1882 ?_
  refine lv_aload_n (pc := 1883) E.1 E.2 dL_law_1883 rfl (lv_at hl 3 rfl) ?_
  by_cases hk : (kxSetL σ (sx xs (i + 1)) (sx xs (i + 2)) (sx xs (i + 3)) (sx xs (i + 4))) = 0
  · refine z_lwc (pc := 1884) (As := [.ref (qo s.heap.size 0), .int (iI (sx xs (i + 1))), .int (iI (sx xs (i + 2))), .int (iI (sx xs (i + 3))), .int (iI (sx xs (i + 4))), .ref (s.heap.size + 193)]) (rest := []) E hml hown hts (mL_setLimit l G (qo s.heap.size) ν σ π δ (fun j => sg8 (β j)) ω (sx xs (i + 1)) (sx xs (i + 2)) (sx xs (i + 3)) (sx xs (i + 4)) hR.ok.1 (sx_b _ _) (sx_b _ _) (sx_b _ _) (sx_b _ _) hk (hR.hc hn) hR.hu (s.heap.size + 193) fq (fun k hk => by have := qo_b s.heap.size hk; omega)) (vx_cwSW 6 hts gL_law_L_setLimit rfl rfl rfl vdL_setLimit.2 ⟨Nat.le_of_ble_eq_true rfl, Nat.le_of_ble_eq_true rfl⟩) ⟨hQ, hA⟩ hK hX hS (fun q h => la_193 h) rfl hl.1 rfl dL_law_1884 ⟨by omega, by omega⟩ (Nat.le_of_ble_eq_true rfl) (fun H locs hQA hsz hoth hS => ?_)
    obtain ⟨hQ, hA⟩ := hQA
    have hW := hW.kp (fun k hk => hoth _ (hW.lt k hk) (lb_193 hk))
    have hD := hD.kp (hoth _ hD.lt lc_193)
    refine lv_istore (pc := 1887) (lv' := [(6, .int (iI (0))), (0, .ref (b)), (1, .ref (qo s.heap.size 0)), (2, .ref (s.heap.size + 187 + 0)), (3, .ref (s.heap.size + 193)), (4, .ref (s.heap.size + 194)), (5, .int (iI (i)))]) E.1 E.2 dL_law_1887 hl (by decide) rfl (fun ls hl => ?_)
    refine lv_aload_n (pc := 1889) E.1 E.2 dL_law_1889 rfl (lv_at hl 3 rfl) ?_
    refine lv_aload_n (pc := 1890) E.1 E.2 dL_law_1890 rfl (lv_at hl 1 rfl) ?_
    refine lv_iload (pc := 1891) E.1 E.2 dL_law_1891 (lv_at hl 6 rfl) ?_
    refine z_iconst (pc := 1893) E dL_law_1893 ?_
    refine z_iadd (pc := 1894) E dL_law_1894 ?_
    refine z_sld (pc := 1895) E hx hb hbA hS ⟨by omega, by omega⟩ hL dL_law_1895 ?_
    refine lv_aload_n (pc := 1896) E.1 E.2 dL_law_1896 rfl (lv_at hl 1 rfl) ?_
    refine lv_iload (pc := 1897) E.1 E.2 dL_law_1897 (lv_at hl 6 rfl) ?_
    refine z_iconst (pc := 1899) E dL_law_1899 ?_
    refine z_iadd (pc := 1900) E dL_law_1900 ?_
    refine z_sld (pc := 1901) E hx hb hbA hS ⟨by omega, by omega⟩ hL dL_law_1901 ?_
    refine lv_aload_n (pc := 1902) E.1 E.2 dL_law_1902 rfl (lv_at hl 1 rfl) ?_
    refine lv_iload (pc := 1903) E.1 E.2 dL_law_1903 (lv_at hl 6 rfl) ?_
    refine z_iconst (pc := 1905) E dL_law_1905 ?_
    refine z_iadd (pc := 1906) E dL_law_1906 ?_
    refine z_sld (pc := 1907) E hx hb hbA hS ⟨by omega, by omega⟩ hL dL_law_1907 ?_
    refine lv_aload_n (pc := 1908) E.1 E.2 dL_law_1908 rfl (lv_at hl 1 rfl) ?_
    refine lv_iload (pc := 1909) E.1 E.2 dL_law_1909 (lv_at hl 6 rfl) ?_
    refine z_iconst (pc := 1911) E dL_law_1911 ?_
    refine z_iadd (pc := 1912) E dL_law_1912 ?_
    refine z_sld (pc := 1913) E hx hb hbA hS ⟨by omega, by omega⟩ hL dL_law_1913 ?_
    refine z_wVi (pc := 1914) (As := [.int (iI (sx xs (i + 1))), .int (iI (sx xs (i + 2))), .int (iI (sx xs (i + 3))), .int (iI (sx xs (i + 4)))]) (rest := []) E hml hown hts (mX8_setLimit l G (fun k => s.heap.size + 187 + k) μ σ φ κ β ω (sx xs (i + 1)) (sx xs (i + 2)) (sx xs (i + 3)) (sx xs (i + 4)) hR.ok.1 (sx_b _ _) (sx_b _ _) (sx_b _ _) (sx_b _ _) hR.m3) (cwV 4 hts gL_law_X8_setLimit rfl rfl rfl vdX8_setLimit ⟨Nat.le_of_ble_eq_true rfl, Nat.le_of_ble_eq_true rfl⟩) (hW.1.recv hK rfl) hW hK hS (fun q h => la_8 h) rfl hl.1 rfl dL_law_1914 ⟨by omega, by omega⟩ (Nat.le_of_ble_eq_true rfl) (fun H locs hW hsz hoth hS => ?_)
    have hQ := hQ.kp (fun k hk => hoth _ (hQ.lt k hk) (lb_8 hk))
    have hA := hA.kp (hoth _ hA.lt le_193)
    have hD := hD.kp (hoth _ hD.lt le_194)
    have hk8 := hk
    try simp only [if_pos hk8] at hW
    refine lv_istore (pc := 1917) (lv' := [(7, .int (iI ((if (kxSetL σ (sx xs (i + 1)) (sx xs (i + 2)) (sx xs (i + 3)) (sx xs (i + 4))) = 0 then stS (nxSetL σ (sx xs (i + 1)) (sx xs (i + 2)) (sx xs (i + 3)) (sx xs (i + 4))) (sx xs (i + 1)) (sx xs (i + 2)) else 0)))), (6, .int (iI (0))), (0, .ref (b)), (1, .ref (qo s.heap.size 0)), (2, .ref (s.heap.size + 187 + 0)), (3, .ref (s.heap.size + 193)), (4, .ref (s.heap.size + 194)), (5, .int (iI (i)))]) E.1 E.2 dL_law_1917 hl (by decide) rfl (fun ls hl => ?_)
    refine lv_aload_n (pc := 1919) E.1 E.2 dL_law_1919 rfl (lv_at hl 4 rfl) ?_
    refine z_rVi (pc := 1920) (As := []) (rest := []) E hml hown hts (mX8_thrown l G (fun k => s.heap.size + 187 + k) _ _ _ _ _ _) (cwV 0 hts gL_law_X8_thrown rfl rfl rfl vdX8_thrown ⟨Nat.le_of_ble_eq_true rfl, Nat.le_of_ble_eq_true rfl⟩) (hW.1.recv hK rfl) hW hK rfl hl.1 rfl dL_law_1920 ⟨by omega, by omega⟩ (Nat.le_of_ble_eq_true rfl) ?_
    refine lv_iload (pc := 1923) E.1 E.2 dL_law_1923 (lv_at hl 1 rfl) ?_
    refine z_same (pc := 1925) (tgt := 1930) E hk8 dL_law_1925 (by decide) ?_
    refine lv_iload (pc := 1930) E.1 E.2 dL_law_1930 (lv_at hl 1 rfl) ?_
    refine z_if_ne (pc := 1932) (tgt := 1947) E (by decide) dL_law_1932 (by decide) (fun h => absurd rfl h) (fun _ => ?_)
    refine lv_aload_n (pc := 1935) E.1 E.2 dL_law_1935 rfl (lv_at hl 5 rfl) ?_
    refine z_iconst (pc := 1936) E dL_law_1936 ?_
    refine z_laloadE (pc := 1937) E hK hA (by decide) (by decide) (show zu fq 0 (rI ((stS (nxSetL σ (sx xs (i + 1)) (sx xs (i + 2)) (sx xs (i + 3)) (sx xs (i + 4))) (sx xs (i + 1)) (sx xs (i + 2))))) 0 = rI ((stS (nxSetL σ (sx xs (i + 1)) (sx xs (i + 2)) (sx xs (i + 3)) (sx xs (i + 4))) (sx xs (i + 1)) (sx xs (i + 2)))) from if_pos rfl) dL_law_1937 ?_
    refine lv_iload (pc := 1938) E.1 E.2 dL_law_1938 (lv_at hl 0 rfl) ?_
    refine z_i2lR (pc := 1940) E dL_law_1940 ?_
    refine z_sameL (pc := 1941) (tgt := 1947) E (if_pos hk8).symm dL_law_1941 dL_law_1942 (by decide) ?_
    refine lv_goto (pc := 1947) (tgt := 2822) E.1 E.2 dL_law_1947 (by decide) ?_
    refine W.widen (k := cells + 1) (n := slots + 6) (by omega) (by omega) ?_
    exact kk H locs ls ⟨⟨_, _, _, _, _, _, _, _, _, hQ, hW, hR.wr (ok_SetL hR.ok hk) rfl rfl hR.e6 hR.m6 rfl hR.e14 rfl rfl⟩, ⟨_, hA⟩, ⟨_, hD⟩⟩ hS (lv_sub hl [2, 3, 4, 5, 6, 7] rfl)
  · refine z_lwc (pc := 1884) (As := [.ref (qo s.heap.size 0), .int (iI (sx xs (i + 1))), .int (iI (sx xs (i + 2))), .int (iI (sx xs (i + 3))), .int (iI (sx xs (i + 4))), .ref (s.heap.size + 193)]) (rest := []) E hml hown hts (mbL_setLimit l hst G (qo s.heap.size) ν σ π δ (fun j => sg8 (β j)) ω (sx xs (i + 1)) (sx xs (i + 2)) (sx xs (i + 3)) (sx xs (i + 4)) hR.ok.1 (sx_b _ _) (sx_b _ _) (sx_b _ _) (sx_b _ _) hk (s.heap.size + 193) fq) (vx_cwSW 6 hts gL_law_L_setLimit rfl rfl rfl vdL_setLimit.2 ⟨Nat.le_of_ble_eq_true rfl, Nat.le_of_ble_eq_true rfl⟩) ⟨hQ, hA⟩ hK hX hS (fun q h => h.elim) rfl hl.1 rfl dL_law_1884 ⟨by omega, by omega⟩ (Nat.le_of_ble_eq_true rfl) (fun H locs hQA hsz hoth hS => ?_)
    obtain ⟨hQ, hA⟩ := hQA
    have hW := hW.kp (fun k hk => hoth _ (hW.lt k hk) (fun h => h))
    have hD := hD.kp (hoth _ hD.lt (fun h => h))
    have hkb : -2147483648 ≤ (kxSetL σ (sx xs (i + 1)) (sx xs (i + 2)) (sx xs (i + 3)) (sx xs (i + 4))) ∧ (kxSetL σ (sx xs (i + 1)) (sx xs (i + 2)) (sx xs (i + 3)) (sx xs (i + 4))) < 2147483648 := by unfold kxSetL; (try unfold kxPK); (repeat' split) <;> decide
    have hkn : ¬ (kxSetL σ (sx xs (i + 1)) (sx xs (i + 2)) (sx xs (i + 3)) (sx xs (i + 4))) = 0 := hk
    refine lv_istore (pc := 1887) (lv' := [(6, .int (iI ((kxSetL σ (sx xs (i + 1)) (sx xs (i + 2)) (sx xs (i + 3)) (sx xs (i + 4)))))), (0, .ref (b)), (1, .ref (qo s.heap.size 0)), (2, .ref (s.heap.size + 187 + 0)), (3, .ref (s.heap.size + 193)), (4, .ref (s.heap.size + 194)), (5, .int (iI (i)))]) E.1 E.2 dL_law_1887 hl (by decide) rfl (fun ls hl => ?_)
    refine lv_aload_n (pc := 1889) E.1 E.2 dL_law_1889 rfl (lv_at hl 3 rfl) ?_
    refine lv_aload_n (pc := 1890) E.1 E.2 dL_law_1890 rfl (lv_at hl 1 rfl) ?_
    refine lv_iload (pc := 1891) E.1 E.2 dL_law_1891 (lv_at hl 6 rfl) ?_
    refine z_iconst (pc := 1893) E dL_law_1893 ?_
    refine z_iadd (pc := 1894) E dL_law_1894 ?_
    refine z_sld (pc := 1895) E hx hb hbA hS ⟨by omega, by omega⟩ hL dL_law_1895 ?_
    refine lv_aload_n (pc := 1896) E.1 E.2 dL_law_1896 rfl (lv_at hl 1 rfl) ?_
    refine lv_iload (pc := 1897) E.1 E.2 dL_law_1897 (lv_at hl 6 rfl) ?_
    refine z_iconst (pc := 1899) E dL_law_1899 ?_
    refine z_iadd (pc := 1900) E dL_law_1900 ?_
    refine z_sld (pc := 1901) E hx hb hbA hS ⟨by omega, by omega⟩ hL dL_law_1901 ?_
    refine lv_aload_n (pc := 1902) E.1 E.2 dL_law_1902 rfl (lv_at hl 1 rfl) ?_
    refine lv_iload (pc := 1903) E.1 E.2 dL_law_1903 (lv_at hl 6 rfl) ?_
    refine z_iconst (pc := 1905) E dL_law_1905 ?_
    refine z_iadd (pc := 1906) E dL_law_1906 ?_
    refine z_sld (pc := 1907) E hx hb hbA hS ⟨by omega, by omega⟩ hL dL_law_1907 ?_
    refine lv_aload_n (pc := 1908) E.1 E.2 dL_law_1908 rfl (lv_at hl 1 rfl) ?_
    refine lv_iload (pc := 1909) E.1 E.2 dL_law_1909 (lv_at hl 6 rfl) ?_
    refine z_iconst (pc := 1911) E dL_law_1911 ?_
    refine z_iadd (pc := 1912) E dL_law_1912 ?_
    refine z_sld (pc := 1913) E hx hb hbA hS ⟨by omega, by omega⟩ hL dL_law_1913 ?_
    refine z_wVi (pc := 1914) (As := [.int (iI (sx xs (i + 1))), .int (iI (sx xs (i + 2))), .int (iI (sx xs (i + 3))), .int (iI (sx xs (i + 4)))]) (rest := []) E hml hown hts (mX8_setLimit l G (fun k => s.heap.size + 187 + k) μ σ φ κ β ω (sx xs (i + 1)) (sx xs (i + 2)) (sx xs (i + 3)) (sx xs (i + 4)) hR.ok.1 (sx_b _ _) (sx_b _ _) (sx_b _ _) (sx_b _ _) hR.m3) (cwV 4 hts gL_law_X8_setLimit rfl rfl rfl vdX8_setLimit ⟨Nat.le_of_ble_eq_true rfl, Nat.le_of_ble_eq_true rfl⟩) (hW.1.recv hK rfl) hW hK hS (fun q h => la_8 h) rfl hl.1 rfl dL_law_1914 ⟨by omega, by omega⟩ (Nat.le_of_ble_eq_true rfl) (fun H locs hW hsz hoth hS => ?_)
    have hQ := hQ.kp (fun k hk => hoth _ (hQ.lt k hk) (lb_8 hk))
    have hA := hA.kp (hoth _ hA.lt le_193)
    have hD := hD.kp (hoth _ hD.lt le_194)
    have hk8 := hk
    try simp only [if_neg hk8] at hW
    refine lv_istore (pc := 1917) (lv' := [(7, .int (iI ((if (kxSetL σ (sx xs (i + 1)) (sx xs (i + 2)) (sx xs (i + 3)) (sx xs (i + 4))) = 0 then stS (nxSetL σ (sx xs (i + 1)) (sx xs (i + 2)) (sx xs (i + 3)) (sx xs (i + 4))) (sx xs (i + 1)) (sx xs (i + 2)) else 0)))), (6, .int (iI ((kxSetL σ (sx xs (i + 1)) (sx xs (i + 2)) (sx xs (i + 3)) (sx xs (i + 4)))))), (0, .ref (b)), (1, .ref (qo s.heap.size 0)), (2, .ref (s.heap.size + 187 + 0)), (3, .ref (s.heap.size + 193)), (4, .ref (s.heap.size + 194)), (5, .int (iI (i)))]) E.1 E.2 dL_law_1917 hl (by decide) rfl (fun ls hl => ?_)
    refine lv_aload_n (pc := 1919) E.1 E.2 dL_law_1919 rfl (lv_at hl 4 rfl) ?_
    refine z_rVi (pc := 1920) (As := []) (rest := []) E hml hown hts (mX8_thrown l G (fun k => s.heap.size + 187 + k) _ _ _ _ _ _) (cwV 0 hts gL_law_X8_thrown rfl rfl rfl vdX8_thrown ⟨Nat.le_of_ble_eq_true rfl, Nat.le_of_ble_eq_true rfl⟩) (hW.1.recv hK rfl) hW hK rfl hl.1 rfl dL_law_1920 ⟨by omega, by omega⟩ (Nat.le_of_ble_eq_true rfl) ?_
    refine lv_iload (pc := 1923) E.1 E.2 dL_law_1923 (lv_at hl 1 rfl) ?_
    refine z_same (pc := 1925) (tgt := 1930) E rfl dL_law_1925 (by decide) ?_
    refine lv_iload (pc := 1930) E.1 E.2 dL_law_1930 (lv_at hl 1 rfl) ?_
    refine z_if_ne (pc := 1932) (tgt := 1947) E hkb dL_law_1932 (by decide) (fun _ => ?_) (fun h => absurd h hkn)
    refine lv_goto (pc := 1947) (tgt := 2822) E.1 E.2 dL_law_1947 (by decide) ?_
    refine W.widen (k := cells + 1) (n := slots + 6) (by omega) (by omega) ?_
    exact kk H locs ls ⟨⟨_, _, _, _, _, _, _, _, _, hQ, hW, hR.id rfl rfl rfl rfl⟩, ⟨_, hA⟩, ⟨_, hD⟩⟩ hS (lv_sub hl [2, 3, 4, 5, 6, 7] rfl)
set_option maxHeartbeats 1000000 in
set_option maxRecDepth 100000 in
theorem cs_state {p : Program} {l : Launch} {e : Env} {s : State} {m : MethodId} {below : List Frame} {meth : Method} {c : Code} {G : GG} {b L : Nat} {xs : Nat → Int32} {aK aV : Nat → Nat} (X : LX p l s m c G b L xs aK aV) {n : Nat} {i : Int} {H : Heap} {locs : List Loc} {ls : Array Slot} {cells slots : Nat} {Q : State → Prop} (hn : n ≤ 600) (hi : 0 ≤ i ∧ i + 6 ≤ (L : Int)) (hH : LH G n s.heap.size H) (hS : va_S (fun q => s.heap.size ≤ q) s.heap H locs) (hl : lv_has ls 8 [(0, .ref b), (1, .ref (qo s.heap.size 0)), (2, .ref (s.heap.size + 187 + 0)), (3, .ref (s.heap.size + 193)), (4, .ref (s.heap.size + 194)), (5, .int (iI i))]) (hc : cells + 1 ≤ room_1.cells) (hsl : slots + 6 ≤ room_1.slots) (kk : ∀ (H : Heap) (locs : List Loc) (ls : Array Slot), LH G (n + 1) s.heap.size H → va_S (fun q => s.heap.size ≤ q) s.heap H locs → lv_has ls 8 [(0, .ref b), (1, .ref (qo s.heap.size 0)), (2, .ref (s.heap.size + 187 + 0)), (3, .ref (s.heap.size + 193)), (4, .ref (s.heap.size + 194)), (5, .int (iI i))] → W p l e room_1 s m #[Value.ref b] below meth c H locs (cells + 1) (slots + 6) Q (F0 m 2822 ls [])) : W p l e room_1 s m #[Value.ref b] below meth c H locs cells slots Q (F0 m 1950 ls []) := by
  obtain ⟨E, hml, hown, hts, hK, hX0, hx, hb, hst, hL, hks⟩ := X
  obtain ⟨⟨ν, σ, π, δ, β, ω, μ, φ, κ, hQ, hW, hR⟩, ⟨fq, hA⟩, ⟨xq, hD⟩⟩ := hH
  have hX : KX FF0 s H := (hX0.kept (fun a ha hna => hS.2.1 a ha hna)).narrow (fun q h => h.elim)
  have hbA : ¬ (s.heap.size ≤ b) := by omega
  refine lv_aload_n (pc := 1950) E.1 E.2 dL_law_1950 rfl (lv_at hl 1 rfl) ?_
  refine lv_aload_n (pc := 1951) E.1 E.2 dL_law_1951 rfl (lv_at hl 0 rfl) ?_
  refine lv_iload (pc := 1952) E.1 E.2 dL_law_1952 (lv_at hl 5 rfl) ?_
  refine z_iconst (pc := 1954) E dL_law_1954 ?_
  refine z_iadd (pc := 1955) E dL_law_1955 ?_
  refine z_sld (pc := 1956) E hx hb hbA hS ⟨by omega, by omega⟩ hL dL_law_1956 ?_
  refine lv_aload_n (pc := 1957) E.1 E.2 dL_law_1957 rfl (lv_at hl 0 rfl) ?_
  refine lv_iload (pc := 1958) E.1 E.2 dL_law_1958 (lv_at hl 5 rfl) ?_
  refine z_iconst (pc := 1960) E dL_law_1960 ?_
  refine z_iadd (pc := 1961) E dL_law_1961 ?_
  refine z_sld (pc := 1962) E hx hb hbA hS ⟨by omega, by omega⟩ hL dL_law_1962 ?_
  refine lv_aload_n (pc := 1963) E.1 E.2 dL_law_1963 rfl (lv_at hl 3 rfl) ?_
  by_cases hk : (kxPK (sx xs (i + 1)) (sx xs (i + 2))) = 0
  · refine z_lwc (pc := 1964) (As := [.ref (qo s.heap.size 0), .int (iI (sx xs (i + 1))), .int (iI (sx xs (i + 2))), .ref (s.heap.size + 193)]) (rest := []) E hml hown hts (mL_state l G (qo s.heap.size) ν σ π δ (fun j => sg8 (β j)) ω (sx xs (i + 1)) (sx xs (i + 2)) hR.ok.1 (sx_b _ _) (sx_b _ _) hk (s.heap.size + 193) fq (fun k hk => by have := qo_b s.heap.size hk; omega)) (vx_cwSW 4 hts gL_law_L_state rfl rfl rfl vdL_state.2 ⟨Nat.le_of_ble_eq_true rfl, Nat.le_of_ble_eq_true rfl⟩) ⟨hQ, hA⟩ hK hX hS (fun q h => la_193 h) rfl hl.1 rfl dL_law_1964 ⟨by omega, by omega⟩ (Nat.le_of_ble_eq_true rfl) (fun H locs hQA hsz hoth hS => ?_)
    obtain ⟨hQ, hA⟩ := hQA
    have hW := hW.kp (fun k hk => hoth _ (hW.lt k hk) (lb_193 hk))
    have hD := hD.kp (hoth _ hD.lt lc_193)
    refine lv_istore (pc := 1967) (lv' := [(6, .int (iI (0))), (0, .ref (b)), (1, .ref (qo s.heap.size 0)), (2, .ref (s.heap.size + 187 + 0)), (3, .ref (s.heap.size + 193)), (4, .ref (s.heap.size + 194)), (5, .int (iI (i)))]) E.1 E.2 dL_law_1967 hl (by decide) rfl (fun ls hl => ?_)
    refine lv_aload_n (pc := 1969) E.1 E.2 dL_law_1969 rfl (lv_at hl 3 rfl) ?_
    refine lv_aload_n (pc := 1970) E.1 E.2 dL_law_1970 rfl (lv_at hl 1 rfl) ?_
    refine lv_iload (pc := 1971) E.1 E.2 dL_law_1971 (lv_at hl 6 rfl) ?_
    refine z_iconst (pc := 1973) E dL_law_1973 ?_
    refine z_iadd (pc := 1974) E dL_law_1974 ?_
    refine z_sld (pc := 1975) E hx hb hbA hS ⟨by omega, by omega⟩ hL dL_law_1975 ?_
    refine lv_aload_n (pc := 1976) E.1 E.2 dL_law_1976 rfl (lv_at hl 1 rfl) ?_
    refine lv_iload (pc := 1977) E.1 E.2 dL_law_1977 (lv_at hl 6 rfl) ?_
    refine z_iconst (pc := 1979) E dL_law_1979 ?_
    refine z_iadd (pc := 1980) E dL_law_1980 ?_
    refine z_sld (pc := 1981) E hx hb hbA hS ⟨by omega, by omega⟩ hL dL_law_1981 ?_
    refine z_wVi (pc := 1982) (As := [.int (iI (sx xs (i + 1))), .int (iI (sx xs (i + 2)))]) (rest := []) E hml hown hts (mX8_state l G (fun k => s.heap.size + 187 + k) μ σ φ κ β ω (sx xs (i + 1)) (sx xs (i + 2)) hR.ok.1 (sx_b _ _) (sx_b _ _)) (cwV 2 hts gL_law_X8_state rfl rfl rfl vdX8_state ⟨Nat.le_of_ble_eq_true rfl, Nat.le_of_ble_eq_true rfl⟩) (hW.1.recv hK rfl) hW hK hS (fun q h => la_8 h) rfl hl.1 rfl dL_law_1982 ⟨by omega, by omega⟩ (Nat.le_of_ble_eq_true rfl) (fun H locs hW hsz hoth hS => ?_)
    have hQ := hQ.kp (fun k hk => hoth _ (hQ.lt k hk) (lb_8 hk))
    have hA := hA.kp (hoth _ hA.lt le_193)
    have hD := hD.kp (hoth _ hD.lt le_194)
    have hk8 := hk
    try simp only [if_pos hk8] at hW
    refine lv_istore (pc := 1985) (lv' := [(7, .int (iI ((if (kxPK (sx xs (i + 1)) (sx xs (i + 2))) = 0 then stS σ (sx xs (i + 1)) (sx xs (i + 2)) else 0)))), (6, .int (iI (0))), (0, .ref (b)), (1, .ref (qo s.heap.size 0)), (2, .ref (s.heap.size + 187 + 0)), (3, .ref (s.heap.size + 193)), (4, .ref (s.heap.size + 194)), (5, .int (iI (i)))]) E.1 E.2 dL_law_1985 hl (by decide) rfl (fun ls hl => ?_)
    refine lv_aload_n (pc := 1987) E.1 E.2 dL_law_1987 rfl (lv_at hl 4 rfl) ?_
    refine z_rVi (pc := 1988) (As := []) (rest := []) E hml hown hts (mX8_thrown l G (fun k => s.heap.size + 187 + k) _ _ _ _ _ _) (cwV 0 hts gL_law_X8_thrown rfl rfl rfl vdX8_thrown ⟨Nat.le_of_ble_eq_true rfl, Nat.le_of_ble_eq_true rfl⟩) (hW.1.recv hK rfl) hW hK rfl hl.1 rfl dL_law_1988 ⟨by omega, by omega⟩ (Nat.le_of_ble_eq_true rfl) ?_
    refine lv_iload (pc := 1991) E.1 E.2 dL_law_1991 (lv_at hl 1 rfl) ?_
    refine z_same (pc := 1993) (tgt := 1998) E hk8 dL_law_1993 (by decide) ?_
    refine lv_iload (pc := 1998) E.1 E.2 dL_law_1998 (lv_at hl 1 rfl) ?_
    refine z_if_ne (pc := 2000) (tgt := 2015) E (by decide) dL_law_2000 (by decide) (fun h => absurd rfl h) (fun _ => ?_)
    refine lv_aload_n (pc := 2003) E.1 E.2 dL_law_2003 rfl (lv_at hl 5 rfl) ?_
    refine z_iconst (pc := 2004) E dL_law_2004 ?_
    refine z_laloadE (pc := 2005) E hK hA (by decide) (by decide) (show zu fq 0 (rI ((stS σ (sx xs (i + 1)) (sx xs (i + 2))))) 0 = rI ((stS σ (sx xs (i + 1)) (sx xs (i + 2)))) from if_pos rfl) dL_law_2005 ?_
    refine lv_iload (pc := 2006) E.1 E.2 dL_law_2006 (lv_at hl 0 rfl) ?_
    refine z_i2lR (pc := 2008) E dL_law_2008 ?_
    refine z_sameL (pc := 2009) (tgt := 2015) E (if_pos hk8).symm dL_law_2009 dL_law_2010 (by decide) ?_
    refine lv_goto (pc := 2015) (tgt := 2822) E.1 E.2 dL_law_2015 (by decide) ?_
    refine W.widen (k := cells + 1) (n := slots + 6) (by omega) (by omega) ?_
    exact kk H locs ls ⟨⟨_, _, _, _, _, _, _, _, _, hQ, hW, hR.id rfl rfl rfl rfl⟩, ⟨_, hA⟩, ⟨_, hD⟩⟩ hS (lv_sub hl [2, 3, 4, 5, 6, 7] rfl)
  · refine z_lwc (pc := 1964) (As := [.ref (qo s.heap.size 0), .int (iI (sx xs (i + 1))), .int (iI (sx xs (i + 2))), .ref (s.heap.size + 193)]) (rest := []) E hml hown hts (mbL_state l hst G (qo s.heap.size) ν σ π δ (fun j => sg8 (β j)) ω (sx xs (i + 1)) (sx xs (i + 2)) hR.ok.1 (sx_b _ _) (sx_b _ _) hk (s.heap.size + 193) fq) (vx_cwSW 4 hts gL_law_L_state rfl rfl rfl vdL_state.2 ⟨Nat.le_of_ble_eq_true rfl, Nat.le_of_ble_eq_true rfl⟩) ⟨hQ, hA⟩ hK hX hS (fun q h => h.elim) rfl hl.1 rfl dL_law_1964 ⟨by omega, by omega⟩ (Nat.le_of_ble_eq_true rfl) (fun H locs hQA hsz hoth hS => ?_)
    obtain ⟨hQ, hA⟩ := hQA
    have hW := hW.kp (fun k hk => hoth _ (hW.lt k hk) (fun h => h))
    have hD := hD.kp (hoth _ hD.lt (fun h => h))
    have hkb : -2147483648 ≤ (kxPK (sx xs (i + 1)) (sx xs (i + 2))) ∧ (kxPK (sx xs (i + 1)) (sx xs (i + 2))) < 2147483648 := by unfold kxPK; (try unfold kxPK); (repeat' split) <;> decide
    have hkn : ¬ (kxPK (sx xs (i + 1)) (sx xs (i + 2))) = 0 := hk
    refine lv_istore (pc := 1967) (lv' := [(6, .int (iI ((kxPK (sx xs (i + 1)) (sx xs (i + 2)))))), (0, .ref (b)), (1, .ref (qo s.heap.size 0)), (2, .ref (s.heap.size + 187 + 0)), (3, .ref (s.heap.size + 193)), (4, .ref (s.heap.size + 194)), (5, .int (iI (i)))]) E.1 E.2 dL_law_1967 hl (by decide) rfl (fun ls hl => ?_)
    refine lv_aload_n (pc := 1969) E.1 E.2 dL_law_1969 rfl (lv_at hl 3 rfl) ?_
    refine lv_aload_n (pc := 1970) E.1 E.2 dL_law_1970 rfl (lv_at hl 1 rfl) ?_
    refine lv_iload (pc := 1971) E.1 E.2 dL_law_1971 (lv_at hl 6 rfl) ?_
    refine z_iconst (pc := 1973) E dL_law_1973 ?_
    refine z_iadd (pc := 1974) E dL_law_1974 ?_
    refine z_sld (pc := 1975) E hx hb hbA hS ⟨by omega, by omega⟩ hL dL_law_1975 ?_
    refine lv_aload_n (pc := 1976) E.1 E.2 dL_law_1976 rfl (lv_at hl 1 rfl) ?_
    refine lv_iload (pc := 1977) E.1 E.2 dL_law_1977 (lv_at hl 6 rfl) ?_
    refine z_iconst (pc := 1979) E dL_law_1979 ?_
    refine z_iadd (pc := 1980) E dL_law_1980 ?_
    refine z_sld (pc := 1981) E hx hb hbA hS ⟨by omega, by omega⟩ hL dL_law_1981 ?_
    refine z_wVi (pc := 1982) (As := [.int (iI (sx xs (i + 1))), .int (iI (sx xs (i + 2)))]) (rest := []) E hml hown hts (mX8_state l G (fun k => s.heap.size + 187 + k) μ σ φ κ β ω (sx xs (i + 1)) (sx xs (i + 2)) hR.ok.1 (sx_b _ _) (sx_b _ _)) (cwV 2 hts gL_law_X8_state rfl rfl rfl vdX8_state ⟨Nat.le_of_ble_eq_true rfl, Nat.le_of_ble_eq_true rfl⟩) (hW.1.recv hK rfl) hW hK hS (fun q h => la_8 h) rfl hl.1 rfl dL_law_1982 ⟨by omega, by omega⟩ (Nat.le_of_ble_eq_true rfl) (fun H locs hW hsz hoth hS => ?_)
    have hQ := hQ.kp (fun k hk => hoth _ (hQ.lt k hk) (lb_8 hk))
    have hA := hA.kp (hoth _ hA.lt le_193)
    have hD := hD.kp (hoth _ hD.lt le_194)
    have hk8 := hk
    try simp only [if_neg hk8] at hW
    refine lv_istore (pc := 1985) (lv' := [(7, .int (iI ((if (kxPK (sx xs (i + 1)) (sx xs (i + 2))) = 0 then stS σ (sx xs (i + 1)) (sx xs (i + 2)) else 0)))), (6, .int (iI ((kxPK (sx xs (i + 1)) (sx xs (i + 2)))))), (0, .ref (b)), (1, .ref (qo s.heap.size 0)), (2, .ref (s.heap.size + 187 + 0)), (3, .ref (s.heap.size + 193)), (4, .ref (s.heap.size + 194)), (5, .int (iI (i)))]) E.1 E.2 dL_law_1985 hl (by decide) rfl (fun ls hl => ?_)
    refine lv_aload_n (pc := 1987) E.1 E.2 dL_law_1987 rfl (lv_at hl 4 rfl) ?_
    refine z_rVi (pc := 1988) (As := []) (rest := []) E hml hown hts (mX8_thrown l G (fun k => s.heap.size + 187 + k) _ _ _ _ _ _) (cwV 0 hts gL_law_X8_thrown rfl rfl rfl vdX8_thrown ⟨Nat.le_of_ble_eq_true rfl, Nat.le_of_ble_eq_true rfl⟩) (hW.1.recv hK rfl) hW hK rfl hl.1 rfl dL_law_1988 ⟨by omega, by omega⟩ (Nat.le_of_ble_eq_true rfl) ?_
    refine lv_iload (pc := 1991) E.1 E.2 dL_law_1991 (lv_at hl 1 rfl) ?_
    refine z_same (pc := 1993) (tgt := 1998) E rfl dL_law_1993 (by decide) ?_
    refine lv_iload (pc := 1998) E.1 E.2 dL_law_1998 (lv_at hl 1 rfl) ?_
    refine z_if_ne (pc := 2000) (tgt := 2015) E hkb dL_law_2000 (by decide) (fun _ => ?_) (fun h => absurd h hkn)
    refine lv_goto (pc := 2015) (tgt := 2822) E.1 E.2 dL_law_2015 (by decide) ?_
    refine W.widen (k := cells + 1) (n := slots + 6) (by omega) (by omega) ?_
    exact kk H locs ls ⟨⟨_, _, _, _, _, _, _, _, _, hQ, hW, hR.id rfl rfl rfl rfl⟩, ⟨_, hA⟩, ⟨_, hD⟩⟩ hS (lv_sub hl [2, 3, 4, 5, 6, 7] rfl)
set_option maxHeartbeats 1000000 in
set_option maxRecDepth 100000 in
theorem cs_graceLeft {p : Program} {l : Launch} {e : Env} {s : State} {m : MethodId} {below : List Frame} {meth : Method} {c : Code} {G : GG} {b L : Nat} {xs : Nat → Int32} {aK aV : Nat → Nat} (X : LX p l s m c G b L xs aK aV) {n : Nat} {i : Int} {H : Heap} {locs : List Loc} {ls : Array Slot} {cells slots : Nat} {Q : State → Prop} (hn : n ≤ 600) (hi : 0 ≤ i ∧ i + 6 ≤ (L : Int)) (hH : LH G n s.heap.size H) (hS : va_S (fun q => s.heap.size ≤ q) s.heap H locs) (hl : lv_has ls 8 [(0, .ref b), (1, .ref (qo s.heap.size 0)), (2, .ref (s.heap.size + 187 + 0)), (3, .ref (s.heap.size + 193)), (4, .ref (s.heap.size + 194)), (5, .int (iI i))]) (hc : cells + 1 ≤ room_1.cells) (hsl : slots + 6 ≤ room_1.slots) (kk : ∀ (H : Heap) (locs : List Loc) (ls : Array Slot), LH G (n + 1) s.heap.size H → va_S (fun q => s.heap.size ≤ q) s.heap H locs → lv_has ls 8 [(0, .ref b), (1, .ref (qo s.heap.size 0)), (2, .ref (s.heap.size + 187 + 0)), (3, .ref (s.heap.size + 193)), (4, .ref (s.heap.size + 194)), (5, .int (iI i))] → W p l e room_1 s m #[Value.ref b] below meth c H locs (cells + 1) (slots + 6) Q (F0 m 2822 ls [])) : W p l e room_1 s m #[Value.ref b] below meth c H locs cells slots Q (F0 m 2018 ls []) := by
  obtain ⟨E, hml, hown, hts, hK, hX0, hx, hb, hst, hL, hks⟩ := X
  obtain ⟨⟨ν, σ, π, δ, β, ω, μ, φ, κ, hQ, hW, hR⟩, ⟨fq, hA⟩, ⟨xq, hD⟩⟩ := hH
  have hX : KX FF0 s H := (hX0.kept (fun a ha hna => hS.2.1 a ha hna)).narrow (fun q h => h.elim)
  have hbA : ¬ (s.heap.size ≤ b) := by omega
  refine lv_aload_n (pc := 2018) E.1 E.2 dL_law_2018 rfl (lv_at hl 1 rfl) ?_
  refine lv_aload_n (pc := 2019) E.1 E.2 dL_law_2019 rfl (lv_at hl 0 rfl) ?_
  refine lv_iload (pc := 2020) E.1 E.2 dL_law_2020 (lv_at hl 5 rfl) ?_
  refine z_iconst (pc := 2022) E dL_law_2022 ?_
  refine z_iadd (pc := 2023) E dL_law_2023 ?_
  refine z_sld (pc := 2024) E hx hb hbA hS ⟨by omega, by omega⟩ hL dL_law_2024 ?_
  refine lv_aload_n (pc := 2025) E.1 E.2 dL_law_2025 rfl (lv_at hl 0 rfl) ?_
  refine lv_iload (pc := 2026) E.1 E.2 dL_law_2026 (lv_at hl 5 rfl) ?_
  refine z_iconst (pc := 2028) E dL_law_2028 ?_
  refine z_iadd (pc := 2029) E dL_law_2029 ?_
  refine z_sld (pc := 2030) E hx hb hbA hS ⟨by omega, by omega⟩ hL dL_law_2030 ?_
  refine lv_aload_n (pc := 2031) E.1 E.2 dL_law_2031 rfl (lv_at hl 3 rfl) ?_
  by_cases hk : (kxPK (sx xs (i + 1)) (sx xs (i + 2))) = 0
  · refine z_lwc (pc := 2032) (As := [.ref (qo s.heap.size 0), .int (iI (sx xs (i + 1))), .int (iI (sx xs (i + 2))), .ref (s.heap.size + 193)]) (rest := []) E hml hown hts (mL_graceLeft l G (qo s.heap.size) ν σ π δ (fun j => sg8 (β j)) ω (sx xs (i + 1)) (sx xs (i + 2)) hR.ok.1 (sx_b _ _) (sx_b _ _) hk (s.heap.size + 193) fq (fun k hk => by have := qo_b s.heap.size hk; omega)) (vx_cwSW 4 hts gL_law_L_graceLeft rfl rfl rfl vdL_graceLeft.2 ⟨Nat.le_of_ble_eq_true rfl, Nat.le_of_ble_eq_true rfl⟩) ⟨hQ, hA⟩ hK hX hS (fun q h => la_193 h) rfl hl.1 rfl dL_law_2032 ⟨by omega, by omega⟩ (Nat.le_of_ble_eq_true rfl) (fun H locs hQA hsz hoth hS => ?_)
    obtain ⟨hQ, hA⟩ := hQA
    have hW := hW.kp (fun k hk => hoth _ (hW.lt k hk) (lb_193 hk))
    have hD := hD.kp (hoth _ hD.lt lc_193)
    refine lv_istore (pc := 2035) (lv' := [(6, .int (iI (0))), (0, .ref (b)), (1, .ref (qo s.heap.size 0)), (2, .ref (s.heap.size + 187 + 0)), (3, .ref (s.heap.size + 193)), (4, .ref (s.heap.size + 194)), (5, .int (iI (i)))]) E.1 E.2 dL_law_2035 hl (by decide) rfl (fun ls hl => ?_)
    refine lv_aload_n (pc := 2037) E.1 E.2 dL_law_2037 rfl (lv_at hl 3 rfl) ?_
    refine lv_aload_n (pc := 2038) E.1 E.2 dL_law_2038 rfl (lv_at hl 1 rfl) ?_
    refine lv_iload (pc := 2039) E.1 E.2 dL_law_2039 (lv_at hl 6 rfl) ?_
    refine z_iconst (pc := 2041) E dL_law_2041 ?_
    refine z_iadd (pc := 2042) E dL_law_2042 ?_
    refine z_sld (pc := 2043) E hx hb hbA hS ⟨by omega, by omega⟩ hL dL_law_2043 ?_
    refine lv_aload_n (pc := 2044) E.1 E.2 dL_law_2044 rfl (lv_at hl 1 rfl) ?_
    refine lv_iload (pc := 2045) E.1 E.2 dL_law_2045 (lv_at hl 6 rfl) ?_
    refine z_iconst (pc := 2047) E dL_law_2047 ?_
    refine z_iadd (pc := 2048) E dL_law_2048 ?_
    refine z_sld (pc := 2049) E hx hb hbA hS ⟨by omega, by omega⟩ hL dL_law_2049 ?_
    refine z_wVi (pc := 2050) (As := [.int (iI (sx xs (i + 1))), .int (iI (sx xs (i + 2)))]) (rest := []) E hml hown hts (mX8_graceLeft l G (fun k => s.heap.size + 187 + k) μ σ φ κ β ω (sx xs (i + 1)) (sx xs (i + 2)) hR.ok.1 (sx_b _ _) (sx_b _ _)) (cwV 2 hts gL_law_X8_graceLeft rfl rfl rfl vdX8_graceLeft ⟨Nat.le_of_ble_eq_true rfl, Nat.le_of_ble_eq_true rfl⟩) (hW.1.recv hK rfl) hW hK hS (fun q h => la_8 h) rfl hl.1 rfl dL_law_2050 ⟨by omega, by omega⟩ (Nat.le_of_ble_eq_true rfl) (fun H locs hW hsz hoth hS => ?_)
    have hQ := hQ.kp (fun k hk => hoth _ (hQ.lt k hk) (lb_8 hk))
    have hA := hA.kp (hoth _ hA.lt le_193)
    have hD := hD.kp (hoth _ hD.lt le_194)
    have hk8 := hk
    try simp only [if_pos hk8] at hW
    refine lv_istore (pc := 2053) (lv' := [(7, .int (iI ((if (kxPK (sx xs (i + 1)) (sx xs (i + 2))) = 0 then axGrace σ (sx xs (i + 1)) (sx xs (i + 2)) else 0)))), (6, .int (iI (0))), (0, .ref (b)), (1, .ref (qo s.heap.size 0)), (2, .ref (s.heap.size + 187 + 0)), (3, .ref (s.heap.size + 193)), (4, .ref (s.heap.size + 194)), (5, .int (iI (i)))]) E.1 E.2 dL_law_2053 hl (by decide) rfl (fun ls hl => ?_)
    refine lv_aload_n (pc := 2055) E.1 E.2 dL_law_2055 rfl (lv_at hl 4 rfl) ?_
    refine z_rVi (pc := 2056) (As := []) (rest := []) E hml hown hts (mX8_thrown l G (fun k => s.heap.size + 187 + k) _ _ _ _ _ _) (cwV 0 hts gL_law_X8_thrown rfl rfl rfl vdX8_thrown ⟨Nat.le_of_ble_eq_true rfl, Nat.le_of_ble_eq_true rfl⟩) (hW.1.recv hK rfl) hW hK rfl hl.1 rfl dL_law_2056 ⟨by omega, by omega⟩ (Nat.le_of_ble_eq_true rfl) ?_
    refine lv_iload (pc := 2059) E.1 E.2 dL_law_2059 (lv_at hl 1 rfl) ?_
    refine z_same (pc := 2061) (tgt := 2066) E hk8 dL_law_2061 (by decide) ?_
    refine lv_iload (pc := 2066) E.1 E.2 dL_law_2066 (lv_at hl 1 rfl) ?_
    refine z_if_ne (pc := 2068) (tgt := 2083) E (by decide) dL_law_2068 (by decide) (fun h => absurd rfl h) (fun _ => ?_)
    refine lv_aload_n (pc := 2071) E.1 E.2 dL_law_2071 rfl (lv_at hl 5 rfl) ?_
    refine z_iconst (pc := 2072) E dL_law_2072 ?_
    refine z_laloadE (pc := 2073) E hK hA (by decide) (by decide) (show zu fq 0 (rI ((axGrace σ (sx xs (i + 1)) (sx xs (i + 2))))) 0 = rI ((axGrace σ (sx xs (i + 1)) (sx xs (i + 2)))) from if_pos rfl) dL_law_2073 ?_
    refine lv_iload (pc := 2074) E.1 E.2 dL_law_2074 (lv_at hl 0 rfl) ?_
    refine z_i2lR (pc := 2076) E dL_law_2076 ?_
    refine z_sameL (pc := 2077) (tgt := 2083) E (if_pos hk8).symm dL_law_2077 dL_law_2078 (by decide) ?_
    refine lv_goto (pc := 2083) (tgt := 2822) E.1 E.2 dL_law_2083 (by decide) ?_
    refine W.widen (k := cells + 1) (n := slots + 6) (by omega) (by omega) ?_
    exact kk H locs ls ⟨⟨_, _, _, _, _, _, _, _, _, hQ, hW, hR.id rfl rfl rfl rfl⟩, ⟨_, hA⟩, ⟨_, hD⟩⟩ hS (lv_sub hl [2, 3, 4, 5, 6, 7] rfl)
  · refine z_lwc (pc := 2032) (As := [.ref (qo s.heap.size 0), .int (iI (sx xs (i + 1))), .int (iI (sx xs (i + 2))), .ref (s.heap.size + 193)]) (rest := []) E hml hown hts (mbL_graceLeft l hst G (qo s.heap.size) ν σ π δ (fun j => sg8 (β j)) ω (sx xs (i + 1)) (sx xs (i + 2)) hR.ok.1 (sx_b _ _) (sx_b _ _) hk (s.heap.size + 193) fq) (vx_cwSW 4 hts gL_law_L_graceLeft rfl rfl rfl vdL_graceLeft.2 ⟨Nat.le_of_ble_eq_true rfl, Nat.le_of_ble_eq_true rfl⟩) ⟨hQ, hA⟩ hK hX hS (fun q h => h.elim) rfl hl.1 rfl dL_law_2032 ⟨by omega, by omega⟩ (Nat.le_of_ble_eq_true rfl) (fun H locs hQA hsz hoth hS => ?_)
    obtain ⟨hQ, hA⟩ := hQA
    have hW := hW.kp (fun k hk => hoth _ (hW.lt k hk) (fun h => h))
    have hD := hD.kp (hoth _ hD.lt (fun h => h))
    have hkb : -2147483648 ≤ (kxPK (sx xs (i + 1)) (sx xs (i + 2))) ∧ (kxPK (sx xs (i + 1)) (sx xs (i + 2))) < 2147483648 := by unfold kxPK; (try unfold kxPK); (repeat' split) <;> decide
    have hkn : ¬ (kxPK (sx xs (i + 1)) (sx xs (i + 2))) = 0 := hk
    refine lv_istore (pc := 2035) (lv' := [(6, .int (iI ((kxPK (sx xs (i + 1)) (sx xs (i + 2)))))), (0, .ref (b)), (1, .ref (qo s.heap.size 0)), (2, .ref (s.heap.size + 187 + 0)), (3, .ref (s.heap.size + 193)), (4, .ref (s.heap.size + 194)), (5, .int (iI (i)))]) E.1 E.2 dL_law_2035 hl (by decide) rfl (fun ls hl => ?_)
    refine lv_aload_n (pc := 2037) E.1 E.2 dL_law_2037 rfl (lv_at hl 3 rfl) ?_
    refine lv_aload_n (pc := 2038) E.1 E.2 dL_law_2038 rfl (lv_at hl 1 rfl) ?_
    refine lv_iload (pc := 2039) E.1 E.2 dL_law_2039 (lv_at hl 6 rfl) ?_
    refine z_iconst (pc := 2041) E dL_law_2041 ?_
    refine z_iadd (pc := 2042) E dL_law_2042 ?_
    refine z_sld (pc := 2043) E hx hb hbA hS ⟨by omega, by omega⟩ hL dL_law_2043 ?_
    refine lv_aload_n (pc := 2044) E.1 E.2 dL_law_2044 rfl (lv_at hl 1 rfl) ?_
    refine lv_iload (pc := 2045) E.1 E.2 dL_law_2045 (lv_at hl 6 rfl) ?_
    refine z_iconst (pc := 2047) E dL_law_2047 ?_
    refine z_iadd (pc := 2048) E dL_law_2048 ?_
    refine z_sld (pc := 2049) E hx hb hbA hS ⟨by omega, by omega⟩ hL dL_law_2049 ?_
    refine z_wVi (pc := 2050) (As := [.int (iI (sx xs (i + 1))), .int (iI (sx xs (i + 2)))]) (rest := []) E hml hown hts (mX8_graceLeft l G (fun k => s.heap.size + 187 + k) μ σ φ κ β ω (sx xs (i + 1)) (sx xs (i + 2)) hR.ok.1 (sx_b _ _) (sx_b _ _)) (cwV 2 hts gL_law_X8_graceLeft rfl rfl rfl vdX8_graceLeft ⟨Nat.le_of_ble_eq_true rfl, Nat.le_of_ble_eq_true rfl⟩) (hW.1.recv hK rfl) hW hK hS (fun q h => la_8 h) rfl hl.1 rfl dL_law_2050 ⟨by omega, by omega⟩ (Nat.le_of_ble_eq_true rfl) (fun H locs hW hsz hoth hS => ?_)
    have hQ := hQ.kp (fun k hk => hoth _ (hQ.lt k hk) (lb_8 hk))
    have hA := hA.kp (hoth _ hA.lt le_193)
    have hD := hD.kp (hoth _ hD.lt le_194)
    have hk8 := hk
    try simp only [if_neg hk8] at hW
    refine lv_istore (pc := 2053) (lv' := [(7, .int (iI ((if (kxPK (sx xs (i + 1)) (sx xs (i + 2))) = 0 then axGrace σ (sx xs (i + 1)) (sx xs (i + 2)) else 0)))), (6, .int (iI ((kxPK (sx xs (i + 1)) (sx xs (i + 2)))))), (0, .ref (b)), (1, .ref (qo s.heap.size 0)), (2, .ref (s.heap.size + 187 + 0)), (3, .ref (s.heap.size + 193)), (4, .ref (s.heap.size + 194)), (5, .int (iI (i)))]) E.1 E.2 dL_law_2053 hl (by decide) rfl (fun ls hl => ?_)
    refine lv_aload_n (pc := 2055) E.1 E.2 dL_law_2055 rfl (lv_at hl 4 rfl) ?_
    refine z_rVi (pc := 2056) (As := []) (rest := []) E hml hown hts (mX8_thrown l G (fun k => s.heap.size + 187 + k) _ _ _ _ _ _) (cwV 0 hts gL_law_X8_thrown rfl rfl rfl vdX8_thrown ⟨Nat.le_of_ble_eq_true rfl, Nat.le_of_ble_eq_true rfl⟩) (hW.1.recv hK rfl) hW hK rfl hl.1 rfl dL_law_2056 ⟨by omega, by omega⟩ (Nat.le_of_ble_eq_true rfl) ?_
    refine lv_iload (pc := 2059) E.1 E.2 dL_law_2059 (lv_at hl 1 rfl) ?_
    refine z_same (pc := 2061) (tgt := 2066) E rfl dL_law_2061 (by decide) ?_
    refine lv_iload (pc := 2066) E.1 E.2 dL_law_2066 (lv_at hl 1 rfl) ?_
    refine z_if_ne (pc := 2068) (tgt := 2083) E hkb dL_law_2068 (by decide) (fun _ => ?_) (fun h => absurd h hkn)
    refine lv_goto (pc := 2083) (tgt := 2822) E.1 E.2 dL_law_2083 (by decide) ?_
    refine W.widen (k := cells + 1) (n := slots + 6) (by omega) (by omega) ?_
    exact kk H locs ls ⟨⟨_, _, _, _, _, _, _, _, _, hQ, hW, hR.id rfl rfl rfl rfl⟩, ⟨_, hA⟩, ⟨_, hD⟩⟩ hS (lv_sub hl [2, 3, 4, 5, 6, 7] rfl)
set_option maxHeartbeats 1000000 in
set_option maxRecDepth 100000 in
theorem cs_setGrace {p : Program} {l : Launch} {e : Env} {s : State} {m : MethodId} {below : List Frame} {meth : Method} {c : Code} {G : GG} {b L : Nat} {xs : Nat → Int32} {aK aV : Nat → Nat} (X : LX p l s m c G b L xs aK aV) {n : Nat} {i : Int} {H : Heap} {locs : List Loc} {ls : Array Slot} {cells slots : Nat} {Q : State → Prop} (hn : n ≤ 600) (hi : 0 ≤ i ∧ i + 6 ≤ (L : Int)) (hH : LH G n s.heap.size H) (hS : va_S (fun q => s.heap.size ≤ q) s.heap H locs) (hl : lv_has ls 8 [(0, .ref b), (1, .ref (qo s.heap.size 0)), (2, .ref (s.heap.size + 187 + 0)), (3, .ref (s.heap.size + 193)), (4, .ref (s.heap.size + 194)), (5, .int (iI i))]) (hc : cells + 1 ≤ room_1.cells) (hsl : slots + 6 ≤ room_1.slots) (kk : ∀ (H : Heap) (locs : List Loc) (ls : Array Slot), LH G (n + 1) s.heap.size H → va_S (fun q => s.heap.size ≤ q) s.heap H locs → lv_has ls 8 [(0, .ref b), (1, .ref (qo s.heap.size 0)), (2, .ref (s.heap.size + 187 + 0)), (3, .ref (s.heap.size + 193)), (4, .ref (s.heap.size + 194)), (5, .int (iI i))] → W p l e room_1 s m #[Value.ref b] below meth c H locs (cells + 1) (slots + 6) Q (F0 m 2822 ls [])) : W p l e room_1 s m #[Value.ref b] below meth c H locs cells slots Q (F0 m 2086 ls []) := by
  obtain ⟨E, hml, hown, hts, hK, hX0, hx, hb, hst, hL, hks⟩ := X
  obtain ⟨⟨ν, σ, π, δ, β, ω, μ, φ, κ, hQ, hW, hR⟩, ⟨fq, hA⟩, ⟨xq, hD⟩⟩ := hH
  have hX : KX FF0 s H := (hX0.kept (fun a ha hna => hS.2.1 a ha hna)).narrow (fun q h => h.elim)
  have hbA : ¬ (s.heap.size ≤ b) := by omega
  refine lv_aload_n (pc := 2086) E.1 E.2 dL_law_2086 rfl (lv_at hl 1 rfl) ?_
  refine lv_aload_n (pc := 2087) E.1 E.2 dL_law_2087 rfl (lv_at hl 0 rfl) ?_
  refine lv_iload (pc := 2088) E.1 E.2 dL_law_2088 (lv_at hl 5 rfl) ?_
  refine z_iconst (pc := 2090) E dL_law_2090 ?_
  refine z_iadd (pc := 2091) E dL_law_2091 ?_
  refine z_sld (pc := 2092) E hx hb hbA hS ⟨by omega, by omega⟩ hL dL_law_2092 ?_
  refine lv_aload_n (pc := 2093) E.1 E.2 dL_law_2093 rfl (lv_at hl 3 rfl) ?_
  by_cases hk : (kxSetG (sx xs (i + 1))) = 0
  · refine z_lwc (pc := 2094) (As := [.ref (qo s.heap.size 0), .int (iI (sx xs (i + 1))), .ref (s.heap.size + 193)]) (rest := []) E hml hown hts (mL_setGrace l G (qo s.heap.size) ν σ π δ (fun j => sg8 (β j)) ω (sx xs (i + 1)) hR.ok.1 (sx_b _ _) hk (hR.hc hn) hR.hu (s.heap.size + 193) fq (fun k hk => by have := qo_b s.heap.size hk; omega)) (vx_cwSW 3 hts gL_law_L_setGrace rfl rfl rfl vdL_setGrace.2 ⟨Nat.le_of_ble_eq_true rfl, Nat.le_of_ble_eq_true rfl⟩) ⟨hQ, hA⟩ hK hX hS (fun q h => la_193 h) rfl hl.1 rfl dL_law_2094 ⟨by omega, by omega⟩ (Nat.le_of_ble_eq_true rfl) (fun H locs hQA hsz hoth hS => ?_)
    obtain ⟨hQ, hA⟩ := hQA
    have hW := hW.kp (fun k hk => hoth _ (hW.lt k hk) (lb_193 hk))
    have hD := hD.kp (hoth _ hD.lt lc_193)
    refine lv_istore (pc := 2097) (lv' := [(6, .int (iI (0))), (0, .ref (b)), (1, .ref (qo s.heap.size 0)), (2, .ref (s.heap.size + 187 + 0)), (3, .ref (s.heap.size + 193)), (4, .ref (s.heap.size + 194)), (5, .int (iI (i)))]) E.1 E.2 dL_law_2097 hl (by decide) rfl (fun ls hl => ?_)
    refine lv_aload_n (pc := 2099) E.1 E.2 dL_law_2099 rfl (lv_at hl 3 rfl) ?_
    refine lv_aload_n (pc := 2100) E.1 E.2 dL_law_2100 rfl (lv_at hl 1 rfl) ?_
    refine lv_iload (pc := 2101) E.1 E.2 dL_law_2101 (lv_at hl 6 rfl) ?_
    refine z_iconst (pc := 2103) E dL_law_2103 ?_
    refine z_iadd (pc := 2104) E dL_law_2104 ?_
    refine z_sld (pc := 2105) E hx hb hbA hS ⟨by omega, by omega⟩ hL dL_law_2105 ?_
    refine z_wVi (pc := 2106) (As := [.int (iI (sx xs (i + 1)))]) (rest := []) E hml hown hts (mX8_setGrace l G (fun k => s.heap.size + 187 + k) μ σ φ κ β ω (sx xs (i + 1)) hR.ok.1 (sx_b _ _) hR.m3) (cwV 1 hts gL_law_X8_setGrace rfl rfl rfl vdX8_setGrace ⟨Nat.le_of_ble_eq_true rfl, Nat.le_of_ble_eq_true rfl⟩) (hW.1.recv hK rfl) hW hK hS (fun q h => la_8 h) rfl hl.1 rfl dL_law_2106 ⟨by omega, by omega⟩ (Nat.le_of_ble_eq_true rfl) (fun H locs hW hsz hoth hS => ?_)
    have hQ := hQ.kp (fun k hk => hoth _ (hQ.lt k hk) (lb_8 hk))
    have hA := hA.kp (hoth _ hA.lt le_193)
    have hD := hD.kp (hoth _ hD.lt le_194)
    have hk8 := hk
    try simp only [if_pos hk8] at hW
    refine lv_istore (pc := 2109) (lv' := [(7, .int (iI ((if (kxSetG (sx xs (i + 1))) = 0 then σ 1 else 0)))), (6, .int (iI (0))), (0, .ref (b)), (1, .ref (qo s.heap.size 0)), (2, .ref (s.heap.size + 187 + 0)), (3, .ref (s.heap.size + 193)), (4, .ref (s.heap.size + 194)), (5, .int (iI (i)))]) E.1 E.2 dL_law_2109 hl (by decide) rfl (fun ls hl => ?_)
    refine lv_aload_n (pc := 2111) E.1 E.2 dL_law_2111 rfl (lv_at hl 4 rfl) ?_
    refine z_rVi (pc := 2112) (As := []) (rest := []) E hml hown hts (mX8_thrown l G (fun k => s.heap.size + 187 + k) _ _ _ _ _ _) (cwV 0 hts gL_law_X8_thrown rfl rfl rfl vdX8_thrown ⟨Nat.le_of_ble_eq_true rfl, Nat.le_of_ble_eq_true rfl⟩) (hW.1.recv hK rfl) hW hK rfl hl.1 rfl dL_law_2112 ⟨by omega, by omega⟩ (Nat.le_of_ble_eq_true rfl) ?_
    refine lv_iload (pc := 2115) E.1 E.2 dL_law_2115 (lv_at hl 1 rfl) ?_
    refine z_same (pc := 2117) (tgt := 2122) E hk8 dL_law_2117 (by decide) ?_
    refine lv_iload (pc := 2122) E.1 E.2 dL_law_2122 (lv_at hl 1 rfl) ?_
    refine z_if_ne (pc := 2124) (tgt := 2139) E (by decide) dL_law_2124 (by decide) (fun h => absurd rfl h) (fun _ => ?_)
    refine lv_aload_n (pc := 2127) E.1 E.2 dL_law_2127 rfl (lv_at hl 5 rfl) ?_
    refine z_iconst (pc := 2128) E dL_law_2128 ?_
    refine z_laloadE (pc := 2129) E hK hA (by decide) (by decide) (show zu fq 0 (rI ((σ 1))) 0 = rI ((σ 1)) from if_pos rfl) dL_law_2129 ?_
    refine lv_iload (pc := 2130) E.1 E.2 dL_law_2130 (lv_at hl 0 rfl) ?_
    refine z_i2lR (pc := 2132) E dL_law_2132 ?_
    refine z_sameL (pc := 2133) (tgt := 2139) E (if_pos hk8).symm dL_law_2133 dL_law_2134 (by decide) ?_
    refine lv_goto (pc := 2139) (tgt := 2822) E.1 E.2 dL_law_2139 (by decide) ?_
    refine W.widen (k := cells + 1) (n := slots + 6) (by omega) (by omega) ?_
    exact kk H locs ls ⟨⟨_, _, _, _, _, _, _, _, _, hQ, hW, hR.wr (ok_SetG hR.ok hk) rfl rfl hR.e6 hR.m6 rfl hR.e14 rfl rfl⟩, ⟨_, hA⟩, ⟨_, hD⟩⟩ hS (lv_sub hl [2, 3, 4, 5, 6, 7] rfl)
  · refine z_lwc (pc := 2094) (As := [.ref (qo s.heap.size 0), .int (iI (sx xs (i + 1))), .ref (s.heap.size + 193)]) (rest := []) E hml hown hts (mbL_setGrace l hst G (qo s.heap.size) ν σ π δ (fun j => sg8 (β j)) ω (sx xs (i + 1)) hR.ok.1 (sx_b _ _) hk (s.heap.size + 193) fq) (vx_cwSW 3 hts gL_law_L_setGrace rfl rfl rfl vdL_setGrace.2 ⟨Nat.le_of_ble_eq_true rfl, Nat.le_of_ble_eq_true rfl⟩) ⟨hQ, hA⟩ hK hX hS (fun q h => h.elim) rfl hl.1 rfl dL_law_2094 ⟨by omega, by omega⟩ (Nat.le_of_ble_eq_true rfl) (fun H locs hQA hsz hoth hS => ?_)
    obtain ⟨hQ, hA⟩ := hQA
    have hW := hW.kp (fun k hk => hoth _ (hW.lt k hk) (fun h => h))
    have hD := hD.kp (hoth _ hD.lt (fun h => h))
    have hkb : -2147483648 ≤ (kxSetG (sx xs (i + 1))) ∧ (kxSetG (sx xs (i + 1))) < 2147483648 := by unfold kxSetG; (try unfold kxPK); (repeat' split) <;> decide
    have hkn : ¬ (kxSetG (sx xs (i + 1))) = 0 := hk
    refine lv_istore (pc := 2097) (lv' := [(6, .int (iI ((kxSetG (sx xs (i + 1)))))), (0, .ref (b)), (1, .ref (qo s.heap.size 0)), (2, .ref (s.heap.size + 187 + 0)), (3, .ref (s.heap.size + 193)), (4, .ref (s.heap.size + 194)), (5, .int (iI (i)))]) E.1 E.2 dL_law_2097 hl (by decide) rfl (fun ls hl => ?_)
    refine lv_aload_n (pc := 2099) E.1 E.2 dL_law_2099 rfl (lv_at hl 3 rfl) ?_
    refine lv_aload_n (pc := 2100) E.1 E.2 dL_law_2100 rfl (lv_at hl 1 rfl) ?_
    refine lv_iload (pc := 2101) E.1 E.2 dL_law_2101 (lv_at hl 6 rfl) ?_
    refine z_iconst (pc := 2103) E dL_law_2103 ?_
    refine z_iadd (pc := 2104) E dL_law_2104 ?_
    refine z_sld (pc := 2105) E hx hb hbA hS ⟨by omega, by omega⟩ hL dL_law_2105 ?_
    refine z_wVi (pc := 2106) (As := [.int (iI (sx xs (i + 1)))]) (rest := []) E hml hown hts (mX8_setGrace l G (fun k => s.heap.size + 187 + k) μ σ φ κ β ω (sx xs (i + 1)) hR.ok.1 (sx_b _ _) hR.m3) (cwV 1 hts gL_law_X8_setGrace rfl rfl rfl vdX8_setGrace ⟨Nat.le_of_ble_eq_true rfl, Nat.le_of_ble_eq_true rfl⟩) (hW.1.recv hK rfl) hW hK hS (fun q h => la_8 h) rfl hl.1 rfl dL_law_2106 ⟨by omega, by omega⟩ (Nat.le_of_ble_eq_true rfl) (fun H locs hW hsz hoth hS => ?_)
    have hQ := hQ.kp (fun k hk => hoth _ (hQ.lt k hk) (lb_8 hk))
    have hA := hA.kp (hoth _ hA.lt le_193)
    have hD := hD.kp (hoth _ hD.lt le_194)
    have hk8 := hk
    try simp only [if_neg hk8] at hW
    refine lv_istore (pc := 2109) (lv' := [(7, .int (iI ((if (kxSetG (sx xs (i + 1))) = 0 then σ 1 else 0)))), (6, .int (iI ((kxSetG (sx xs (i + 1)))))), (0, .ref (b)), (1, .ref (qo s.heap.size 0)), (2, .ref (s.heap.size + 187 + 0)), (3, .ref (s.heap.size + 193)), (4, .ref (s.heap.size + 194)), (5, .int (iI (i)))]) E.1 E.2 dL_law_2109 hl (by decide) rfl (fun ls hl => ?_)
    refine lv_aload_n (pc := 2111) E.1 E.2 dL_law_2111 rfl (lv_at hl 4 rfl) ?_
    refine z_rVi (pc := 2112) (As := []) (rest := []) E hml hown hts (mX8_thrown l G (fun k => s.heap.size + 187 + k) _ _ _ _ _ _) (cwV 0 hts gL_law_X8_thrown rfl rfl rfl vdX8_thrown ⟨Nat.le_of_ble_eq_true rfl, Nat.le_of_ble_eq_true rfl⟩) (hW.1.recv hK rfl) hW hK rfl hl.1 rfl dL_law_2112 ⟨by omega, by omega⟩ (Nat.le_of_ble_eq_true rfl) ?_
    refine lv_iload (pc := 2115) E.1 E.2 dL_law_2115 (lv_at hl 1 rfl) ?_
    refine z_same (pc := 2117) (tgt := 2122) E rfl dL_law_2117 (by decide) ?_
    refine lv_iload (pc := 2122) E.1 E.2 dL_law_2122 (lv_at hl 1 rfl) ?_
    refine z_if_ne (pc := 2124) (tgt := 2139) E hkb dL_law_2124 (by decide) (fun _ => ?_) (fun h => absurd h hkn)
    refine lv_goto (pc := 2139) (tgt := 2822) E.1 E.2 dL_law_2139 (by decide) ?_
    refine W.widen (k := cells + 1) (n := slots + 6) (by omega) (by omega) ?_
    exact kk H locs ls ⟨⟨_, _, _, _, _, _, _, _, _, hQ, hW, hR.id rfl rfl rfl rfl⟩, ⟨_, hA⟩, ⟨_, hD⟩⟩ hS (lv_sub hl [2, 3, 4, 5, 6, 7] rfl)
set_option maxHeartbeats 1000000 in
set_option maxRecDepth 100000 in
theorem cs_tick {p : Program} {l : Launch} {e : Env} {s : State} {m : MethodId} {below : List Frame} {meth : Method} {c : Code} {G : GG} {b L : Nat} {xs : Nat → Int32} {aK aV : Nat → Nat} (X : LX p l s m c G b L xs aK aV) {n : Nat} {i : Int} {H : Heap} {locs : List Loc} {ls : Array Slot} {cells slots : Nat} {Q : State → Prop} (hn : n ≤ 600) (hi : 0 ≤ i ∧ i + 6 ≤ (L : Int)) (hH : LH G n s.heap.size H) (hS : va_S (fun q => s.heap.size ≤ q) s.heap H locs) (hl : lv_has ls 8 [(0, .ref b), (1, .ref (qo s.heap.size 0)), (2, .ref (s.heap.size + 187 + 0)), (3, .ref (s.heap.size + 193)), (4, .ref (s.heap.size + 194)), (5, .int (iI i))]) (hc : cells + 1 ≤ room_1.cells) (hsl : slots + 6 ≤ room_1.slots) (kk : ∀ (H : Heap) (locs : List Loc) (ls : Array Slot), LH G (n + 1) s.heap.size H → va_S (fun q => s.heap.size ≤ q) s.heap H locs → lv_has ls 8 [(0, .ref b), (1, .ref (qo s.heap.size 0)), (2, .ref (s.heap.size + 187 + 0)), (3, .ref (s.heap.size + 193)), (4, .ref (s.heap.size + 194)), (5, .int (iI i))] → W p l e room_1 s m #[Value.ref b] below meth c H locs (cells + 1) (slots + 6) Q (F0 m 2822 ls [])) : W p l e room_1 s m #[Value.ref b] below meth c H locs cells slots Q (F0 m 2142 ls []) := by
  obtain ⟨E, hml, hown, hts, hK, hX0, hx, hb, hst, hL, hks⟩ := X
  obtain ⟨⟨ν, σ, π, δ, β, ω, μ, φ, κ, hQ, hW, hR⟩, ⟨fq, hA⟩, ⟨xq, hD⟩⟩ := hH
  have hX : KX FF0 s H := (hX0.kept (fun a ha hna => hS.2.1 a ha hna)).narrow (fun q h => h.elim)
  have hbA : ¬ (s.heap.size ≤ b) := by omega
  refine lv_aload_n (pc := 2142) E.1 E.2 dL_law_2142 rfl (lv_at hl 1 rfl) ?_
  refine lv_aload_n (pc := 2143) E.1 E.2 dL_law_2143 rfl (lv_at hl 0 rfl) ?_
  refine lv_iload (pc := 2144) E.1 E.2 dL_law_2144 (lv_at hl 5 rfl) ?_
  refine z_iconst (pc := 2146) E dL_law_2146 ?_
  refine z_iadd (pc := 2147) E dL_law_2147 ?_
  refine z_sld (pc := 2148) E hx hb hbA hS ⟨by omega, by omega⟩ hL dL_law_2148 ?_
  refine lv_aload_n (pc := 2149) E.1 E.2 dL_law_2149 rfl (lv_at hl 3 rfl) ?_
  by_cases hk : (kxTick σ (sx xs (i + 1))) = 0
  · refine z_lwc (pc := 2150) (As := [.ref (qo s.heap.size 0), .int (iI (sx xs (i + 1))), .ref (s.heap.size + 193)]) (rest := []) E hml hown hts (mL_tick l G (qo s.heap.size) ν σ π δ (fun j => sg8 (β j)) ω (sx xs (i + 1)) hR.ok.1 (sx_b _ _) hk (hR.hc hn) hR.hu (s.heap.size + 193) fq (fun k hk => by have := qo_b s.heap.size hk; omega)) (vx_cwSW 3 hts gL_law_L_tick rfl rfl rfl vdL_tick.2 ⟨Nat.le_of_ble_eq_true rfl, Nat.le_of_ble_eq_true rfl⟩) ⟨hQ, hA⟩ hK hX hS (fun q h => la_193 h) rfl hl.1 rfl dL_law_2150 ⟨by omega, by omega⟩ (Nat.le_of_ble_eq_true rfl) (fun H locs hQA hsz hoth hS => ?_)
    obtain ⟨hQ, hA⟩ := hQA
    have hW := hW.kp (fun k hk => hoth _ (hW.lt k hk) (lb_193 hk))
    have hD := hD.kp (hoth _ hD.lt lc_193)
    refine lv_istore (pc := 2153) (lv' := [(6, .int (iI (0))), (0, .ref (b)), (1, .ref (qo s.heap.size 0)), (2, .ref (s.heap.size + 187 + 0)), (3, .ref (s.heap.size + 193)), (4, .ref (s.heap.size + 194)), (5, .int (iI (i)))]) E.1 E.2 dL_law_2153 hl (by decide) rfl (fun ls hl => ?_)
    refine lv_aload_n (pc := 2155) E.1 E.2 dL_law_2155 rfl (lv_at hl 3 rfl) ?_
    refine lv_aload_n (pc := 2156) E.1 E.2 dL_law_2156 rfl (lv_at hl 1 rfl) ?_
    refine lv_iload (pc := 2157) E.1 E.2 dL_law_2157 (lv_at hl 6 rfl) ?_
    refine z_iconst (pc := 2159) E dL_law_2159 ?_
    refine z_iadd (pc := 2160) E dL_law_2160 ?_
    refine z_sld (pc := 2161) E hx hb hbA hS ⟨by omega, by omega⟩ hL dL_law_2161 ?_
    refine z_wVi (pc := 2162) (As := [.int (iI (sx xs (i + 1)))]) (rest := []) E hml hown hts (mX8_tick l G (fun k => s.heap.size + 187 + k) μ σ φ κ β ω (sx xs (i + 1)) hR.ok.1 (sx_b _ _) hR.m3) (cwV 1 hts gL_law_X8_tick rfl rfl rfl vdX8_tick ⟨Nat.le_of_ble_eq_true rfl, Nat.le_of_ble_eq_true rfl⟩) (hW.1.recv hK rfl) hW hK hS (fun q h => la_8 h) rfl hl.1 rfl dL_law_2162 ⟨by omega, by omega⟩ (Nat.le_of_ble_eq_true rfl) (fun H locs hW hsz hoth hS => ?_)
    have hQ := hQ.kp (fun k hk => hoth _ (hQ.lt k hk) (lb_8 hk))
    have hA := hA.kp (hoth _ hA.lt le_193)
    have hD := hD.kp (hoth _ hD.lt le_194)
    have hk8 := hk
    try simp only [if_pos hk8] at hW
    refine lv_istore (pc := 2165) (lv' := [(7, .int (iI ((if (kxTick σ (sx xs (i + 1))) = 0 then σ 4 - tkA σ (sx xs (i + 1)) 4 else 0)))), (6, .int (iI (0))), (0, .ref (b)), (1, .ref (qo s.heap.size 0)), (2, .ref (s.heap.size + 187 + 0)), (3, .ref (s.heap.size + 193)), (4, .ref (s.heap.size + 194)), (5, .int (iI (i)))]) E.1 E.2 dL_law_2165 hl (by decide) rfl (fun ls hl => ?_)
    refine lv_aload_n (pc := 2167) E.1 E.2 dL_law_2167 rfl (lv_at hl 4 rfl) ?_
    refine z_rVi (pc := 2168) (As := []) (rest := []) E hml hown hts (mX8_thrown l G (fun k => s.heap.size + 187 + k) _ _ _ _ _ _) (cwV 0 hts gL_law_X8_thrown rfl rfl rfl vdX8_thrown ⟨Nat.le_of_ble_eq_true rfl, Nat.le_of_ble_eq_true rfl⟩) (hW.1.recv hK rfl) hW hK rfl hl.1 rfl dL_law_2168 ⟨by omega, by omega⟩ (Nat.le_of_ble_eq_true rfl) ?_
    refine lv_iload (pc := 2171) E.1 E.2 dL_law_2171 (lv_at hl 1 rfl) ?_
    refine z_same (pc := 2173) (tgt := 2178) E hk8 dL_law_2173 (by decide) ?_
    refine lv_iload (pc := 2178) E.1 E.2 dL_law_2178 (lv_at hl 1 rfl) ?_
    refine z_if_ne (pc := 2180) (tgt := 2195) E (by decide) dL_law_2180 (by decide) (fun h => absurd rfl h) (fun _ => ?_)
    refine lv_aload_n (pc := 2183) E.1 E.2 dL_law_2183 rfl (lv_at hl 5 rfl) ?_
    refine z_iconst (pc := 2184) E dL_law_2184 ?_
    refine z_laloadE (pc := 2185) E hK hA (by decide) (by decide) (show zu fq 0 (rI ((σ 4 - tkA σ (sx xs (i + 1)) 4))) 0 = rI ((σ 4 - tkA σ (sx xs (i + 1)) 4)) from if_pos rfl) dL_law_2185 ?_
    refine lv_iload (pc := 2186) E.1 E.2 dL_law_2186 (lv_at hl 0 rfl) ?_
    refine z_i2lR (pc := 2188) E dL_law_2188 ?_
    refine z_sameL (pc := 2189) (tgt := 2195) E (if_pos hk8).symm dL_law_2189 dL_law_2190 (by decide) ?_
    refine lv_goto (pc := 2195) (tgt := 2822) E.1 E.2 dL_law_2195 (by decide) ?_
    refine W.widen (k := cells + 1) (n := slots + 6) (by omega) (by omega) ?_
    exact kk H locs ls ⟨⟨_, _, _, _, _, _, _, _, _, hQ, hW, hR.wr (ok_Tick hR.ok hk) rfl rfl hR.e6 hR.m6 rfl hR.e14 rfl rfl⟩, ⟨_, hA⟩, ⟨_, hD⟩⟩ hS (lv_sub hl [2, 3, 4, 5, 6, 7] rfl)
  · refine z_lwc (pc := 2150) (As := [.ref (qo s.heap.size 0), .int (iI (sx xs (i + 1))), .ref (s.heap.size + 193)]) (rest := []) E hml hown hts (mbL_tick l hst G (qo s.heap.size) ν σ π δ (fun j => sg8 (β j)) ω (sx xs (i + 1)) hR.ok.1 (sx_b _ _) hk (s.heap.size + 193) fq) (vx_cwSW 3 hts gL_law_L_tick rfl rfl rfl vdL_tick.2 ⟨Nat.le_of_ble_eq_true rfl, Nat.le_of_ble_eq_true rfl⟩) ⟨hQ, hA⟩ hK hX hS (fun q h => h.elim) rfl hl.1 rfl dL_law_2150 ⟨by omega, by omega⟩ (Nat.le_of_ble_eq_true rfl) (fun H locs hQA hsz hoth hS => ?_)
    obtain ⟨hQ, hA⟩ := hQA
    have hW := hW.kp (fun k hk => hoth _ (hW.lt k hk) (fun h => h))
    have hD := hD.kp (hoth _ hD.lt (fun h => h))
    have hkb : -2147483648 ≤ (kxTick σ (sx xs (i + 1))) ∧ (kxTick σ (sx xs (i + 1))) < 2147483648 := by unfold kxTick; (try unfold kxPK); (repeat' split) <;> decide
    have hkn : ¬ (kxTick σ (sx xs (i + 1))) = 0 := hk
    refine lv_istore (pc := 2153) (lv' := [(6, .int (iI ((kxTick σ (sx xs (i + 1)))))), (0, .ref (b)), (1, .ref (qo s.heap.size 0)), (2, .ref (s.heap.size + 187 + 0)), (3, .ref (s.heap.size + 193)), (4, .ref (s.heap.size + 194)), (5, .int (iI (i)))]) E.1 E.2 dL_law_2153 hl (by decide) rfl (fun ls hl => ?_)
    refine lv_aload_n (pc := 2155) E.1 E.2 dL_law_2155 rfl (lv_at hl 3 rfl) ?_
    refine lv_aload_n (pc := 2156) E.1 E.2 dL_law_2156 rfl (lv_at hl 1 rfl) ?_
    refine lv_iload (pc := 2157) E.1 E.2 dL_law_2157 (lv_at hl 6 rfl) ?_
    refine z_iconst (pc := 2159) E dL_law_2159 ?_
    refine z_iadd (pc := 2160) E dL_law_2160 ?_
    refine z_sld (pc := 2161) E hx hb hbA hS ⟨by omega, by omega⟩ hL dL_law_2161 ?_
    refine z_wVi (pc := 2162) (As := [.int (iI (sx xs (i + 1)))]) (rest := []) E hml hown hts (mX8_tick l G (fun k => s.heap.size + 187 + k) μ σ φ κ β ω (sx xs (i + 1)) hR.ok.1 (sx_b _ _) hR.m3) (cwV 1 hts gL_law_X8_tick rfl rfl rfl vdX8_tick ⟨Nat.le_of_ble_eq_true rfl, Nat.le_of_ble_eq_true rfl⟩) (hW.1.recv hK rfl) hW hK hS (fun q h => la_8 h) rfl hl.1 rfl dL_law_2162 ⟨by omega, by omega⟩ (Nat.le_of_ble_eq_true rfl) (fun H locs hW hsz hoth hS => ?_)
    have hQ := hQ.kp (fun k hk => hoth _ (hQ.lt k hk) (lb_8 hk))
    have hA := hA.kp (hoth _ hA.lt le_193)
    have hD := hD.kp (hoth _ hD.lt le_194)
    have hk8 := hk
    try simp only [if_neg hk8] at hW
    refine lv_istore (pc := 2165) (lv' := [(7, .int (iI ((if (kxTick σ (sx xs (i + 1))) = 0 then σ 4 - tkA σ (sx xs (i + 1)) 4 else 0)))), (6, .int (iI ((kxTick σ (sx xs (i + 1)))))), (0, .ref (b)), (1, .ref (qo s.heap.size 0)), (2, .ref (s.heap.size + 187 + 0)), (3, .ref (s.heap.size + 193)), (4, .ref (s.heap.size + 194)), (5, .int (iI (i)))]) E.1 E.2 dL_law_2165 hl (by decide) rfl (fun ls hl => ?_)
    refine lv_aload_n (pc := 2167) E.1 E.2 dL_law_2167 rfl (lv_at hl 4 rfl) ?_
    refine z_rVi (pc := 2168) (As := []) (rest := []) E hml hown hts (mX8_thrown l G (fun k => s.heap.size + 187 + k) _ _ _ _ _ _) (cwV 0 hts gL_law_X8_thrown rfl rfl rfl vdX8_thrown ⟨Nat.le_of_ble_eq_true rfl, Nat.le_of_ble_eq_true rfl⟩) (hW.1.recv hK rfl) hW hK rfl hl.1 rfl dL_law_2168 ⟨by omega, by omega⟩ (Nat.le_of_ble_eq_true rfl) ?_
    refine lv_iload (pc := 2171) E.1 E.2 dL_law_2171 (lv_at hl 1 rfl) ?_
    refine z_same (pc := 2173) (tgt := 2178) E rfl dL_law_2173 (by decide) ?_
    refine lv_iload (pc := 2178) E.1 E.2 dL_law_2178 (lv_at hl 1 rfl) ?_
    refine z_if_ne (pc := 2180) (tgt := 2195) E hkb dL_law_2180 (by decide) (fun _ => ?_) (fun h => absurd h hkn)
    refine lv_goto (pc := 2195) (tgt := 2822) E.1 E.2 dL_law_2195 (by decide) ?_
    refine W.widen (k := cells + 1) (n := slots + 6) (by omega) (by omega) ?_
    exact kk H locs ls ⟨⟨_, _, _, _, _, _, _, _, _, hQ, hW, hR.id rfl rfl rfl rfl⟩, ⟨_, hA⟩, ⟨_, hD⟩⟩ hS (lv_sub hl [2, 3, 4, 5, 6, 7] rfl)
set_option maxHeartbeats 1000000 in
set_option maxRecDepth 100000 in
theorem cs_nextEvent {p : Program} {l : Launch} {e : Env} {s : State} {m : MethodId} {below : List Frame} {meth : Method} {c : Code} {G : GG} {b L : Nat} {xs : Nat → Int32} {aK aV : Nat → Nat} (X : LX p l s m c G b L xs aK aV) {n : Nat} {i : Int} {H : Heap} {locs : List Loc} {ls : Array Slot} {cells slots : Nat} {Q : State → Prop} (hn : n ≤ 600) (hi : 0 ≤ i ∧ i + 6 ≤ (L : Int)) (hH : LH G n s.heap.size H) (hS : va_S (fun q => s.heap.size ≤ q) s.heap H locs) (hl : lv_has ls 8 [(0, .ref b), (1, .ref (qo s.heap.size 0)), (2, .ref (s.heap.size + 187 + 0)), (3, .ref (s.heap.size + 193)), (4, .ref (s.heap.size + 194)), (5, .int (iI i))]) (hc : cells + 1 ≤ room_1.cells) (hsl : slots + 6 ≤ room_1.slots) (kk : ∀ (H : Heap) (locs : List Loc) (ls : Array Slot), LH G (n + 1) s.heap.size H → va_S (fun q => s.heap.size ≤ q) s.heap H locs → lv_has ls 8 [(0, .ref b), (1, .ref (qo s.heap.size 0)), (2, .ref (s.heap.size + 187 + 0)), (3, .ref (s.heap.size + 193)), (4, .ref (s.heap.size + 194)), (5, .int (iI i))] → W p l e room_1 s m #[Value.ref b] below meth c H locs (cells + 1) (slots + 6) Q (F0 m 2822 ls [])) : W p l e room_1 s m #[Value.ref b] below meth c H locs cells slots Q (F0 m 2198 ls []) := by
  obtain ⟨E, hml, hown, hts, hK, hX0, hx, hb, hst, hL, hks⟩ := X
  obtain ⟨⟨ν, σ, π, δ, β, ω, μ, φ, κ, hQ, hW, hR⟩, ⟨fq, hA⟩, ⟨xq, hD⟩⟩ := hH
  have hX : KX FF0 s H := (hX0.kept (fun a ha hna => hS.2.1 a ha hna)).narrow (fun q h => h.elim)
  have hbA : ¬ (s.heap.size ≤ b) := by omega
  refine lv_aload_n (pc := 2198) E.1 E.2 dL_law_2198 rfl (lv_at hl 1 rfl) ?_
  refine z_rVi (pc := 2199) (As := []) (rest := []) E hml hown hts (mX7_nextEvent l G (qo s.heap.size) ν σ π δ (fun j => sg8 (β j)) ω hR.ok.1) (cwV 0 hts gL_law_X7_nextEvent rfl rfl rfl vdX7_nextEvent ⟨Nat.le_of_ble_eq_true rfl, Nat.le_of_ble_eq_true rfl⟩) (hQ.ob.recv hK rfl) hQ hK rfl hl.1 rfl dL_law_2199 ⟨by omega, by omega⟩ (Nat.le_of_ble_eq_true rfl) ?_
  refine lv_aload_n (pc := 2202) E.1 E.2 dL_law_2202 rfl (lv_at hl 2 rfl) ?_
  refine z_wVi (pc := 2203) (As := []) (rest := [.int (iI ((axNext σ)))]) E hml hown hts (mX8_nextEvent l G (fun k => s.heap.size + 187 + k) μ σ φ κ β ω hR.ok.1 hR.ok.2.1) (cwV 0 hts gL_law_X8_nextEvent rfl rfl rfl vdX8_nextEvent ⟨Nat.le_of_ble_eq_true rfl, Nat.le_of_ble_eq_true rfl⟩) (hW.1.recv hK rfl) hW hK hS (fun q h => la_8 h) rfl hl.1 rfl dL_law_2203 ⟨by omega, by omega⟩ (Nat.le_of_ble_eq_true rfl) (fun H locs hW hsz hoth hS => ?_)
  have hQ := hQ.kp (fun k hk => hoth _ (hQ.lt k hk) (lb_8 hk))
  have hA := hA.kp (hoth _ hA.lt le_193)
  have hD := hD.kp (hoth _ hD.lt le_194)
  refine z_same (pc := 2206) (tgt := 2822) E rfl dL_law_2206 (by decide) ?_
  refine W.widen (k := cells + 1) (n := slots + 6) (by omega) (by omega) ?_
  exact kk H locs ls ⟨⟨_, _, _, _, _, _, _, _, _, hQ, hW, hR.id rfl rfl rfl rfl⟩, ⟨_, hA⟩, ⟨_, hD⟩⟩ hS (lv_sub hl [0, 1, 2, 3, 4, 5] rfl)
set_option maxHeartbeats 1000000 in
set_option maxRecDepth 100000 in
theorem cs_share {p : Program} {l : Launch} {e : Env} {s : State} {m : MethodId} {below : List Frame} {meth : Method} {c : Code} {G : GG} {b L : Nat} {xs : Nat → Int32} {aK aV : Nat → Nat} (X : LX p l s m c G b L xs aK aV) {n : Nat} {i : Int} {H : Heap} {locs : List Loc} {ls : Array Slot} {cells slots : Nat} {Q : State → Prop} (hn : n ≤ 600) (hi : 0 ≤ i ∧ i + 6 ≤ (L : Int)) (hH : LH G n s.heap.size H) (hS : va_S (fun q => s.heap.size ≤ q) s.heap H locs) (hl : lv_has ls 8 [(0, .ref b), (1, .ref (qo s.heap.size 0)), (2, .ref (s.heap.size + 187 + 0)), (3, .ref (s.heap.size + 193)), (4, .ref (s.heap.size + 194)), (5, .int (iI i))]) (hc : cells + 1 ≤ room_1.cells) (hsl : slots + 6 ≤ room_1.slots) (kk : ∀ (H : Heap) (locs : List Loc) (ls : Array Slot), LH G (n + 1) s.heap.size H → va_S (fun q => s.heap.size ≤ q) s.heap H locs → lv_has ls 8 [(0, .ref b), (1, .ref (qo s.heap.size 0)), (2, .ref (s.heap.size + 187 + 0)), (3, .ref (s.heap.size + 193)), (4, .ref (s.heap.size + 194)), (5, .int (iI i))] → W p l e room_1 s m #[Value.ref b] below meth c H locs (cells + 1) (slots + 6) Q (F0 m 2822 ls [])) : W p l e room_1 s m #[Value.ref b] below meth c H locs cells slots Q (F0 m 2211 ls []) := by
  obtain ⟨E, hml, hown, hts, hK, hX0, hx, hb, hst, hL, hks⟩ := X
  obtain ⟨⟨ν, σ, π, δ, β, ω, μ, φ, κ, hQ, hW, hR⟩, ⟨fq, hA⟩, ⟨xq, hD⟩⟩ := hH
  have hX : KX FF0 s H := (hX0.kept (fun a ha hna => hS.2.1 a ha hna)).narrow (fun q h => h.elim)
  have hbA : ¬ (s.heap.size ≤ b) := by omega
  refine lv_aload_n (pc := 2211) E.1 E.2 dL_law_2211 rfl (lv_at hl 1 rfl) ?_
  refine lv_aload_n (pc := 2212) E.1 E.2 dL_law_2212 rfl (lv_at hl 0 rfl) ?_
  refine lv_iload (pc := 2213) E.1 E.2 dL_law_2213 (lv_at hl 5 rfl) ?_
  refine z_iconst (pc := 2215) E dL_law_2215 ?_
  refine z_iadd (pc := 2216) E dL_law_2216 ?_
  refine z_sld (pc := 2217) E hx hb hbA hS ⟨by omega, by omega⟩ hL dL_law_2217 ?_
  refine lv_aload_n (pc := 2218) E.1 E.2 dL_law_2218 rfl (lv_at hl 0 rfl) ?_
  refine lv_iload (pc := 2219) E.1 E.2 dL_law_2219 (lv_at hl 5 rfl) ?_
  refine z_iconst (pc := 2221) E dL_law_2221 ?_
  refine z_iadd (pc := 2222) E dL_law_2222 ?_
  refine z_sld (pc := 2223) E hx hb hbA hS ⟨by omega, by omega⟩ hL dL_law_2223 ?_
  refine lv_aload (pc := 2224) E.1 E.2 dL_law_2224 (lv_at hl 4 rfl) ?_
  by_cases hk : (kxShare σ (sx xs (i + 1)) (sx xs (i + 2))) = 0
  · refine z_lwc (pc := 2226) (As := [.ref (qo s.heap.size 0), .int (iI (sx xs (i + 1))), .int (iI (sx xs (i + 2))), .ref (s.heap.size + 194)]) (rest := []) E hml hown hts (mL_share l G (qo s.heap.size) ν σ π δ (fun j => sg8 (β j)) ω (sx xs (i + 1)) (sx xs (i + 2)) hR.ok.1 (sx_b _ _) (sx_b _ _) hk (s.heap.size + 194) xq (fun k hk => by have := qo_b s.heap.size hk; omega)) (vx_cwSW 4 hts gL_law_L_share rfl rfl rfl vdL_share.2 ⟨Nat.le_of_ble_eq_true rfl, Nat.le_of_ble_eq_true rfl⟩) ⟨hQ, hD⟩ hK hX hS (fun q h => la_194 h) rfl hl.1 rfl dL_law_2226 ⟨by omega, by omega⟩ (Nat.le_of_ble_eq_true rfl) (fun H locs hQA hsz hoth hS => ?_)
    obtain ⟨hQ, hD⟩ := hQA
    have hW := hW.kp (fun k hk => hoth _ (hW.lt k hk) (lb_194 hk))
    have hA := hA.kp (hoth _ hA.lt lc_194)
    refine lv_istore (pc := 2229) (lv' := [(6, .int (iI (0))), (0, .ref (b)), (1, .ref (qo s.heap.size 0)), (2, .ref (s.heap.size + 187 + 0)), (3, .ref (s.heap.size + 193)), (4, .ref (s.heap.size + 194)), (5, .int (iI (i)))]) E.1 E.2 dL_law_2229 hl (by decide) rfl (fun ls hl => ?_)
    refine lv_aload_n (pc := 2231) E.1 E.2 dL_law_2231 rfl (lv_at hl 3 rfl) ?_
    refine lv_aload_n (pc := 2232) E.1 E.2 dL_law_2232 rfl (lv_at hl 1 rfl) ?_
    refine lv_iload (pc := 2233) E.1 E.2 dL_law_2233 (lv_at hl 6 rfl) ?_
    refine z_iconst (pc := 2235) E dL_law_2235 ?_
    refine z_iadd (pc := 2236) E dL_law_2236 ?_
    refine z_sld (pc := 2237) E hx hb hbA hS ⟨by omega, by omega⟩ hL dL_law_2237 ?_
    refine lv_aload_n (pc := 2238) E.1 E.2 dL_law_2238 rfl (lv_at hl 1 rfl) ?_
    refine lv_iload (pc := 2239) E.1 E.2 dL_law_2239 (lv_at hl 6 rfl) ?_
    refine z_iconst (pc := 2241) E dL_law_2241 ?_
    refine z_iadd (pc := 2242) E dL_law_2242 ?_
    refine z_sld (pc := 2243) E hx hb hbA hS ⟨by omega, by omega⟩ hL dL_law_2243 ?_
    refine z_wVf (pc := 2244) (As := [.int (iI (sx xs (i + 1))), .int (iI (sx xs (i + 2)))]) (rest := []) E hml hown hts (mX8_share l G (fun k => s.heap.size + 187 + k) μ σ φ κ β ω (sx xs (i + 1)) (sx xs (i + 2)) hR.ok.1 (sx_b _ _) (sx_b _ _)) (cwV 2 hts gL_law_X8_share rfl rfl rfl vdX8_share ⟨Nat.le_of_ble_eq_true rfl, Nat.le_of_ble_eq_true rfl⟩) (hW.1.recv hK rfl) hW hK hS (fun q h => la_8 h) rfl hl.1 rfl dL_law_2244 ⟨by omega, by omega⟩ (Nat.le_of_ble_eq_true rfl) (fun H locs hW hsz hoth hS => ?_)
    have hQ := hQ.kp (fun k hk => hoth _ (hQ.lt k hk) (lb_8 hk))
    have hA := hA.kp (hoth _ hA.lt le_193)
    have hD := hD.kp (hoth _ hD.lt le_194)
    have hk8 := hk
    try simp only [if_pos hk8] at hW
    rw [if_pos hk8]
    refine lv_fstore (pc := 2247) (lv' := [(7, .float ((shB (σ (37 + (2 * (sx xs (i + 1)) + (sx xs (i + 2))))) (lmS σ 21 (sx xs (i + 1)) (sx xs (i + 2)))))), (6, .int (iI (0))), (0, .ref (b)), (1, .ref (qo s.heap.size 0)), (2, .ref (s.heap.size + 187 + 0)), (3, .ref (s.heap.size + 193)), (4, .ref (s.heap.size + 194)), (5, .int (iI (i)))]) E.1 E.2 dL_law_2247 hl (by decide) rfl (fun ls hl => ?_)
    refine lv_aload_n (pc := 2249) E.1 E.2 dL_law_2249 rfl (lv_at hl 4 rfl) ?_
    refine z_rVi (pc := 2250) (As := []) (rest := []) E hml hown hts (mX8_thrown l G (fun k => s.heap.size + 187 + k) _ _ _ _ _ _) (cwV 0 hts gL_law_X8_thrown rfl rfl rfl vdX8_thrown ⟨Nat.le_of_ble_eq_true rfl, Nat.le_of_ble_eq_true rfl⟩) (hW.1.recv hK rfl) hW hK rfl hl.1 rfl dL_law_2250 ⟨by omega, by omega⟩ (Nat.le_of_ble_eq_true rfl) ?_
    refine lv_iload (pc := 2253) E.1 E.2 dL_law_2253 (lv_at hl 1 rfl) ?_
    refine z_same (pc := 2255) (tgt := 2260) E hk8 dL_law_2255 (by decide) ?_
    refine lv_iload (pc := 2260) E.1 E.2 dL_law_2260 (lv_at hl 1 rfl) ?_
    refine z_if_ne (pc := 2262) (tgt := 2298) E (by decide) dL_law_2262 (by decide) (fun h => absurd rfl h) (fun _ => ?_)
    refine lv_aload (pc := 2265) E.1 E.2 dL_law_2265 (lv_at hl 6 rfl) ?_
    refine z_iconst (pc := 2267) E dL_law_2267 ?_
    refine z_daload (pc := 2268) E hK hD dL_law_2268 ?_
    refine lv_fload (pc := 2269) E.1 E.2 dL_law_2269 (lv_at hl 0 rfl) ?_
    have hsp := kxShare_ok hk8
    have hac := hR.ok.1.acc (k := 2 * (sx xs (i + 1)) + sx xs (i + 2)) (by omega) (by omega)
    have hlm := hR.ok.1.lmb (t := 21) (Or.inr rfl) (p := sx xs (i + 1)) (k := sx xs (i + 2)) (by omega) (by omega)
    refine lv_f2d (pc := 2271) E.1 E.2 dL_law_2271 (shD_n (a := σ (37 + (2 * (sx xs (i + 1)) + sx xs (i + 2)))) (b := lmS σ 21 (sx xs (i + 1)) (sx xs (i + 2))) ⟨by omega, by omega⟩ ⟨by omega, by omega⟩) ?_
    refine lv_dcmp (pc := 2272) E.1 E.2 dL_law_2272 ?_
    rw [show FP.dcmp (FP.f2d ((shB (σ (37 + (2 * (sx xs (i + 1)) + (sx xs (i + 2))))) (lmS σ 21 (sx xs (i + 1)) (sx xs (i + 2)))))) (FP.f2d ((shB (σ (37 + (2 * (sx xs (i + 1)) + (sx xs (i + 2))))) (lmS σ 21 (sx xs (i + 1)) (sx xs (i + 2)))))) = some .eq from shD_c (a := σ (37 + (2 * (sx xs (i + 1)) + sx xs (i + 2)))) (b := lmS σ 21 (sx xs (i + 1)) (sx xs (i + 2))) ⟨by omega, by omega⟩ ⟨by omega, by omega⟩]
    refine z_if_eq (pc := 2273) (tgt := 2298) (a := 0) E (by decide) dL_law_2273 (by decide) (fun _ => ?_) (fun h => absurd rfl h)
    refine lv_goto (pc := 2298) (tgt := 2822) E.1 E.2 dL_law_2298 (by decide) ?_
    refine W.widen (k := cells + 1) (n := slots + 6) (by omega) (by omega) ?_
    exact kk H locs ls ⟨⟨_, _, _, _, _, _, _, _, _, hQ, hW, hR.id rfl rfl rfl rfl⟩, ⟨_, hA⟩, ⟨_, hD⟩⟩ hS (lv_sub hl [2, 3, 4, 5, 6, 7] rfl)
  · refine z_lwc (pc := 2226) (As := [.ref (qo s.heap.size 0), .int (iI (sx xs (i + 1))), .int (iI (sx xs (i + 2))), .ref (s.heap.size + 194)]) (rest := []) E hml hown hts (mbL_share l hst G (qo s.heap.size) ν σ π δ (fun j => sg8 (β j)) ω (sx xs (i + 1)) (sx xs (i + 2)) hR.ok.1 (sx_b _ _) (sx_b _ _) hk (s.heap.size + 194) xq) (vx_cwSW 4 hts gL_law_L_share rfl rfl rfl vdL_share.2 ⟨Nat.le_of_ble_eq_true rfl, Nat.le_of_ble_eq_true rfl⟩) ⟨hQ, hD⟩ hK hX hS (fun q h => h.elim) rfl hl.1 rfl dL_law_2226 ⟨by omega, by omega⟩ (Nat.le_of_ble_eq_true rfl) (fun H locs hQA hsz hoth hS => ?_)
    obtain ⟨hQ, hD⟩ := hQA
    have hW := hW.kp (fun k hk => hoth _ (hW.lt k hk) (fun h => h))
    have hA := hA.kp (hoth _ hA.lt (fun h => h))
    have hkb : -2147483648 ≤ (kxShare σ (sx xs (i + 1)) (sx xs (i + 2))) ∧ (kxShare σ (sx xs (i + 1)) (sx xs (i + 2))) < 2147483648 := by unfold kxShare; (try unfold kxPK); (repeat' split) <;> decide
    have hkn : ¬ (kxShare σ (sx xs (i + 1)) (sx xs (i + 2))) = 0 := hk
    refine lv_istore (pc := 2229) (lv' := [(6, .int (iI ((kxShare σ (sx xs (i + 1)) (sx xs (i + 2)))))), (0, .ref (b)), (1, .ref (qo s.heap.size 0)), (2, .ref (s.heap.size + 187 + 0)), (3, .ref (s.heap.size + 193)), (4, .ref (s.heap.size + 194)), (5, .int (iI (i)))]) E.1 E.2 dL_law_2229 hl (by decide) rfl (fun ls hl => ?_)
    refine lv_aload_n (pc := 2231) E.1 E.2 dL_law_2231 rfl (lv_at hl 3 rfl) ?_
    refine lv_aload_n (pc := 2232) E.1 E.2 dL_law_2232 rfl (lv_at hl 1 rfl) ?_
    refine lv_iload (pc := 2233) E.1 E.2 dL_law_2233 (lv_at hl 6 rfl) ?_
    refine z_iconst (pc := 2235) E dL_law_2235 ?_
    refine z_iadd (pc := 2236) E dL_law_2236 ?_
    refine z_sld (pc := 2237) E hx hb hbA hS ⟨by omega, by omega⟩ hL dL_law_2237 ?_
    refine lv_aload_n (pc := 2238) E.1 E.2 dL_law_2238 rfl (lv_at hl 1 rfl) ?_
    refine lv_iload (pc := 2239) E.1 E.2 dL_law_2239 (lv_at hl 6 rfl) ?_
    refine z_iconst (pc := 2241) E dL_law_2241 ?_
    refine z_iadd (pc := 2242) E dL_law_2242 ?_
    refine z_sld (pc := 2243) E hx hb hbA hS ⟨by omega, by omega⟩ hL dL_law_2243 ?_
    refine z_wVf (pc := 2244) (As := [.int (iI (sx xs (i + 1))), .int (iI (sx xs (i + 2)))]) (rest := []) E hml hown hts (mX8_share l G (fun k => s.heap.size + 187 + k) μ σ φ κ β ω (sx xs (i + 1)) (sx xs (i + 2)) hR.ok.1 (sx_b _ _) (sx_b _ _)) (cwV 2 hts gL_law_X8_share rfl rfl rfl vdX8_share ⟨Nat.le_of_ble_eq_true rfl, Nat.le_of_ble_eq_true rfl⟩) (hW.1.recv hK rfl) hW hK hS (fun q h => la_8 h) rfl hl.1 rfl dL_law_2244 ⟨by omega, by omega⟩ (Nat.le_of_ble_eq_true rfl) (fun H locs hW hsz hoth hS => ?_)
    have hQ := hQ.kp (fun k hk => hoth _ (hQ.lt k hk) (lb_8 hk))
    have hA := hA.kp (hoth _ hA.lt le_193)
    have hD := hD.kp (hoth _ hD.lt le_194)
    have hk8 := hk
    try simp only [if_neg hk8] at hW
    refine lv_fstore (pc := 2247) (lv' := [(7, .float ((if kxShare σ (sx xs (i + 1)) (sx xs (i + 2)) = 0 then shB (σ (37 + (2 * (sx xs (i + 1)) + (sx xs (i + 2))))) (lmS σ 21 (sx xs (i + 1)) (sx xs (i + 2))) else FP.fconst0))), (6, .int (iI ((kxShare σ (sx xs (i + 1)) (sx xs (i + 2)))))), (0, .ref (b)), (1, .ref (qo s.heap.size 0)), (2, .ref (s.heap.size + 187 + 0)), (3, .ref (s.heap.size + 193)), (4, .ref (s.heap.size + 194)), (5, .int (iI (i)))]) E.1 E.2 dL_law_2247 hl (by decide) rfl (fun ls hl => ?_)
    refine lv_aload_n (pc := 2249) E.1 E.2 dL_law_2249 rfl (lv_at hl 4 rfl) ?_
    refine z_rVi (pc := 2250) (As := []) (rest := []) E hml hown hts (mX8_thrown l G (fun k => s.heap.size + 187 + k) _ _ _ _ _ _) (cwV 0 hts gL_law_X8_thrown rfl rfl rfl vdX8_thrown ⟨Nat.le_of_ble_eq_true rfl, Nat.le_of_ble_eq_true rfl⟩) (hW.1.recv hK rfl) hW hK rfl hl.1 rfl dL_law_2250 ⟨by omega, by omega⟩ (Nat.le_of_ble_eq_true rfl) ?_
    refine lv_iload (pc := 2253) E.1 E.2 dL_law_2253 (lv_at hl 1 rfl) ?_
    refine z_same (pc := 2255) (tgt := 2260) E rfl dL_law_2255 (by decide) ?_
    refine lv_iload (pc := 2260) E.1 E.2 dL_law_2260 (lv_at hl 1 rfl) ?_
    refine z_if_ne (pc := 2262) (tgt := 2298) E hkb dL_law_2262 (by decide) (fun _ => ?_) (fun h => absurd h hkn)
    refine lv_goto (pc := 2298) (tgt := 2822) E.1 E.2 dL_law_2298 (by decide) ?_
    refine W.widen (k := cells + 1) (n := slots + 6) (by omega) (by omega) ?_
    exact kk H locs ls ⟨⟨_, _, _, _, _, _, _, _, _, hQ, hW, hR.id rfl rfl rfl rfl⟩, ⟨_, hA⟩, ⟨_, hD⟩⟩ hS (lv_sub hl [2, 3, 4, 5, 6, 7] rfl)
set_option maxHeartbeats 1000000 in
set_option maxRecDepth 100000 in
theorem cs_gift {p : Program} {l : Launch} {e : Env} {s : State} {m : MethodId} {below : List Frame} {meth : Method} {c : Code} {G : GG} {b L : Nat} {xs : Nat → Int32} {aK aV : Nat → Nat} (X : LX p l s m c G b L xs aK aV) {n : Nat} {i : Int} {H : Heap} {locs : List Loc} {ls : Array Slot} {cells slots : Nat} {Q : State → Prop} (hn : n ≤ 600) (hi : 0 ≤ i ∧ i + 6 ≤ (L : Int)) (hH : LH G n s.heap.size H) (hS : va_S (fun q => s.heap.size ≤ q) s.heap H locs) (hl : lv_has ls 8 [(0, .ref b), (1, .ref (qo s.heap.size 0)), (2, .ref (s.heap.size + 187 + 0)), (3, .ref (s.heap.size + 193)), (4, .ref (s.heap.size + 194)), (5, .int (iI i))]) (hc : cells + 1 ≤ room_1.cells) (hsl : slots + 6 ≤ room_1.slots) (kk : ∀ (H : Heap) (locs : List Loc) (ls : Array Slot), LH G (n + 1) s.heap.size H → va_S (fun q => s.heap.size ≤ q) s.heap H locs → lv_has ls 8 [(0, .ref b), (1, .ref (qo s.heap.size 0)), (2, .ref (s.heap.size + 187 + 0)), (3, .ref (s.heap.size + 193)), (4, .ref (s.heap.size + 194)), (5, .int (iI i))] → W p l e room_1 s m #[Value.ref b] below meth c H locs (cells + 1) (slots + 6) Q (F0 m 2822 ls [])) : W p l e room_1 s m #[Value.ref b] below meth c H locs cells slots Q (F0 m 2301 ls []) := by
  obtain ⟨E, hml, hown, hts, hK, hX0, hx, hb, hst, hL, hks⟩ := X
  obtain ⟨⟨ν, σ, π, δ, β, ω, μ, φ, κ, hQ, hW, hR⟩, ⟨fq, hA⟩, ⟨xq, hD⟩⟩ := hH
  have hX : KX FF0 s H := (hX0.kept (fun a ha hna => hS.2.1 a ha hna)).narrow (fun q h => h.elim)
  have hbA : ¬ (s.heap.size ≤ b) := by omega
  refine lv_aload_n (pc := 2301) E.1 E.2 dL_law_2301 rfl (lv_at hl 1 rfl) ?_
  refine lv_aload_n (pc := 2302) E.1 E.2 dL_law_2302 rfl (lv_at hl 0 rfl) ?_
  refine lv_iload (pc := 2303) E.1 E.2 dL_law_2303 (lv_at hl 5 rfl) ?_
  refine z_iconst (pc := 2305) E dL_law_2305 ?_
  refine z_iadd (pc := 2306) E dL_law_2306 ?_
  refine z_sld (pc := 2307) E hx hb hbA hS ⟨by omega, by omega⟩ hL dL_law_2307 ?_
  refine lv_aload_n (pc := 2308) E.1 E.2 dL_law_2308 rfl (lv_at hl 0 rfl) ?_
  refine lv_iload (pc := 2309) E.1 E.2 dL_law_2309 (lv_at hl 5 rfl) ?_
  refine z_iconst (pc := 2311) E dL_law_2311 ?_
  refine z_iadd (pc := 2312) E dL_law_2312 ?_
  refine z_sld (pc := 2313) E hx hb hbA hS ⟨by omega, by omega⟩ hL dL_law_2313 ?_
  refine lv_aload_n (pc := 2314) E.1 E.2 dL_law_2314 rfl (lv_at hl 0 rfl) ?_
  refine lv_iload (pc := 2315) E.1 E.2 dL_law_2315 (lv_at hl 5 rfl) ?_
  refine z_iconst (pc := 2317) E dL_law_2317 ?_
  refine z_iadd (pc := 2318) E dL_law_2318 ?_
  refine z_sld (pc := 2319) E hx hb hbA hS ⟨by omega, by omega⟩ hL dL_law_2319 ?_
  refine lv_aload_n (pc := 2320) E.1 E.2 dL_law_2320 rfl (lv_at hl 0 rfl) ?_
  refine lv_iload (pc := 2321) E.1 E.2 dL_law_2321 (lv_at hl 5 rfl) ?_
  refine z_iconst (pc := 2323) E dL_law_2323 ?_
  refine z_iadd (pc := 2324) E dL_law_2324 ?_
  refine z_sld (pc := 2325) E hx hb hbA hS ⟨by omega, by omega⟩ hL dL_law_2325 ?_
  refine lv_aload_n (pc := 2326) E.1 E.2 dL_law_2326 rfl (lv_at hl 3 rfl) ?_
  by_cases hk : (kxGift σ (sx xs (i + 1)) (sx xs (i + 2)) (sx xs (i + 3)) (sx xs (i + 4))) = 0
  · refine z_lwc (pc := 2327) (As := [.ref (qo s.heap.size 0), .int (iI (sx xs (i + 1))), .int (iI (sx xs (i + 2))), .int (iI (sx xs (i + 3))), .int (iI (sx xs (i + 4))), .ref (s.heap.size + 193)]) (rest := []) E hml hown hts (mL_gift l G (qo s.heap.size) ν σ π δ (fun j => sg8 (β j)) ω (sx xs (i + 1)) (sx xs (i + 2)) (sx xs (i + 3)) (sx xs (i + 4)) hR.ok.1 (sx_b _ _) (sx_b _ _) (sx_b _ _) (sx_b _ _) hk (hR.hc hn) hR.hu (s.heap.size + 193) fq (fun k hk => by have := qo_b s.heap.size hk; omega)) (vx_cwSW 6 hts gL_law_L_gift rfl rfl rfl vdL_gift.2 ⟨Nat.le_of_ble_eq_true rfl, Nat.le_of_ble_eq_true rfl⟩) ⟨hQ, hA⟩ hK hX hS (fun q h => la_193 h) rfl hl.1 rfl dL_law_2327 ⟨by omega, by omega⟩ (Nat.le_of_ble_eq_true rfl) (fun H locs hQA hsz hoth hS => ?_)
    obtain ⟨hQ, hA⟩ := hQA
    have hW := hW.kp (fun k hk => hoth _ (hW.lt k hk) (lb_193 hk))
    have hD := hD.kp (hoth _ hD.lt lc_193)
    refine lv_istore (pc := 2330) (lv' := [(6, .int (iI (0))), (0, .ref (b)), (1, .ref (qo s.heap.size 0)), (2, .ref (s.heap.size + 187 + 0)), (3, .ref (s.heap.size + 193)), (4, .ref (s.heap.size + 194)), (5, .int (iI (i)))]) E.1 E.2 dL_law_2330 hl (by decide) rfl (fun ls hl => ?_)
    refine lv_aload_n (pc := 2332) E.1 E.2 dL_law_2332 rfl (lv_at hl 3 rfl) ?_
    refine lv_aload_n (pc := 2333) E.1 E.2 dL_law_2333 rfl (lv_at hl 1 rfl) ?_
    refine lv_iload (pc := 2334) E.1 E.2 dL_law_2334 (lv_at hl 6 rfl) ?_
    refine z_iconst (pc := 2336) E dL_law_2336 ?_
    refine z_iadd (pc := 2337) E dL_law_2337 ?_
    refine z_sld (pc := 2338) E hx hb hbA hS ⟨by omega, by omega⟩ hL dL_law_2338 ?_
    refine lv_aload_n (pc := 2339) E.1 E.2 dL_law_2339 rfl (lv_at hl 1 rfl) ?_
    refine lv_iload (pc := 2340) E.1 E.2 dL_law_2340 (lv_at hl 6 rfl) ?_
    refine z_iconst (pc := 2342) E dL_law_2342 ?_
    refine z_iadd (pc := 2343) E dL_law_2343 ?_
    refine z_sld (pc := 2344) E hx hb hbA hS ⟨by omega, by omega⟩ hL dL_law_2344 ?_
    refine lv_aload_n (pc := 2345) E.1 E.2 dL_law_2345 rfl (lv_at hl 1 rfl) ?_
    refine lv_iload (pc := 2346) E.1 E.2 dL_law_2346 (lv_at hl 6 rfl) ?_
    refine z_iconst (pc := 2348) E dL_law_2348 ?_
    refine z_iadd (pc := 2349) E dL_law_2349 ?_
    refine z_sld (pc := 2350) E hx hb hbA hS ⟨by omega, by omega⟩ hL dL_law_2350 ?_
    refine lv_aload_n (pc := 2351) E.1 E.2 dL_law_2351 rfl (lv_at hl 1 rfl) ?_
    refine lv_iload (pc := 2352) E.1 E.2 dL_law_2352 (lv_at hl 6 rfl) ?_
    refine z_iconst (pc := 2354) E dL_law_2354 ?_
    refine z_iadd (pc := 2355) E dL_law_2355 ?_
    refine z_sld (pc := 2356) E hx hb hbA hS ⟨by omega, by omega⟩ hL dL_law_2356 ?_
    refine z_wVi (pc := 2357) (As := [.int (iI (sx xs (i + 1))), .int (iI (sx xs (i + 2))), .int (iI (sx xs (i + 3))), .int (iI (sx xs (i + 4)))]) (rest := []) E hml hown hts (mX8_gift l G (fun k => s.heap.size + 187 + k) μ σ φ κ β ω (sx xs (i + 1)) (sx xs (i + 2)) (sx xs (i + 3)) (sx xs (i + 4)) hR.ok.1 (sx_b _ _) (sx_b _ _) (sx_b _ _) (sx_b _ _) hR.m3) (cwV 4 hts gL_law_X8_gift rfl rfl rfl vdX8_gift ⟨Nat.le_of_ble_eq_true rfl, Nat.le_of_ble_eq_true rfl⟩) (hW.1.recv hK rfl) hW hK hS (fun q h => la_8 h) rfl hl.1 rfl dL_law_2357 ⟨by omega, by omega⟩ (Nat.le_of_ble_eq_true rfl) (fun H locs hW hsz hoth hS => ?_)
    have hQ := hQ.kp (fun k hk => hoth _ (hQ.lt k hk) (lb_8 hk))
    have hA := hA.kp (hoth _ hA.lt le_193)
    have hD := hD.kp (hoth _ hD.lt le_194)
    have hk8 := hk
    try simp only [if_pos hk8] at hW
    refine lv_istore (pc := 2360) (lv' := [(7, .int (iI ((if (kxGift σ (sx xs (i + 1)) (sx xs (i + 2)) (sx xs (i + 3)) (sx xs (i + 4))) = 0 then σ 4 else 0)))), (6, .int (iI (0))), (0, .ref (b)), (1, .ref (qo s.heap.size 0)), (2, .ref (s.heap.size + 187 + 0)), (3, .ref (s.heap.size + 193)), (4, .ref (s.heap.size + 194)), (5, .int (iI (i)))]) E.1 E.2 dL_law_2360 hl (by decide) rfl (fun ls hl => ?_)
    refine lv_aload_n (pc := 2362) E.1 E.2 dL_law_2362 rfl (lv_at hl 4 rfl) ?_
    refine z_rVi (pc := 2363) (As := []) (rest := []) E hml hown hts (mX8_thrown l G (fun k => s.heap.size + 187 + k) _ _ _ _ _ _) (cwV 0 hts gL_law_X8_thrown rfl rfl rfl vdX8_thrown ⟨Nat.le_of_ble_eq_true rfl, Nat.le_of_ble_eq_true rfl⟩) (hW.1.recv hK rfl) hW hK rfl hl.1 rfl dL_law_2363 ⟨by omega, by omega⟩ (Nat.le_of_ble_eq_true rfl) ?_
    refine lv_iload (pc := 2366) E.1 E.2 dL_law_2366 (lv_at hl 1 rfl) ?_
    refine z_same (pc := 2368) (tgt := 2373) E hk8 dL_law_2368 (by decide) ?_
    refine lv_iload (pc := 2373) E.1 E.2 dL_law_2373 (lv_at hl 1 rfl) ?_
    refine z_if_ne (pc := 2375) (tgt := 2390) E (by decide) dL_law_2375 (by decide) (fun h => absurd rfl h) (fun _ => ?_)
    refine lv_aload_n (pc := 2378) E.1 E.2 dL_law_2378 rfl (lv_at hl 5 rfl) ?_
    refine z_iconst (pc := 2379) E dL_law_2379 ?_
    refine z_laloadE (pc := 2380) E hK hA (by decide) (by decide) (show zu fq 0 (rI ((σ 4))) 0 = rI ((σ 4)) from if_pos rfl) dL_law_2380 ?_
    refine lv_iload (pc := 2381) E.1 E.2 dL_law_2381 (lv_at hl 0 rfl) ?_
    refine z_i2lR (pc := 2383) E dL_law_2383 ?_
    refine z_sameL (pc := 2384) (tgt := 2390) E (if_pos hk8).symm dL_law_2384 dL_law_2385 (by decide) ?_
    refine lv_goto (pc := 2390) (tgt := 2822) E.1 E.2 dL_law_2390 (by decide) ?_
    refine W.widen (k := cells + 1) (n := slots + 6) (by omega) (by omega) ?_
    exact kk H locs ls ⟨⟨_, _, _, _, _, _, _, _, _, hQ, hW, hR.wr (ok_Gift hR.ok hk (gift12 hR.ok hk)) rfl rfl hR.e6 hR.m6 rfl hR.e14 rfl rfl⟩, ⟨_, hA⟩, ⟨_, hD⟩⟩ hS (lv_sub hl [2, 3, 4, 5, 6, 7] rfl)
  · refine z_lwc (pc := 2327) (As := [.ref (qo s.heap.size 0), .int (iI (sx xs (i + 1))), .int (iI (sx xs (i + 2))), .int (iI (sx xs (i + 3))), .int (iI (sx xs (i + 4))), .ref (s.heap.size + 193)]) (rest := []) E hml hown hts (mbL_gift l hst G (qo s.heap.size) ν σ π δ (fun j => sg8 (β j)) ω (sx xs (i + 1)) (sx xs (i + 2)) (sx xs (i + 3)) (sx xs (i + 4)) hR.ok.1 (sx_b _ _) (sx_b _ _) (sx_b _ _) (sx_b _ _) hk (s.heap.size + 193) fq) (vx_cwSW 6 hts gL_law_L_gift rfl rfl rfl vdL_gift.2 ⟨Nat.le_of_ble_eq_true rfl, Nat.le_of_ble_eq_true rfl⟩) ⟨hQ, hA⟩ hK hX hS (fun q h => h.elim) rfl hl.1 rfl dL_law_2327 ⟨by omega, by omega⟩ (Nat.le_of_ble_eq_true rfl) (fun H locs hQA hsz hoth hS => ?_)
    obtain ⟨hQ, hA⟩ := hQA
    have hW := hW.kp (fun k hk => hoth _ (hW.lt k hk) (fun h => h))
    have hD := hD.kp (hoth _ hD.lt (fun h => h))
    have hkb : -2147483648 ≤ (kxGift σ (sx xs (i + 1)) (sx xs (i + 2)) (sx xs (i + 3)) (sx xs (i + 4))) ∧ (kxGift σ (sx xs (i + 1)) (sx xs (i + 2)) (sx xs (i + 3)) (sx xs (i + 4))) < 2147483648 := by unfold kxGift; (try unfold kxPK); (repeat' split) <;> decide
    have hkn : ¬ (kxGift σ (sx xs (i + 1)) (sx xs (i + 2)) (sx xs (i + 3)) (sx xs (i + 4))) = 0 := hk
    refine lv_istore (pc := 2330) (lv' := [(6, .int (iI ((kxGift σ (sx xs (i + 1)) (sx xs (i + 2)) (sx xs (i + 3)) (sx xs (i + 4)))))), (0, .ref (b)), (1, .ref (qo s.heap.size 0)), (2, .ref (s.heap.size + 187 + 0)), (3, .ref (s.heap.size + 193)), (4, .ref (s.heap.size + 194)), (5, .int (iI (i)))]) E.1 E.2 dL_law_2330 hl (by decide) rfl (fun ls hl => ?_)
    refine lv_aload_n (pc := 2332) E.1 E.2 dL_law_2332 rfl (lv_at hl 3 rfl) ?_
    refine lv_aload_n (pc := 2333) E.1 E.2 dL_law_2333 rfl (lv_at hl 1 rfl) ?_
    refine lv_iload (pc := 2334) E.1 E.2 dL_law_2334 (lv_at hl 6 rfl) ?_
    refine z_iconst (pc := 2336) E dL_law_2336 ?_
    refine z_iadd (pc := 2337) E dL_law_2337 ?_
    refine z_sld (pc := 2338) E hx hb hbA hS ⟨by omega, by omega⟩ hL dL_law_2338 ?_
    refine lv_aload_n (pc := 2339) E.1 E.2 dL_law_2339 rfl (lv_at hl 1 rfl) ?_
    refine lv_iload (pc := 2340) E.1 E.2 dL_law_2340 (lv_at hl 6 rfl) ?_
    refine z_iconst (pc := 2342) E dL_law_2342 ?_
    refine z_iadd (pc := 2343) E dL_law_2343 ?_
    refine z_sld (pc := 2344) E hx hb hbA hS ⟨by omega, by omega⟩ hL dL_law_2344 ?_
    refine lv_aload_n (pc := 2345) E.1 E.2 dL_law_2345 rfl (lv_at hl 1 rfl) ?_
    refine lv_iload (pc := 2346) E.1 E.2 dL_law_2346 (lv_at hl 6 rfl) ?_
    refine z_iconst (pc := 2348) E dL_law_2348 ?_
    refine z_iadd (pc := 2349) E dL_law_2349 ?_
    refine z_sld (pc := 2350) E hx hb hbA hS ⟨by omega, by omega⟩ hL dL_law_2350 ?_
    refine lv_aload_n (pc := 2351) E.1 E.2 dL_law_2351 rfl (lv_at hl 1 rfl) ?_
    refine lv_iload (pc := 2352) E.1 E.2 dL_law_2352 (lv_at hl 6 rfl) ?_
    refine z_iconst (pc := 2354) E dL_law_2354 ?_
    refine z_iadd (pc := 2355) E dL_law_2355 ?_
    refine z_sld (pc := 2356) E hx hb hbA hS ⟨by omega, by omega⟩ hL dL_law_2356 ?_
    refine z_wVi (pc := 2357) (As := [.int (iI (sx xs (i + 1))), .int (iI (sx xs (i + 2))), .int (iI (sx xs (i + 3))), .int (iI (sx xs (i + 4)))]) (rest := []) E hml hown hts (mX8_gift l G (fun k => s.heap.size + 187 + k) μ σ φ κ β ω (sx xs (i + 1)) (sx xs (i + 2)) (sx xs (i + 3)) (sx xs (i + 4)) hR.ok.1 (sx_b _ _) (sx_b _ _) (sx_b _ _) (sx_b _ _) hR.m3) (cwV 4 hts gL_law_X8_gift rfl rfl rfl vdX8_gift ⟨Nat.le_of_ble_eq_true rfl, Nat.le_of_ble_eq_true rfl⟩) (hW.1.recv hK rfl) hW hK hS (fun q h => la_8 h) rfl hl.1 rfl dL_law_2357 ⟨by omega, by omega⟩ (Nat.le_of_ble_eq_true rfl) (fun H locs hW hsz hoth hS => ?_)
    have hQ := hQ.kp (fun k hk => hoth _ (hQ.lt k hk) (lb_8 hk))
    have hA := hA.kp (hoth _ hA.lt le_193)
    have hD := hD.kp (hoth _ hD.lt le_194)
    have hk8 := hk
    try simp only [if_neg hk8] at hW
    refine lv_istore (pc := 2360) (lv' := [(7, .int (iI ((if (kxGift σ (sx xs (i + 1)) (sx xs (i + 2)) (sx xs (i + 3)) (sx xs (i + 4))) = 0 then σ 4 else 0)))), (6, .int (iI ((kxGift σ (sx xs (i + 1)) (sx xs (i + 2)) (sx xs (i + 3)) (sx xs (i + 4)))))), (0, .ref (b)), (1, .ref (qo s.heap.size 0)), (2, .ref (s.heap.size + 187 + 0)), (3, .ref (s.heap.size + 193)), (4, .ref (s.heap.size + 194)), (5, .int (iI (i)))]) E.1 E.2 dL_law_2360 hl (by decide) rfl (fun ls hl => ?_)
    refine lv_aload_n (pc := 2362) E.1 E.2 dL_law_2362 rfl (lv_at hl 4 rfl) ?_
    refine z_rVi (pc := 2363) (As := []) (rest := []) E hml hown hts (mX8_thrown l G (fun k => s.heap.size + 187 + k) _ _ _ _ _ _) (cwV 0 hts gL_law_X8_thrown rfl rfl rfl vdX8_thrown ⟨Nat.le_of_ble_eq_true rfl, Nat.le_of_ble_eq_true rfl⟩) (hW.1.recv hK rfl) hW hK rfl hl.1 rfl dL_law_2363 ⟨by omega, by omega⟩ (Nat.le_of_ble_eq_true rfl) ?_
    refine lv_iload (pc := 2366) E.1 E.2 dL_law_2366 (lv_at hl 1 rfl) ?_
    refine z_same (pc := 2368) (tgt := 2373) E rfl dL_law_2368 (by decide) ?_
    refine lv_iload (pc := 2373) E.1 E.2 dL_law_2373 (lv_at hl 1 rfl) ?_
    refine z_if_ne (pc := 2375) (tgt := 2390) E hkb dL_law_2375 (by decide) (fun _ => ?_) (fun h => absurd h hkn)
    refine lv_goto (pc := 2390) (tgt := 2822) E.1 E.2 dL_law_2390 (by decide) ?_
    refine W.widen (k := cells + 1) (n := slots + 6) (by omega) (by omega) ?_
    exact kk H locs ls ⟨⟨_, _, _, _, _, _, _, _, _, hQ, hW, hR.id rfl rfl rfl rfl⟩, ⟨_, hA⟩, ⟨_, hD⟩⟩ hS (lv_sub hl [2, 3, 4, 5, 6, 7] rfl)
