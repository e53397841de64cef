set_option maxHeartbeats 1000000 in
set_option maxRecDepth 100000 in
theorem cs_giftOf {p : Program} {l : Launch} {e : Env} {s : State} {m : MethodId} {below : List Frame} {meth : Method} {c : Code} {G : GG} {b L : Nat} {xs : Nat → Int32} {aK aV : Nat → Nat} (X : LX p l s m c G b L xs aK aV) {n : Nat} {i : Int} {H : Heap} {locs : List Loc} {ls : Array Slot} {cells slots : Nat} {Q : State → Prop} (hn : n ≤ 600) (hi : 0 ≤ i ∧ i + 6 ≤ (L : Int)) (hH : LH G n s.heap.size H) (hS : va_S (fun q => s.heap.size ≤ q) s.heap H locs) (hl : lv_has ls 8 [(0, .ref b), (1, .ref (qo s.heap.size 0)), (2, .ref (s.heap.size + 187 + 0)), (3, .ref (s.heap.size + 193)), (4, .ref (s.heap.size + 194)), (5, .int (iI i))]) (hc : cells + 1 ≤ room_1.cells) (hsl : slots + 6 ≤ room_1.slots) (kk : ∀ (H : Heap) (locs : List Loc) (ls : Array Slot), LH G (n + 1) s.heap.size H → va_S (fun q => s.heap.size ≤ q) s.heap H locs → lv_has ls 8 [(0, .ref b), (1, .ref (qo s.heap.size 0)), (2, .ref (s.heap.size + 187 + 0)), (3, .ref (s.heap.size + 193)), (4, .ref (s.heap.size + 194)), (5, .int (iI i))] → W p l e room_1 s m #[Value.ref b] below meth c H locs (cells + 1) (slots + 6) Q (F0 m 2822 ls [])) : W p l e room_1 s m #[Value.ref b] below meth c H locs cells slots Q (F0 m 2393 ls []) := by
  obtain ⟨E, hml, hown, hts, hK, hX0, hx, hb, hst, hL, hks⟩ := X
  obtain ⟨⟨ν, σ, π, δ, β, ω, μ, φ, κ, hQ, hW, hR⟩, ⟨fq, hA⟩, ⟨xq, hD⟩⟩ := hH
  have hX : KX FF0 s H := (hX0.kept (fun a ha hna => hS.2.1 a ha hna)).narrow (fun q h => h.elim)
  have hbA : ¬ (s.heap.size ≤ b) := by omega
  refine lv_aload_n (pc := 2393) E.1 E.2 dL_law_2393 rfl (lv_at hl 1 rfl) ?_
  refine lv_aload_n (pc := 2394) E.1 E.2 dL_law_2394 rfl (lv_at hl 0 rfl) ?_
  refine lv_iload (pc := 2395) E.1 E.2 dL_law_2395 (lv_at hl 5 rfl) ?_
  refine z_iconst (pc := 2397) E dL_law_2397 ?_
  refine z_iadd (pc := 2398) E dL_law_2398 ?_
  refine z_sld (pc := 2399) E hx hb hbA hS ⟨by omega, by omega⟩ hL dL_law_2399 ?_
  refine lv_aload_n (pc := 2400) E.1 E.2 dL_law_2400 rfl (lv_at hl 0 rfl) ?_
  refine lv_iload (pc := 2401) E.1 E.2 dL_law_2401 (lv_at hl 5 rfl) ?_
  refine z_iconst (pc := 2403) E dL_law_2403 ?_
  refine z_iadd (pc := 2404) E dL_law_2404 ?_
  refine z_sld (pc := 2405) E hx hb hbA hS ⟨by omega, by omega⟩ hL dL_law_2405 ?_
  refine lv_aload_n (pc := 2406) E.1 E.2 dL_law_2406 rfl (lv_at hl 3 rfl) ?_
  by_cases hk : (kxGiftO σ (sx xs (i + 1)) (sx xs (i + 2))) = 0
  · refine z_lwc (pc := 2407) (As := [.ref (qo s.heap.size 0), .int (iI (sx xs (i + 1))), .int (iI (sx xs (i + 2))), .ref (s.heap.size + 193)]) (rest := []) E hml hown hts (mL_giftOf l G (qo s.heap.size) ν σ π δ (fun j => sg8 (β j)) ω (sx xs (i + 1)) (sx xs (i + 2)) hR.ok.1 (sx_b _ _) (sx_b _ _) hk (s.heap.size + 193) fq (fun k hk => by have := qo_b s.heap.size hk; omega)) (vx_cwSW 4 hts gL_law_L_giftOf rfl rfl rfl vdL_giftOf.2 ⟨Nat.le_of_ble_eq_true rfl, Nat.le_of_ble_eq_true rfl⟩) ⟨hQ, hA⟩ hK hX hS (fun q h => la_193 h) rfl hl.1 rfl dL_law_2407 ⟨by omega, by omega⟩ (Nat.le_of_ble_eq_true rfl) (fun H locs hQA hsz hoth hS => ?_)
    obtain ⟨hQ, hA⟩ := hQA
    have hW := hW.kp (fun k hk => hoth _ (hW.lt k hk) (lb_193 hk))
    have hD := hD.kp (hoth _ hD.lt lc_193)
    refine lv_istore (pc := 2410) (lv' := [(6, .int (iI (0))), (0, .ref (b)), (1, .ref (qo s.heap.size 0)), (2, .ref (s.heap.size + 187 + 0)), (3, .ref (s.heap.size + 193)), (4, .ref (s.heap.size + 194)), (5, .int (iI (i)))]) E.1 E.2 dL_law_2410 hl (by decide) rfl (fun ls hl => ?_)
    refine lv_aload_n (pc := 2412) E.1 E.2 dL_law_2412 rfl (lv_at hl 3 rfl) ?_
    refine lv_aload_n (pc := 2413) E.1 E.2 dL_law_2413 rfl (lv_at hl 1 rfl) ?_
    refine lv_iload (pc := 2414) E.1 E.2 dL_law_2414 (lv_at hl 6 rfl) ?_
    refine z_iconst (pc := 2416) E dL_law_2416 ?_
    refine z_iadd (pc := 2417) E dL_law_2417 ?_
    refine z_sld (pc := 2418) E hx hb hbA hS ⟨by omega, by omega⟩ hL dL_law_2418 ?_
    refine lv_aload_n (pc := 2419) E.1 E.2 dL_law_2419 rfl (lv_at hl 1 rfl) ?_
    refine lv_iload (pc := 2420) E.1 E.2 dL_law_2420 (lv_at hl 6 rfl) ?_
    refine z_iconst (pc := 2422) E dL_law_2422 ?_
    refine z_iadd (pc := 2423) E dL_law_2423 ?_
    refine z_sld (pc := 2424) E hx hb hbA hS ⟨by omega, by omega⟩ hL dL_law_2424 ?_
    refine z_wVi (pc := 2425) (As := [.int (iI (sx xs (i + 1))), .int (iI (sx xs (i + 2)))]) (rest := []) E hml hown hts (mX8_giftOf l G (fun k => s.heap.size + 187 + k) μ σ φ κ β ω (sx xs (i + 1)) (sx xs (i + 2)) hR.ok.1 (sx_b _ _) (sx_b _ _)) (cwV 2 hts gL_law_X8_giftOf rfl rfl rfl vdX8_giftOf ⟨Nat.le_of_ble_eq_true rfl, Nat.le_of_ble_eq_true rfl⟩) (hW.1.recv hK rfl) hW hK hS (fun q h => la_8 h) rfl hl.1 rfl dL_law_2425 ⟨by omega, by omega⟩ (Nat.le_of_ble_eq_true rfl) (fun H locs hW hsz hoth hS => ?_)
    have hQ := hQ.kp (fun k hk => hoth _ (hQ.lt k hk) (lb_8 hk))
    have hA := hA.kp (hoth _ hA.lt le_193)
    have hD := hD.kp (hoth _ hD.lt le_194)
    have hk8 := hk
    try simp only [if_pos hk8] at hW
    refine lv_istore (pc := 2428) (lv' := [(7, .int (iI ((if (kxGiftO σ (sx xs (i + 1)) (sx xs (i + 2))) = 0 then σ (309 + 4 * (sx xs (i + 1)) + (sx xs (i + 2))) else 0)))), (6, .int (iI (0))), (0, .ref (b)), (1, .ref (qo s.heap.size 0)), (2, .ref (s.heap.size + 187 + 0)), (3, .ref (s.heap.size + 193)), (4, .ref (s.heap.size + 194)), (5, .int (iI (i)))]) E.1 E.2 dL_law_2428 hl (by decide) rfl (fun ls hl => ?_)
    refine lv_aload_n (pc := 2430) E.1 E.2 dL_law_2430 rfl (lv_at hl 4 rfl) ?_
    refine z_rVi (pc := 2431) (As := []) (rest := []) E hml hown hts (mX8_thrown l G (fun k => s.heap.size + 187 + k) _ _ _ _ _ _) (cwV 0 hts gL_law_X8_thrown rfl rfl rfl vdX8_thrown ⟨Nat.le_of_ble_eq_true rfl, Nat.le_of_ble_eq_true rfl⟩) (hW.1.recv hK rfl) hW hK rfl hl.1 rfl dL_law_2431 ⟨by omega, by omega⟩ (Nat.le_of_ble_eq_true rfl) ?_
    refine lv_iload (pc := 2434) E.1 E.2 dL_law_2434 (lv_at hl 1 rfl) ?_
    refine z_same (pc := 2436) (tgt := 2441) E hk8 dL_law_2436 (by decide) ?_
    refine lv_iload (pc := 2441) E.1 E.2 dL_law_2441 (lv_at hl 1 rfl) ?_
    refine z_if_ne (pc := 2443) (tgt := 2458) E (by decide) dL_law_2443 (by decide) (fun h => absurd rfl h) (fun _ => ?_)
    refine lv_aload_n (pc := 2446) E.1 E.2 dL_law_2446 rfl (lv_at hl 5 rfl) ?_
    refine z_iconst (pc := 2447) E dL_law_2447 ?_
    refine z_laloadE (pc := 2448) E hK hA (by decide) (by decide) (show zu fq 0 (rI ((σ (309 + 4 * (sx xs (i + 1)) + (sx xs (i + 2)))))) 0 = rI ((σ (309 + 4 * (sx xs (i + 1)) + (sx xs (i + 2))))) from if_pos rfl) dL_law_2448 ?_
    refine lv_iload (pc := 2449) E.1 E.2 dL_law_2449 (lv_at hl 0 rfl) ?_
    refine z_i2lR (pc := 2451) E dL_law_2451 ?_
    refine z_sameL (pc := 2452) (tgt := 2458) E (if_pos hk8).symm dL_law_2452 dL_law_2453 (by decide) ?_
    refine lv_goto (pc := 2458) (tgt := 2822) E.1 E.2 dL_law_2458 (by decide) ?_
    refine W.widen (k := cells + 1) (n := slots + 6) (by omega) (by omega) ?_
    exact kk H locs ls ⟨⟨_, _, _, _, _, _, _, _, _, hQ, hW, hR.id rfl rfl rfl rfl⟩, ⟨_, hA⟩, ⟨_, hD⟩⟩ hS (lv_sub hl [2, 3, 4, 5, 6, 7] rfl)
  · refine z_lwc (pc := 2407) (As := [.ref (qo s.heap.size 0), .int (iI (sx xs (i + 1))), .int (iI (sx xs (i + 2))), .ref (s.heap.size + 193)]) (rest := []) E hml hown hts (mbL_giftOf l hst G (qo s.heap.size) ν σ π δ (fun j => sg8 (β j)) ω (sx xs (i + 1)) (sx xs (i + 2)) hR.ok.1 (sx_b _ _) (sx_b _ _) hk (s.heap.size + 193) fq) (vx_cwSW 4 hts gL_law_L_giftOf rfl rfl rfl vdL_giftOf.2 ⟨Nat.le_of_ble_eq_true rfl, Nat.le_of_ble_eq_true rfl⟩) ⟨hQ, hA⟩ hK hX hS (fun q h => h.elim) rfl hl.1 rfl dL_law_2407 ⟨by omega, by omega⟩ (Nat.le_of_ble_eq_true rfl) (fun H locs hQA hsz hoth hS => ?_)
    obtain ⟨hQ, hA⟩ := hQA
    have hW := hW.kp (fun k hk => hoth _ (hW.lt k hk) (fun h => h))
    have hD := hD.kp (hoth _ hD.lt (fun h => h))
    have hkb : -2147483648 ≤ (kxGiftO σ (sx xs (i + 1)) (sx xs (i + 2))) ∧ (kxGiftO σ (sx xs (i + 1)) (sx xs (i + 2))) < 2147483648 := by unfold kxGiftO; (try unfold kxPK); (repeat' split) <;> decide
    have hkn : ¬ (kxGiftO σ (sx xs (i + 1)) (sx xs (i + 2))) = 0 := hk
    refine lv_istore (pc := 2410) (lv' := [(6, .int (iI ((kxGiftO σ (sx xs (i + 1)) (sx xs (i + 2)))))), (0, .ref (b)), (1, .ref (qo s.heap.size 0)), (2, .ref (s.heap.size + 187 + 0)), (3, .ref (s.heap.size + 193)), (4, .ref (s.heap.size + 194)), (5, .int (iI (i)))]) E.1 E.2 dL_law_2410 hl (by decide) rfl (fun ls hl => ?_)
    refine lv_aload_n (pc := 2412) E.1 E.2 dL_law_2412 rfl (lv_at hl 3 rfl) ?_
    refine lv_aload_n (pc := 2413) E.1 E.2 dL_law_2413 rfl (lv_at hl 1 rfl) ?_
    refine lv_iload (pc := 2414) E.1 E.2 dL_law_2414 (lv_at hl 6 rfl) ?_
    refine z_iconst (pc := 2416) E dL_law_2416 ?_
    refine z_iadd (pc := 2417) E dL_law_2417 ?_
    refine z_sld (pc := 2418) E hx hb hbA hS ⟨by omega, by omega⟩ hL dL_law_2418 ?_
    refine lv_aload_n (pc := 2419) E.1 E.2 dL_law_2419 rfl (lv_at hl 1 rfl) ?_
    refine lv_iload (pc := 2420) E.1 E.2 dL_law_2420 (lv_at hl 6 rfl) ?_
    refine z_iconst (pc := 2422) E dL_law_2422 ?_
    refine z_iadd (pc := 2423) E dL_law_2423 ?_
    refine z_sld (pc := 2424) E hx hb hbA hS ⟨by omega, by omega⟩ hL dL_law_2424 ?_
    refine z_wVi (pc := 2425) (As := [.int (iI (sx xs (i + 1))), .int (iI (sx xs (i + 2)))]) (rest := []) E hml hown hts (mX8_giftOf l G (fun k => s.heap.size + 187 + k) μ σ φ κ β ω (sx xs (i + 1)) (sx xs (i + 2)) hR.ok.1 (sx_b _ _) (sx_b _ _)) (cwV 2 hts gL_law_X8_giftOf rfl rfl rfl vdX8_giftOf ⟨Nat.le_of_ble_eq_true rfl, Nat.le_of_ble_eq_true rfl⟩) (hW.1.recv hK rfl) hW hK hS (fun q h => la_8 h) rfl hl.1 rfl dL_law_2425 ⟨by omega, by omega⟩ (Nat.le_of_ble_eq_true rfl) (fun H locs hW hsz hoth hS => ?_)
    have hQ := hQ.kp (fun k hk => hoth _ (hQ.lt k hk) (lb_8 hk))
    have hA := hA.kp (hoth _ hA.lt le_193)
    have hD := hD.kp (hoth _ hD.lt le_194)
    have hk8 := hk
    try simp only [if_neg hk8] at hW
    refine lv_istore (pc := 2428) (lv' := [(7, .int (iI ((if (kxGiftO σ (sx xs (i + 1)) (sx xs (i + 2))) = 0 then σ (309 + 4 * (sx xs (i + 1)) + (sx xs (i + 2))) else 0)))), (6, .int (iI ((kxGiftO σ (sx xs (i + 1)) (sx xs (i + 2)))))), (0, .ref (b)), (1, .ref (qo s.heap.size 0)), (2, .ref (s.heap.size + 187 + 0)), (3, .ref (s.heap.size + 193)), (4, .ref (s.heap.size + 194)), (5, .int (iI (i)))]) E.1 E.2 dL_law_2428 hl (by decide) rfl (fun ls hl => ?_)
    refine lv_aload_n (pc := 2430) E.1 E.2 dL_law_2430 rfl (lv_at hl 4 rfl) ?_
    refine z_rVi (pc := 2431) (As := []) (rest := []) E hml hown hts (mX8_thrown l G (fun k => s.heap.size + 187 + k) _ _ _ _ _ _) (cwV 0 hts gL_law_X8_thrown rfl rfl rfl vdX8_thrown ⟨Nat.le_of_ble_eq_true rfl, Nat.le_of_ble_eq_true rfl⟩) (hW.1.recv hK rfl) hW hK rfl hl.1 rfl dL_law_2431 ⟨by omega, by omega⟩ (Nat.le_of_ble_eq_true rfl) ?_
    refine lv_iload (pc := 2434) E.1 E.2 dL_law_2434 (lv_at hl 1 rfl) ?_
    refine z_same (pc := 2436) (tgt := 2441) E rfl dL_law_2436 (by decide) ?_
    refine lv_iload (pc := 2441) E.1 E.2 dL_law_2441 (lv_at hl 1 rfl) ?_
    refine z_if_ne (pc := 2443) (tgt := 2458) E hkb dL_law_2443 (by decide) (fun _ => ?_) (fun h => absurd h hkn)
    refine lv_goto (pc := 2458) (tgt := 2822) E.1 E.2 dL_law_2458 (by decide) ?_
    refine W.widen (k := cells + 1) (n := slots + 6) (by omega) (by omega) ?_
    exact kk H locs ls ⟨⟨_, _, _, _, _, _, _, _, _, hQ, hW, hR.id rfl rfl rfl rfl⟩, ⟨_, hA⟩, ⟨_, hD⟩⟩ hS (lv_sub hl [2, 3, 4, 5, 6, 7] rfl)
set_option maxHeartbeats 1000000 in
set_option maxRecDepth 100000 in
theorem cs_endGift {p : Program} {l : Launch} {e : Env} {s : State} {m : MethodId} {below : List Frame} {meth : Method} {c : Code} {G : GG} {b L : Nat} {xs : Nat → Int32} {aK aV : Nat → Nat} (X : LX p l s m c G b L xs aK aV) {n : Nat} {i : Int} {H : Heap} {locs : List Loc} {ls : Array Slot} {cells slots : Nat} {Q : State → Prop} (hn : n ≤ 600) (hi : 0 ≤ i ∧ i + 6 ≤ (L : Int)) (hH : LH G n s.heap.size H) (hS : va_S (fun q => s.heap.size ≤ q) s.heap H locs) (hl : lv_has ls 8 [(0, .ref b), (1, .ref (qo s.heap.size 0)), (2, .ref (s.heap.size + 187 + 0)), (3, .ref (s.heap.size + 193)), (4, .ref (s.heap.size + 194)), (5, .int (iI i))]) (hc : cells + 1 ≤ room_1.cells) (hsl : slots + 6 ≤ room_1.slots) (kk : ∀ (H : Heap) (locs : List Loc) (ls : Array Slot), LH G (n + 1) s.heap.size H → va_S (fun q => s.heap.size ≤ q) s.heap H locs → lv_has ls 8 [(0, .ref b), (1, .ref (qo s.heap.size 0)), (2, .ref (s.heap.size + 187 + 0)), (3, .ref (s.heap.size + 193)), (4, .ref (s.heap.size + 194)), (5, .int (iI i))] → W p l e room_1 s m #[Value.ref b] below meth c H locs (cells + 1) (slots + 6) Q (F0 m 2822 ls [])) : W p l e room_1 s m #[Value.ref b] below meth c H locs cells slots Q (F0 m 2461 ls []) := by
  obtain ⟨E, hml, hown, hts, hK, hX0, hx, hb, hst, hL, hks⟩ := X
  obtain ⟨⟨ν, σ, π, δ, β, ω, μ, φ, κ, hQ, hW, hR⟩, ⟨fq, hA⟩, ⟨xq, hD⟩⟩ := hH
  have hX : KX FF0 s H := (hX0.kept (fun a ha hna => hS.2.1 a ha hna)).narrow (fun q h => h.elim)
  have hbA : ¬ (s.heap.size ≤ b) := by omega
  refine lv_aload_n (pc := 2461) E.1 E.2 dL_law_2461 rfl (lv_at hl 1 rfl) ?_
  refine lv_aload_n (pc := 2462) E.1 E.2 dL_law_2462 rfl (lv_at hl 0 rfl) ?_
  refine lv_iload (pc := 2463) E.1 E.2 dL_law_2463 (lv_at hl 5 rfl) ?_
  refine z_iconst (pc := 2465) E dL_law_2465 ?_
  refine z_iadd (pc := 2466) E dL_law_2466 ?_
  refine z_sld (pc := 2467) E hx hb hbA hS ⟨by omega, by omega⟩ hL dL_law_2467 ?_
  refine lv_aload_n (pc := 2468) E.1 E.2 dL_law_2468 rfl (lv_at hl 3 rfl) ?_
  by_cases hk : (kxGi σ (sx xs (i + 1))) = 0
  · refine z_lwc (pc := 2469) (As := [.ref (qo s.heap.size 0), .int (iI (sx xs (i + 1))), .ref (s.heap.size + 193)]) (rest := []) E hml hown hts (mL_endGift l G (qo s.heap.size) ν σ π δ (fun j => sg8 (β j)) ω (sx xs (i + 1)) hR.ok.1 (sx_b _ _) hk (hR.hc hn) hR.hu (s.heap.size + 193) fq (fun k hk => by have := qo_b s.heap.size hk; omega)) (vx_cwSW 3 hts gL_law_L_endGift rfl rfl rfl vdL_endGift.2 ⟨Nat.le_of_ble_eq_true rfl, Nat.le_of_ble_eq_true rfl⟩) ⟨hQ, hA⟩ hK hX hS (fun q h => la_193 h) rfl hl.1 rfl dL_law_2469 ⟨by omega, by omega⟩ (Nat.le_of_ble_eq_true rfl) (fun H locs hQA hsz hoth hS => ?_)
    obtain ⟨hQ, hA⟩ := hQA
    have hW := hW.kp (fun k hk => hoth _ (hW.lt k hk) (lb_193 hk))
    have hD := hD.kp (hoth _ hD.lt lc_193)
    refine lv_istore (pc := 2472) (lv' := [(6, .int (iI (0))), (0, .ref (b)), (1, .ref (qo s.heap.size 0)), (2, .ref (s.heap.size + 187 + 0)), (3, .ref (s.heap.size + 193)), (4, .ref (s.heap.size + 194)), (5, .int (iI (i)))]) E.1 E.2 dL_law_2472 hl (by decide) rfl (fun ls hl => ?_)
    refine lv_aload_n (pc := 2474) E.1 E.2 dL_law_2474 rfl (lv_at hl 3 rfl) ?_
    refine lv_aload_n (pc := 2475) E.1 E.2 dL_law_2475 rfl (lv_at hl 1 rfl) ?_
    refine lv_iload (pc := 2476) E.1 E.2 dL_law_2476 (lv_at hl 6 rfl) ?_
    refine z_iconst (pc := 2478) E dL_law_2478 ?_
    refine z_iadd (pc := 2479) E dL_law_2479 ?_
    refine z_sld (pc := 2480) E hx hb hbA hS ⟨by omega, by omega⟩ hL dL_law_2480 ?_
    refine z_wVi (pc := 2481) (As := [.int (iI (sx xs (i + 1)))]) (rest := []) E hml hown hts (mX8_endGift l G (fun k => s.heap.size + 187 + k) μ σ φ κ β ω (sx xs (i + 1)) hR.ok.1 (sx_b _ _) hR.m3) (cwV 1 hts gL_law_X8_endGift rfl rfl rfl vdX8_endGift ⟨Nat.le_of_ble_eq_true rfl, Nat.le_of_ble_eq_true rfl⟩) (hW.1.recv hK rfl) hW hK hS (fun q h => la_8 h) rfl hl.1 rfl dL_law_2481 ⟨by omega, by omega⟩ (Nat.le_of_ble_eq_true rfl) (fun H locs hW hsz hoth hS => ?_)
    have hQ := hQ.kp (fun k hk => hoth _ (hQ.lt k hk) (lb_8 hk))
    have hA := hA.kp (hoth _ hA.lt le_193)
    have hD := hD.kp (hoth _ hD.lt le_194)
    have hk8 := hk
    try simp only [if_pos hk8] at hW
    refine lv_istore (pc := 2484) (lv' := [(7, .int (iI ((if (kxGi σ (sx xs (i + 1))) = 0 then σ 4 - 1 else 0)))), (6, .int (iI (0))), (0, .ref (b)), (1, .ref (qo s.heap.size 0)), (2, .ref (s.heap.size + 187 + 0)), (3, .ref (s.heap.size + 193)), (4, .ref (s.heap.size + 194)), (5, .int (iI (i)))]) E.1 E.2 dL_law_2484 hl (by decide) rfl (fun ls hl => ?_)
    refine lv_aload_n (pc := 2486) E.1 E.2 dL_law_2486 rfl (lv_at hl 4 rfl) ?_
    refine z_rVi (pc := 2487) (As := []) (rest := []) E hml hown hts (mX8_thrown l G (fun k => s.heap.size + 187 + k) _ _ _ _ _ _) (cwV 0 hts gL_law_X8_thrown rfl rfl rfl vdX8_thrown ⟨Nat.le_of_ble_eq_true rfl, Nat.le_of_ble_eq_true rfl⟩) (hW.1.recv hK rfl) hW hK rfl hl.1 rfl dL_law_2487 ⟨by omega, by omega⟩ (Nat.le_of_ble_eq_true rfl) ?_
    refine lv_iload (pc := 2490) E.1 E.2 dL_law_2490 (lv_at hl 1 rfl) ?_
    refine z_same (pc := 2492) (tgt := 2497) E hk8 dL_law_2492 (by decide) ?_
    refine lv_iload (pc := 2497) E.1 E.2 dL_law_2497 (lv_at hl 1 rfl) ?_
    refine z_if_ne (pc := 2499) (tgt := 2514) E (by decide) dL_law_2499 (by decide) (fun h => absurd rfl h) (fun _ => ?_)
    refine lv_aload_n (pc := 2502) E.1 E.2 dL_law_2502 rfl (lv_at hl 5 rfl) ?_
    refine z_iconst (pc := 2503) E dL_law_2503 ?_
    refine z_laloadE (pc := 2504) E hK hA (by decide) (by decide) (show zu fq 0 (rI ((σ 4 - 1))) 0 = rI ((σ 4 - 1)) from if_pos rfl) dL_law_2504 ?_
    refine lv_iload (pc := 2505) E.1 E.2 dL_law_2505 (lv_at hl 0 rfl) ?_
    refine z_i2lR (pc := 2507) E dL_law_2507 ?_
    refine z_sameL (pc := 2508) (tgt := 2514) E (if_pos hk8).symm dL_law_2508 dL_law_2509 (by decide) ?_
    refine lv_goto (pc := 2514) (tgt := 2822) E.1 E.2 dL_law_2514 (by decide) ?_
    refine W.widen (k := cells + 1) (n := slots + 6) (by omega) (by omega) ?_
    exact kk H locs ls ⟨⟨_, _, _, _, _, _, _, _, _, hQ, hW, hR.wr (ok_EndG hR.ok hk) rfl rfl hR.e6 hR.m6 rfl hR.e14 rfl rfl⟩, ⟨_, hA⟩, ⟨_, hD⟩⟩ hS (lv_sub hl [2, 3, 4, 5, 6, 7] rfl)
  · refine z_lwc (pc := 2469) (As := [.ref (qo s.heap.size 0), .int (iI (sx xs (i + 1))), .ref (s.heap.size + 193)]) (rest := []) E hml hown hts (mbL_endGift l hst G (qo s.heap.size) ν σ π δ (fun j => sg8 (β j)) ω (sx xs (i + 1)) hR.ok.1 (sx_b _ _) hk (s.heap.size + 193) fq) (vx_cwSW 3 hts gL_law_L_endGift rfl rfl rfl vdL_endGift.2 ⟨Nat.le_of_ble_eq_true rfl, Nat.le_of_ble_eq_true rfl⟩) ⟨hQ, hA⟩ hK hX hS (fun q h => h.elim) rfl hl.1 rfl dL_law_2469 ⟨by omega, by omega⟩ (Nat.le_of_ble_eq_true rfl) (fun H locs hQA hsz hoth hS => ?_)
    obtain ⟨hQ, hA⟩ := hQA
    have hW := hW.kp (fun k hk => hoth _ (hW.lt k hk) (fun h => h))
    have hD := hD.kp (hoth _ hD.lt (fun h => h))
    have hkb : -2147483648 ≤ (kxGi σ (sx xs (i + 1))) ∧ (kxGi σ (sx xs (i + 1))) < 2147483648 := by unfold kxGi; (try unfold kxPK); (repeat' split) <;> decide
    have hkn : ¬ (kxGi σ (sx xs (i + 1))) = 0 := hk
    refine lv_istore (pc := 2472) (lv' := [(6, .int (iI ((kxGi σ (sx xs (i + 1)))))), (0, .ref (b)), (1, .ref (qo s.heap.size 0)), (2, .ref (s.heap.size + 187 + 0)), (3, .ref (s.heap.size + 193)), (4, .ref (s.heap.size + 194)), (5, .int (iI (i)))]) E.1 E.2 dL_law_2472 hl (by decide) rfl (fun ls hl => ?_)
    refine lv_aload_n (pc := 2474) E.1 E.2 dL_law_2474 rfl (lv_at hl 3 rfl) ?_
    refine lv_aload_n (pc := 2475) E.1 E.2 dL_law_2475 rfl (lv_at hl 1 rfl) ?_
    refine lv_iload (pc := 2476) E.1 E.2 dL_law_2476 (lv_at hl 6 rfl) ?_
    refine z_iconst (pc := 2478) E dL_law_2478 ?_
    refine z_iadd (pc := 2479) E dL_law_2479 ?_
    refine z_sld (pc := 2480) E hx hb hbA hS ⟨by omega, by omega⟩ hL dL_law_2480 ?_
    refine z_wVi (pc := 2481) (As := [.int (iI (sx xs (i + 1)))]) (rest := []) E hml hown hts (mX8_endGift l G (fun k => s.heap.size + 187 + k) μ σ φ κ β ω (sx xs (i + 1)) hR.ok.1 (sx_b _ _) hR.m3) (cwV 1 hts gL_law_X8_endGift rfl rfl rfl vdX8_endGift ⟨Nat.le_of_ble_eq_true rfl, Nat.le_of_ble_eq_true rfl⟩) (hW.1.recv hK rfl) hW hK hS (fun q h => la_8 h) rfl hl.1 rfl dL_law_2481 ⟨by omega, by omega⟩ (Nat.le_of_ble_eq_true rfl) (fun H locs hW hsz hoth hS => ?_)
    have hQ := hQ.kp (fun k hk => hoth _ (hQ.lt k hk) (lb_8 hk))
    have hA := hA.kp (hoth _ hA.lt le_193)
    have hD := hD.kp (hoth _ hD.lt le_194)
    have hk8 := hk
    try simp only [if_neg hk8] at hW
    refine lv_istore (pc := 2484) (lv' := [(7, .int (iI ((if (kxGi σ (sx xs (i + 1))) = 0 then σ 4 - 1 else 0)))), (6, .int (iI ((kxGi σ (sx xs (i + 1)))))), (0, .ref (b)), (1, .ref (qo s.heap.size 0)), (2, .ref (s.heap.size + 187 + 0)), (3, .ref (s.heap.size + 193)), (4, .ref (s.heap.size + 194)), (5, .int (iI (i)))]) E.1 E.2 dL_law_2484 hl (by decide) rfl (fun ls hl => ?_)
    refine lv_aload_n (pc := 2486) E.1 E.2 dL_law_2486 rfl (lv_at hl 4 rfl) ?_
    refine z_rVi (pc := 2487) (As := []) (rest := []) E hml hown hts (mX8_thrown l G (fun k => s.heap.size + 187 + k) _ _ _ _ _ _) (cwV 0 hts gL_law_X8_thrown rfl rfl rfl vdX8_thrown ⟨Nat.le_of_ble_eq_true rfl, Nat.le_of_ble_eq_true rfl⟩) (hW.1.recv hK rfl) hW hK rfl hl.1 rfl dL_law_2487 ⟨by omega, by omega⟩ (Nat.le_of_ble_eq_true rfl) ?_
    refine lv_iload (pc := 2490) E.1 E.2 dL_law_2490 (lv_at hl 1 rfl) ?_
    refine z_same (pc := 2492) (tgt := 2497) E rfl dL_law_2492 (by decide) ?_
    refine lv_iload (pc := 2497) E.1 E.2 dL_law_2497 (lv_at hl 1 rfl) ?_
    refine z_if_ne (pc := 2499) (tgt := 2514) E hkb dL_law_2499 (by decide) (fun _ => ?_) (fun h => absurd h hkn)
    refine lv_goto (pc := 2514) (tgt := 2822) E.1 E.2 dL_law_2514 (by decide) ?_
    refine W.widen (k := cells + 1) (n := slots + 6) (by omega) (by omega) ?_
    exact kk H locs ls ⟨⟨_, _, _, _, _, _, _, _, _, hQ, hW, hR.id rfl rfl rfl rfl⟩, ⟨_, hA⟩, ⟨_, hD⟩⟩ hS (lv_sub hl [2, 3, 4, 5, 6, 7] rfl)
set_option maxHeartbeats 1000000 in
set_option maxRecDepth 100000 in
theorem cs_adjust {p : Program} {l : Launch} {e : Env} {s : State} {m : MethodId} {below : List Frame} {meth : Method} {c : Code} {G : GG} {b L : Nat} {xs : Nat → Int32} {aK aV : Nat → Nat} (X : LX p l s m c G b L xs aK aV) {n : Nat} {i : Int} {H : Heap} {locs : List Loc} {ls : Array Slot} {cells slots : Nat} {Q : State → Prop} (hn : n ≤ 600) (hi : 0 ≤ i ∧ i + 6 ≤ (L : Int)) (hH : LH G n s.heap.size H) (hS : va_S (fun q => s.heap.size ≤ q) s.heap H locs) (hl : lv_has ls 8 [(0, .ref b), (1, .ref (qo s.heap.size 0)), (2, .ref (s.heap.size + 187 + 0)), (3, .ref (s.heap.size + 193)), (4, .ref (s.heap.size + 194)), (5, .int (iI i))]) (hc : cells + 1 ≤ room_1.cells) (hsl : slots + 6 ≤ room_1.slots) (kk : ∀ (H : Heap) (locs : List Loc) (ls : Array Slot), LH G (n + 1) s.heap.size H → va_S (fun q => s.heap.size ≤ q) s.heap H locs → lv_has ls 8 [(0, .ref b), (1, .ref (qo s.heap.size 0)), (2, .ref (s.heap.size + 187 + 0)), (3, .ref (s.heap.size + 193)), (4, .ref (s.heap.size + 194)), (5, .int (iI i))] → W p l e room_1 s m #[Value.ref b] below meth c H locs (cells + 1) (slots + 6) Q (F0 m 2822 ls [])) : W p l e room_1 s m #[Value.ref b] below meth c H locs cells slots Q (F0 m 2517 ls []) := by
  obtain ⟨E, hml, hown, hts, hK, hX0, hx, hb, hst, hL, hks⟩ := X
  obtain ⟨⟨ν, σ, π, δ, β, ω, μ, φ, κ, hQ, hW, hR⟩, ⟨fq, hA⟩, ⟨xq, hD⟩⟩ := hH
  have hX : KX FF0 s H := (hX0.kept (fun a ha hna => hS.2.1 a ha hna)).narrow (fun q h => h.elim)
  have hbA : ¬ (s.heap.size ≤ b) := by omega
  refine lv_aload_n (pc := 2517) E.1 E.2 dL_law_2517 rfl (lv_at hl 1 rfl) ?_
  refine lv_aload_n (pc := 2518) E.1 E.2 dL_law_2518 rfl (lv_at hl 0 rfl) ?_
  refine lv_iload (pc := 2519) E.1 E.2 dL_law_2519 (lv_at hl 5 rfl) ?_
  refine z_iconst (pc := 2521) E dL_law_2521 ?_
  refine z_iadd (pc := 2522) E dL_law_2522 ?_
  refine z_sld (pc := 2523) E hx hb hbA hS ⟨by omega, by omega⟩ hL dL_law_2523 ?_
  refine lv_aload_n (pc := 2524) E.1 E.2 dL_law_2524 rfl (lv_at hl 0 rfl) ?_
  refine lv_iload (pc := 2525) E.1 E.2 dL_law_2525 (lv_at hl 5 rfl) ?_
  refine z_iconst (pc := 2527) E dL_law_2527 ?_
  refine z_iadd (pc := 2528) E dL_law_2528 ?_
  refine z_sld (pc := 2529) E hx hb hbA hS ⟨by omega, by omega⟩ hL dL_law_2529 ?_
  refine lv_aload_n (pc := 2530) E.1 E.2 dL_law_2530 rfl (lv_at hl 0 rfl) ?_
  refine lv_iload (pc := 2531) E.1 E.2 dL_law_2531 (lv_at hl 5 rfl) ?_
  refine z_iconst (pc := 2533) E dL_law_2533 ?_
  refine z_iadd (pc := 2534) E dL_law_2534 ?_
  refine z_sld (pc := 2535) E hx hb hbA hS ⟨by omega, by omega⟩ hL dL_law_2535 ?_
  refine lv_aload_n (pc := 2536) E.1 E.2 dL_law_2536 rfl (lv_at hl 3 rfl) ?_
  by_cases hk : (kxAdj σ (sx xs (i + 1)) (sx xs (i + 2)) (sx xs (i + 3))) = 0
  · refine z_lwc (pc := 2537) (As := [.ref (qo s.heap.size 0), .int (iI (sx xs (i + 1))), .int (iI (sx xs (i + 2))), .int (iI (sx xs (i + 3))), .ref (s.heap.size + 193)]) (rest := []) E hml hown hts (mL_adjust l G (qo s.heap.size) ν σ π δ (fun j => sg8 (β j)) ω (sx xs (i + 1)) (sx xs (i + 2)) (sx xs (i + 3)) hR.ok.1 (sx_b _ _) (sx_b _ _) (sx_b _ _) hk (hR.hc hn) hR.hu (s.heap.size + 193) fq (fun k hk => by have := qo_b s.heap.size hk; omega)) (vx_cwSW 5 hts gL_law_L_adjust rfl rfl rfl vdL_adjust.2 ⟨Nat.le_of_ble_eq_true rfl, Nat.le_of_ble_eq_true rfl⟩) ⟨hQ, hA⟩ hK hX hS (fun q h => la_193 h) rfl hl.1 rfl dL_law_2537 ⟨by omega, by omega⟩ (Nat.le_of_ble_eq_true rfl) (fun H locs hQA hsz hoth hS => ?_)
    obtain ⟨hQ, hA⟩ := hQA
    have hW := hW.kp (fun k hk => hoth _ (hW.lt k hk) (lb_193 hk))
    have hD := hD.kp (hoth _ hD.lt lc_193)
    refine lv_istore (pc := 2540) (lv' := [(6, .int (iI (0))), (0, .ref (b)), (1, .ref (qo s.heap.size 0)), (2, .ref (s.heap.size + 187 + 0)), (3, .ref (s.heap.size + 193)), (4, .ref (s.heap.size + 194)), (5, .int (iI (i)))]) E.1 E.2 dL_law_2540 hl (by decide) rfl (fun ls hl => ?_)
    refine lv_aload_n (pc := 2542) E.1 E.2 dL_law_2542 rfl (lv_at hl 3 rfl) ?_
    refine lv_aload_n (pc := 2543) E.1 E.2 dL_law_2543 rfl (lv_at hl 1 rfl) ?_
    refine lv_iload (pc := 2544) E.1 E.2 dL_law_2544 (lv_at hl 6 rfl) ?_
    refine z_iconst (pc := 2546) E dL_law_2546 ?_
    refine z_iadd (pc := 2547) E dL_law_2547 ?_
    refine z_sld (pc := 2548) E hx hb hbA hS ⟨by omega, by omega⟩ hL dL_law_2548 ?_
    refine lv_aload_n (pc := 2549) E.1 E.2 dL_law_2549 rfl (lv_at hl 1 rfl) ?_
    refine lv_iload (pc := 2550) E.1 E.2 dL_law_2550 (lv_at hl 6 rfl) ?_
    refine z_iconst (pc := 2552) E dL_law_2552 ?_
    refine z_iadd (pc := 2553) E dL_law_2553 ?_
    refine z_sld (pc := 2554) E hx hb hbA hS ⟨by omega, by omega⟩ hL dL_law_2554 ?_
    refine lv_aload_n (pc := 2555) E.1 E.2 dL_law_2555 rfl (lv_at hl 1 rfl) ?_
    refine lv_iload (pc := 2556) E.1 E.2 dL_law_2556 (lv_at hl 6 rfl) ?_
    refine z_iconst (pc := 2558) E dL_law_2558 ?_
    refine z_iadd (pc := 2559) E dL_law_2559 ?_
    refine z_sld (pc := 2560) E hx hb hbA hS ⟨by omega, by omega⟩ hL dL_law_2560 ?_
    refine z_wVi (pc := 2561) (As := [.int (iI (sx xs (i + 1))), .int (iI (sx xs (i + 2))), .int (iI (sx xs (i + 3)))]) (rest := []) E hml hown hts (mX8_adjust l G (fun k => s.heap.size + 187 + k) μ σ φ κ β ω (sx xs (i + 1)) (sx xs (i + 2)) (sx xs (i + 3)) hR.ok.1 (sx_b _ _) (sx_b _ _) (sx_b _ _) hR.m3) (cwV 3 hts gL_law_X8_adjust rfl rfl rfl vdX8_adjust ⟨Nat.le_of_ble_eq_true rfl, Nat.le_of_ble_eq_true rfl⟩) (hW.1.recv hK rfl) hW hK hS (fun q h => la_8 h) rfl hl.1 rfl dL_law_2561 ⟨by omega, by omega⟩ (Nat.le_of_ble_eq_true rfl) (fun H locs hW hsz hoth hS => ?_)
    have hQ := hQ.kp (fun k hk => hoth _ (hQ.lt k hk) (lb_8 hk))
    have hA := hA.kp (hoth _ hA.lt le_193)
    have hD := hD.kp (hoth _ hD.lt le_194)
    have hk8 := hk
    try simp only [if_pos hk8] at hW
    refine lv_istore (pc := 2564) (lv' := [(7, .int (iI ((if (kxAdj σ (sx xs (i + 1)) (sx xs (i + 2)) (sx xs (i + 3))) = 0 then σ (37 + (2 * (sx xs (i + 1)) + (sx xs (i + 2)))) + (sx xs (i + 3)) else 0)))), (6, .int (iI (0))), (0, .ref (b)), (1, .ref (qo s.heap.size 0)), (2, .ref (s.heap.size + 187 + 0)), (3, .ref (s.heap.size + 193)), (4, .ref (s.heap.size + 194)), (5, .int (iI (i)))]) E.1 E.2 dL_law_2564 hl (by decide) rfl (fun ls hl => ?_)
    refine lv_aload_n (pc := 2566) E.1 E.2 dL_law_2566 rfl (lv_at hl 4 rfl) ?_
    refine z_rVi (pc := 2567) (As := []) (rest := []) E hml hown hts (mX8_thrown l G (fun k => s.heap.size + 187 + k) _ _ _ _ _ _) (cwV 0 hts gL_law_X8_thrown rfl rfl rfl vdX8_thrown ⟨Nat.le_of_ble_eq_true rfl, Nat.le_of_ble_eq_true rfl⟩) (hW.1.recv hK rfl) hW hK rfl hl.1 rfl dL_law_2567 ⟨by omega, by omega⟩ (Nat.le_of_ble_eq_true rfl) ?_
    refine lv_iload (pc := 2570) E.1 E.2 dL_law_2570 (lv_at hl 1 rfl) ?_
    refine z_same (pc := 2572) (tgt := 2577) E hk8 dL_law_2572 (by decide) ?_
    refine lv_iload (pc := 2577) E.1 E.2 dL_law_2577 (lv_at hl 1 rfl) ?_
    refine z_if_ne (pc := 2579) (tgt := 2594) E (by decide) dL_law_2579 (by decide) (fun h => absurd rfl h) (fun _ => ?_)
    refine lv_aload_n (pc := 2582) E.1 E.2 dL_law_2582 rfl (lv_at hl 5 rfl) ?_
    refine z_iconst (pc := 2583) E dL_law_2583 ?_
    refine z_laloadE (pc := 2584) E hK hA (by decide) (by decide) (show zu fq 0 (rI ((σ (37 + (2 * (sx xs (i + 1)) + (sx xs (i + 2)))) + (sx xs (i + 3))))) 0 = rI ((σ (37 + (2 * (sx xs (i + 1)) + (sx xs (i + 2)))) + (sx xs (i + 3)))) from if_pos rfl) dL_law_2584 ?_
    refine lv_iload (pc := 2585) E.1 E.2 dL_law_2585 (lv_at hl 0 rfl) ?_
    refine z_i2lR (pc := 2587) E dL_law_2587 ?_
    refine z_sameL (pc := 2588) (tgt := 2594) E (if_pos hk8).symm dL_law_2588 dL_law_2589 (by decide) ?_
    refine lv_goto (pc := 2594) (tgt := 2822) E.1 E.2 dL_law_2594 (by decide) ?_
    refine W.widen (k := cells + 1) (n := slots + 6) (by omega) (by omega) ?_
    exact kk H locs ls ⟨⟨_, _, _, _, _, _, _, _, _, hQ, hW, hR.wr (ok_Adj hR.ok hk) rfl rfl hR.e6 hR.m6 rfl hR.e14 rfl rfl⟩, ⟨_, hA⟩, ⟨_, hD⟩⟩ hS (lv_sub hl [2, 3, 4, 5, 6, 7] rfl)
  · refine z_lwc (pc := 2537) (As := [.ref (qo s.heap.size 0), .int (iI (sx xs (i + 1))), .int (iI (sx xs (i + 2))), .int (iI (sx xs (i + 3))), .ref (s.heap.size + 193)]) (rest := []) E hml hown hts (mbL_adjust l hst G (qo s.heap.size) ν σ π δ (fun j => sg8 (β j)) ω (sx xs (i + 1)) (sx xs (i + 2)) (sx xs (i + 3)) hR.ok.1 (sx_b _ _) (sx_b _ _) (sx_b _ _) hk (s.heap.size + 193) fq) (vx_cwSW 5 hts gL_law_L_adjust rfl rfl rfl vdL_adjust.2 ⟨Nat.le_of_ble_eq_true rfl, Nat.le_of_ble_eq_true rfl⟩) ⟨hQ, hA⟩ hK hX hS (fun q h => h.elim) rfl hl.1 rfl dL_law_2537 ⟨by omega, by omega⟩ (Nat.le_of_ble_eq_true rfl) (fun H locs hQA hsz hoth hS => ?_)
    obtain ⟨hQ, hA⟩ := hQA
    have hW := hW.kp (fun k hk => hoth _ (hW.lt k hk) (fun h => h))
    have hD := hD.kp (hoth _ hD.lt (fun h => h))
    have hkb : -2147483648 ≤ (kxAdj σ (sx xs (i + 1)) (sx xs (i + 2)) (sx xs (i + 3))) ∧ (kxAdj σ (sx xs (i + 1)) (sx xs (i + 2)) (sx xs (i + 3))) < 2147483648 := by unfold kxAdj; (try unfold kxPK); (repeat' split) <;> decide
    have hkn : ¬ (kxAdj σ (sx xs (i + 1)) (sx xs (i + 2)) (sx xs (i + 3))) = 0 := hk
    refine lv_istore (pc := 2540) (lv' := [(6, .int (iI ((kxAdj σ (sx xs (i + 1)) (sx xs (i + 2)) (sx xs (i + 3)))))), (0, .ref (b)), (1, .ref (qo s.heap.size 0)), (2, .ref (s.heap.size + 187 + 0)), (3, .ref (s.heap.size + 193)), (4, .ref (s.heap.size + 194)), (5, .int (iI (i)))]) E.1 E.2 dL_law_2540 hl (by decide) rfl (fun ls hl => ?_)
    refine lv_aload_n (pc := 2542) E.1 E.2 dL_law_2542 rfl (lv_at hl 3 rfl) ?_
    refine lv_aload_n (pc := 2543) E.1 E.2 dL_law_2543 rfl (lv_at hl 1 rfl) ?_
    refine lv_iload (pc := 2544) E.1 E.2 dL_law_2544 (lv_at hl 6 rfl) ?_
    refine z_iconst (pc := 2546) E dL_law_2546 ?_
    refine z_iadd (pc := 2547) E dL_law_2547 ?_
    refine z_sld (pc := 2548) E hx hb hbA hS ⟨by omega, by omega⟩ hL dL_law_2548 ?_
    refine lv_aload_n (pc := 2549) E.1 E.2 dL_law_2549 rfl (lv_at hl 1 rfl) ?_
    refine lv_iload (pc := 2550) E.1 E.2 dL_law_2550 (lv_at hl 6 rfl) ?_
    refine z_iconst (pc := 2552) E dL_law_2552 ?_
    refine z_iadd (pc := 2553) E dL_law_2553 ?_
    refine z_sld (pc := 2554) E hx hb hbA hS ⟨by omega, by omega⟩ hL dL_law_2554 ?_
    refine lv_aload_n (pc := 2555) E.1 E.2 dL_law_2555 rfl (lv_at hl 1 rfl) ?_
    refine lv_iload (pc := 2556) E.1 E.2 dL_law_2556 (lv_at hl 6 rfl) ?_
    refine z_iconst (pc := 2558) E dL_law_2558 ?_
    refine z_iadd (pc := 2559) E dL_law_2559 ?_
    refine z_sld (pc := 2560) E hx hb hbA hS ⟨by omega, by omega⟩ hL dL_law_2560 ?_
    refine z_wVi (pc := 2561) (As := [.int (iI (sx xs (i + 1))), .int (iI (sx xs (i + 2))), .int (iI (sx xs (i + 3)))]) (rest := []) E hml hown hts (mX8_adjust l G (fun k => s.heap.size + 187 + k) μ σ φ κ β ω (sx xs (i + 1)) (sx xs (i + 2)) (sx xs (i + 3)) hR.ok.1 (sx_b _ _) (sx_b _ _) (sx_b _ _) hR.m3) (cwV 3 hts gL_law_X8_adjust rfl rfl rfl vdX8_adjust ⟨Nat.le_of_ble_eq_true rfl, Nat.le_of_ble_eq_true rfl⟩) (hW.1.recv hK rfl) hW hK hS (fun q h => la_8 h) rfl hl.1 rfl dL_law_2561 ⟨by omega, by omega⟩ (Nat.le_of_ble_eq_true rfl) (fun H locs hW hsz hoth hS => ?_)
    have hQ := hQ.kp (fun k hk => hoth _ (hQ.lt k hk) (lb_8 hk))
    have hA := hA.kp (hoth _ hA.lt le_193)
    have hD := hD.kp (hoth _ hD.lt le_194)
    have hk8 := hk
    try simp only [if_neg hk8] at hW
    refine lv_istore (pc := 2564) (lv' := [(7, .int (iI ((if (kxAdj σ (sx xs (i + 1)) (sx xs (i + 2)) (sx xs (i + 3))) = 0 then σ (37 + (2 * (sx xs (i + 1)) + (sx xs (i + 2)))) + (sx xs (i + 3)) else 0)))), (6, .int (iI ((kxAdj σ (sx xs (i + 1)) (sx xs (i + 2)) (sx xs (i + 3)))))), (0, .ref (b)), (1, .ref (qo s.heap.size 0)), (2, .ref (s.heap.size + 187 + 0)), (3, .ref (s.heap.size + 193)), (4, .ref (s.heap.size + 194)), (5, .int (iI (i)))]) E.1 E.2 dL_law_2564 hl (by decide) rfl (fun ls hl => ?_)
    refine lv_aload_n (pc := 2566) E.1 E.2 dL_law_2566 rfl (lv_at hl 4 rfl) ?_
    refine z_rVi (pc := 2567) (As := []) (rest := []) E hml hown hts (mX8_thrown l G (fun k => s.heap.size + 187 + k) _ _ _ _ _ _) (cwV 0 hts gL_law_X8_thrown rfl rfl rfl vdX8_thrown ⟨Nat.le_of_ble_eq_true rfl, Nat.le_of_ble_eq_true rfl⟩) (hW.1.recv hK rfl) hW hK rfl hl.1 rfl dL_law_2567 ⟨by omega, by omega⟩ (Nat.le_of_ble_eq_true rfl) ?_
    refine lv_iload (pc := 2570) E.1 E.2 dL_law_2570 (lv_at hl 1 rfl) ?_
    refine z_same (pc := 2572) (tgt := 2577) E rfl dL_law_2572 (by decide) ?_
    refine lv_iload (pc := 2577) E.1 E.2 dL_law_2577 (lv_at hl 1 rfl) ?_
    refine z_if_ne (pc := 2579) (tgt := 2594) E hkb dL_law_2579 (by decide) (fun _ => ?_) (fun h => absurd h hkn)
    refine lv_goto (pc := 2594) (tgt := 2822) E.1 E.2 dL_law_2594 (by decide) ?_
    refine W.widen (k := cells + 1) (n := slots + 6) (by omega) (by omega) ?_
    exact kk H locs ls ⟨⟨_, _, _, _, _, _, _, _, _, hQ, hW, hR.id rfl rfl rfl rfl⟩, ⟨_, hA⟩, ⟨_, hD⟩⟩ hS (lv_sub hl [2, 3, 4, 5, 6, 7] rfl)
set_option maxHeartbeats 1000000 in
set_option maxRecDepth 100000 in
theorem cs_repair {p : Program} {l : Launch} {e : Env} {s : State} {m : MethodId} {below : List Frame} {meth : Method} {c : Code} {G : GG} {b L : Nat} {xs : Nat → Int32} {aK aV : Nat → Nat} (X : LX p l s m c G b L xs aK aV) {n : Nat} {i : Int} {H : Heap} {locs : List Loc} {ls : Array Slot} {cells slots : Nat} {Q : State → Prop} (hn : n ≤ 600) (hi : 0 ≤ i ∧ i + 6 ≤ (L : Int)) (hH : LH G n s.heap.size H) (hS : va_S (fun q => s.heap.size ≤ q) s.heap H locs) (hl : lv_has ls 8 [(0, .ref b), (1, .ref (qo s.heap.size 0)), (2, .ref (s.heap.size + 187 + 0)), (3, .ref (s.heap.size + 193)), (4, .ref (s.heap.size + 194)), (5, .int (iI i))]) (hc : cells + 1 ≤ room_1.cells) (hsl : slots + 6 ≤ room_1.slots) (kk : ∀ (H : Heap) (locs : List Loc) (ls : Array Slot), LH G (n + 1) s.heap.size H → va_S (fun q => s.heap.size ≤ q) s.heap H locs → lv_has ls 8 [(0, .ref b), (1, .ref (qo s.heap.size 0)), (2, .ref (s.heap.size + 187 + 0)), (3, .ref (s.heap.size + 193)), (4, .ref (s.heap.size + 194)), (5, .int (iI i))] → W p l e room_1 s m #[Value.ref b] below meth c H locs (cells + 1) (slots + 6) Q (F0 m 2822 ls [])) : W p l e room_1 s m #[Value.ref b] below meth c H locs cells slots Q (F0 m 2597 ls []) := by
  obtain ⟨E, hml, hown, hts, hK, hX0, hx, hb, hst, hL, hks⟩ := X
  obtain ⟨⟨ν, σ, π, δ, β, ω, μ, φ, κ, hQ, hW, hR⟩, ⟨fq, hA⟩, ⟨xq, hD⟩⟩ := hH
  have hX : KX FF0 s H := (hX0.kept (fun a ha hna => hS.2.1 a ha hna)).narrow (fun q h => h.elim)
  have hbA : ¬ (s.heap.size ≤ b) := by omega
  refine lv_aload_n (pc := 2597) E.1 E.2 dL_law_2597 rfl (lv_at hl 1 rfl) ?_
  refine z_wVi (pc := 2598) (As := []) (rest := []) E hml hown hts (mX7_repair l G (qo s.heap.size) ν σ π δ (fun j => sg8 (β j)) ω hR.ok.1 (hR.hc hn) hR.hu) (cwV 0 hts gL_law_X7_repair rfl rfl rfl vdX7_repair ⟨Nat.le_of_ble_eq_true rfl, Nat.le_of_ble_eq_true rfl⟩) (hQ.ob.recv hK rfl) hQ hK hS (fun q h => la_193 (Or.inl h)) rfl hl.1 rfl dL_law_2598 ⟨by omega, by omega⟩ (Nat.le_of_ble_eq_true rfl) (fun H locs hQ hsz hoth hS => ?_)
  have hW := hW.kp (fun k hk => hoth _ (hW.lt k hk) (fun h => lb_193 hk (Or.inl h)))
  have hA := hA.kp (hoth _ hA.lt ld_193)
  have hD := hD.kp (hoth _ hD.lt ld_194)
  refine lv_aload_n (pc := 2601) E.1 E.2 dL_law_2601 rfl (lv_at hl 2 rfl) ?_
  refine z_wVi (pc := 2602) (As := []) (rest := [.int (iI ((wrS σ)))]) E hml hown hts (mX8_repair l G (fun k => s.heap.size + 187 + k) μ σ φ κ β ω hR.ok.1 hR.m3) (cwV 0 hts gL_law_X8_repair rfl rfl rfl vdX8_repair ⟨Nat.le_of_ble_eq_true rfl, Nat.le_of_ble_eq_true rfl⟩) (hW.1.recv hK rfl) hW hK hS (fun q h => la_8 h) rfl hl.1 rfl dL_law_2602 ⟨by omega, by omega⟩ (Nat.le_of_ble_eq_true rfl) (fun H locs hW hsz hoth hS => ?_)
  have hQ := hQ.kp (fun k hk => hoth _ (hQ.lt k hk) (lb_8 hk))
  have hA := hA.kp (hoth _ hA.lt le_193)
  have hD := hD.kp (hoth _ hD.lt le_194)
  refine z_same (pc := 2605) (tgt := 2822) E rfl dL_law_2605 (by decide) ?_
  refine W.widen (k := cells + 1) (n := slots + 6) (by omega) (by omega) ?_
  exact kk H locs ls ⟨⟨_, _, _, _, _, _, _, _, _, hQ, hW, hR.wr (ok_Rep hR.ok) rfl rfl hR.e6 hR.m6 rfl hR.e14 rfl rfl⟩, ⟨_, hA⟩, ⟨_, hD⟩⟩ hS (lv_sub hl [0, 1, 2, 3, 4, 5] rfl)
set_option maxHeartbeats 1000000 in
set_option maxRecDepth 100000 in
theorem cs_writePath {p : Program} {l : Launch} {e : Env} {s : State} {m : MethodId} {below : List Frame} {meth : Method} {c : Code} {G : GG} {b L : Nat} {xs : Nat → Int32} {aK aV : Nat → Nat} (X : LX p l s m c G b L xs aK aV) {n : Nat} {i : Int} {H : Heap} {locs : List Loc} {ls : Array Slot} {cells slots : Nat} {Q : State → Prop} (hn : n ≤ 600) (hi : 0 ≤ i ∧ i + 6 ≤ (L : Int)) (hH : LH G n s.heap.size H) (hS : va_S (fun q => s.heap.size ≤ q) s.heap H locs) (hl : lv_has ls 8 [(0, .ref b), (1, .ref (qo s.heap.size 0)), (2, .ref (s.heap.size + 187 + 0)), (3, .ref (s.heap.size + 193)), (4, .ref (s.heap.size + 194)), (5, .int (iI i))]) (hc : cells + 1 ≤ room_1.cells) (hsl : slots + 6 ≤ room_1.slots) (kk : ∀ (H : Heap) (locs : List Loc) (ls : Array Slot), LH G (n + 1) s.heap.size H → va_S (fun q => s.heap.size ≤ q) s.heap H locs → lv_has ls 8 [(0, .ref b), (1, .ref (qo s.heap.size 0)), (2, .ref (s.heap.size + 187 + 0)), (3, .ref (s.heap.size + 193)), (4, .ref (s.heap.size + 194)), (5, .int (iI i))] → W p l e room_1 s m #[Value.ref b] below meth c H locs (cells + 1) (slots + 6) Q (F0 m 2822 ls [])) : W p l e room_1 s m #[Value.ref b] below meth c H locs cells slots Q (F0 m 2610 ls []) := by
  obtain ⟨E, hml, hown, hts, hK, hX0, hx, hb, hst, hL, hks⟩ := X
  obtain ⟨⟨ν, σ, π, δ, β, ω, μ, φ, κ, hQ, hW, hR⟩, ⟨fq, hA⟩, ⟨xq, hD⟩⟩ := hH
  have hX : KX FF0 s H := (hX0.kept (fun a ha hna => hS.2.1 a ha hna)).narrow (fun q h => h.elim)
  have hbA : ¬ (s.heap.size ≤ b) := by omega
  refine lv_aload_n (pc := 2610) E.1 E.2 dL_law_2610 rfl (lv_at hl 1 rfl) ?_
  refine lv_aload_n (pc := 2611) E.1 E.2 dL_law_2611 rfl (lv_at hl 0 rfl) ?_
  refine lv_iload (pc := 2612) E.1 E.2 dL_law_2612 (lv_at hl 5 rfl) ?_
  refine z_iconst (pc := 2614) E dL_law_2614 ?_
  refine z_iadd (pc := 2615) E dL_law_2615 ?_
  refine z_sld (pc := 2616) E hx hb hbA hS ⟨by omega, by omega⟩ hL dL_law_2616 ?_
  refine lv_aload_n (pc := 2617) E.1 E.2 dL_law_2617 rfl (lv_at hl 3 rfl) ?_
  by_cases hk : (kxFo σ (sx xs (i + 1))) = 0
  · refine z_lwc (pc := 2618) (As := [.ref (qo s.heap.size 0), .int (iI (sx xs (i + 1))), .ref (s.heap.size + 193)]) (rest := []) E hml hown hts (mL_writePath l G (qo s.heap.size) ν σ π δ (fun j => sg8 (β j)) ω (sx xs (i + 1)) hR.ok.1 (sx_b _ _) hk (s.heap.size + 193) fq (fun k hk => by have := qo_b s.heap.size hk; omega)) (vx_cwSW 3 hts gL_law_L_writePath rfl rfl rfl vdL_writePath.2 ⟨Nat.le_of_ble_eq_true rfl, Nat.le_of_ble_eq_true rfl⟩) ⟨hQ, hA⟩ hK hX hS (fun q h => la_193 h) rfl hl.1 rfl dL_law_2618 ⟨by omega, by omega⟩ (Nat.le_of_ble_eq_true rfl) (fun H locs hQA hsz hoth hS => ?_)
    obtain ⟨hQ, hA⟩ := hQA
    have hW := hW.kp (fun k hk => hoth _ (hW.lt k hk) (lb_193 hk))
    have hD := hD.kp (hoth _ hD.lt lc_193)
    refine lv_istore (pc := 2621) (lv' := [(6, .int (iI (0))), (0, .ref (b)), (1, .ref (qo s.heap.size 0)), (2, .ref (s.heap.size + 187 + 0)), (3, .ref (s.heap.size + 193)), (4, .ref (s.heap.size + 194)), (5, .int (iI (i)))]) E.1 E.2 dL_law_2621 hl (by decide) rfl (fun ls hl => ?_)
    refine lv_aload_n (pc := 2623) E.1 E.2 dL_law_2623 rfl (lv_at hl 3 rfl) ?_
    refine lv_aload_n (pc := 2624) E.1 E.2 dL_law_2624 rfl (lv_at hl 1 rfl) ?_
    refine lv_iload (pc := 2625) E.1 E.2 dL_law_2625 (lv_at hl 6 rfl) ?_
    refine z_iconst (pc := 2627) E dL_law_2627 ?_
    refine z_iadd (pc := 2628) E dL_law_2628 ?_
    refine z_sld (pc := 2629) E hx hb hbA hS ⟨by omega, by omega⟩ hL dL_law_2629 ?_
    refine z_wVi (pc := 2630) (As := [.int (iI (sx xs (i + 1)))]) (rest := []) E hml hown hts (mX8_writePath l G (fun k => s.heap.size + 187 + k) μ σ φ κ β ω (sx xs (i + 1)) hR.ok.1 (sx_b _ _) (kxFo_ok hk)) (cwV 1 hts gL_law_X8_writePath rfl rfl rfl vdX8_writePath ⟨Nat.le_of_ble_eq_true rfl, Nat.le_of_ble_eq_true rfl⟩) (hW.1.recv hK rfl) hW hK hS (fun q h => la_8 h) rfl hl.1 rfl dL_law_2630 ⟨by omega, by omega⟩ (Nat.le_of_ble_eq_true rfl) (fun H locs hW hsz hoth hS => ?_)
    have hQ := hQ.kp (fun k hk => hoth _ (hQ.lt k hk) (lb_8 hk))
    have hA := hA.kp (hoth _ hA.lt le_193)
    have hD := hD.kp (hoth _ hD.lt le_194)
    refine lv_istore (pc := 2633) (lv' := [(7, .int (iI (((paL σ 39 (sx xs (i + 1))).length : Int)))), (6, .int (iI (0))), (0, .ref (b)), (1, .ref (qo s.heap.size 0)), (2, .ref (s.heap.size + 187 + 0)), (3, .ref (s.heap.size + 193)), (4, .ref (s.heap.size + 194)), (5, .int (iI (i)))]) E.1 E.2 dL_law_2633 hl (by decide) rfl (fun ls hl => ?_)
    refine lv_aload_n (pc := 2635) E.1 E.2 dL_law_2635 rfl (lv_at hl 4 rfl) ?_
    refine z_rVi (pc := 2636) (As := []) (rest := []) E hml hown hts (mX8_thrown l G (fun k => s.heap.size + 187 + k) _ _ _ _ _ _) (cwV 0 hts gL_law_X8_thrown rfl rfl rfl vdX8_thrown ⟨Nat.le_of_ble_eq_true rfl, Nat.le_of_ble_eq_true rfl⟩) (hW.1.recv hK rfl) hW hK rfl hl.1 rfl dL_law_2636 ⟨by omega, by omega⟩ (Nat.le_of_ble_eq_true rfl) ?_
    refine lv_iload (pc := 2639) E.1 E.2 dL_law_2639 (lv_at hl 1 rfl) ?_
    refine z_same (pc := 2641) (tgt := 2646) E rfl dL_law_2641 (by decide) ?_
    refine lv_iload (pc := 2646) E.1 E.2 dL_law_2646 (lv_at hl 1 rfl) ?_
    refine z_if_ne (pc := 2648) (tgt := 2663) E (by decide) dL_law_2648 (by decide) (fun h => absurd rfl h) (fun _ => ?_)
    refine lv_aload_n (pc := 2651) E.1 E.2 dL_law_2651 rfl (lv_at hl 5 rfl) ?_
    refine z_iconst (pc := 2652) E dL_law_2652 ?_
    refine z_laloadE (pc := 2653) E hK hA (by decide) (by decide) (show zu fq 0 (rI (((paL σ 39 (sx xs (i + 1))).length : Int))) 0 = rI (((paL σ 39 (sx xs (i + 1))).length : Int)) from if_pos rfl) dL_law_2653 ?_
    refine lv_iload (pc := 2654) E.1 E.2 dL_law_2654 (lv_at hl 0 rfl) ?_
    refine z_i2lR (pc := 2656) E dL_law_2656 ?_
    refine z_sameL (pc := 2657) (tgt := 2663) E rfl dL_law_2657 dL_law_2658 (by decide) ?_
    refine lv_goto (pc := 2663) (tgt := 2822) E.1 E.2 dL_law_2663 (by decide) ?_
    refine W.widen (k := cells + 1) (n := slots + 6) (by omega) (by omega) ?_
    exact kk H locs ls ⟨⟨_, _, _, _, _, _, _, _, _, hQ, hW, hR.ou (by have h := (paL_b σ 39 (sx xs (i + 1))).2; omega) (paL_v hR.ok.1 39 _ (kxFo_ok hk).1 (kxFo_ok hk).2) rfl rfl rfl rfl rfl rfl rfl rfl rfl⟩, ⟨_, hA⟩, ⟨_, hD⟩⟩ hS (lv_sub hl [2, 3, 4, 5, 6, 7] rfl)
  · refine z_lwc (pc := 2618) (As := [.ref (qo s.heap.size 0), .int (iI (sx xs (i + 1))), .ref (s.heap.size + 193)]) (rest := []) E hml hown hts (mbL_writePath l hst G (qo s.heap.size) ν σ π δ (fun j => sg8 (β j)) ω (sx xs (i + 1)) hR.ok.1 (sx_b _ _) hk (s.heap.size + 193) fq) (vx_cwSW 3 hts gL_law_L_writePath rfl rfl rfl vdL_writePath.2 ⟨Nat.le_of_ble_eq_true rfl, Nat.le_of_ble_eq_true rfl⟩) ⟨hQ, hA⟩ hK hX hS (fun q h => h.elim) rfl hl.1 rfl dL_law_2618 ⟨by omega, by omega⟩ (Nat.le_of_ble_eq_true rfl) (fun H locs hQA hsz hoth hS => ?_)
    obtain ⟨hQ, hA⟩ := hQA
    have hW := hW.kp (fun k hk => hoth _ (hW.lt k hk) (fun h => h))
    have hD := hD.kp (hoth _ hD.lt (fun h => h))
    have hkb : -2147483648 ≤ (kxFo σ (sx xs (i + 1))) ∧ (kxFo σ (sx xs (i + 1))) < 2147483648 := by unfold kxFo; (try unfold kxPK); (repeat' split) <;> decide
    have hkn : ¬ (kxFo σ (sx xs (i + 1))) = 0 := hk
    refine lv_istore (pc := 2621) (lv' := [(6, .int (iI ((kxFo σ (sx xs (i + 1)))))), (0, .ref (b)), (1, .ref (qo s.heap.size 0)), (2, .ref (s.heap.size + 187 + 0)), (3, .ref (s.heap.size + 193)), (4, .ref (s.heap.size + 194)), (5, .int (iI (i)))]) E.1 E.2 dL_law_2621 hl (by decide) rfl (fun ls hl => ?_)
    refine lv_aload_n (pc := 2623) E.1 E.2 dL_law_2623 rfl (lv_at hl 3 rfl) ?_
    refine lv_aload_n (pc := 2624) E.1 E.2 dL_law_2624 rfl (lv_at hl 1 rfl) ?_
    refine lv_iload (pc := 2625) E.1 E.2 dL_law_2625 (lv_at hl 6 rfl) ?_
    refine z_iconst (pc := 2627) E dL_law_2627 ?_
    refine z_iadd (pc := 2628) E dL_law_2628 ?_
    refine z_sld (pc := 2629) E hx hb hbA hS ⟨by omega, by omega⟩ hL dL_law_2629 ?_
    refine z_wVi (pc := 2630) (As := [.int (iI (sx xs (i + 1)))]) (rest := []) E hml hown hts (mX8_writePathN l G (fun k => s.heap.size + 187 + k) μ σ φ κ β ω (sx xs (i + 1)) hR.ok.1 (sx_b _ _) (fun h => hk (by unfold kxFo; exact if_pos h))) (cwV 1 hts gL_law_X8_writePath rfl rfl rfl vdX8_writePath ⟨Nat.le_of_ble_eq_true rfl, Nat.le_of_ble_eq_true rfl⟩) (hW.1.recv hK rfl) hW hK hS (fun q h => la_8 h) rfl hl.1 rfl dL_law_2630 ⟨by omega, by omega⟩ (Nat.le_of_ble_eq_true rfl) (fun H locs hW hsz hoth hS => ?_)
    have hQ := hQ.kp (fun k hk => hoth _ (hQ.lt k hk) (lb_8 hk))
    have hA := hA.kp (hoth _ hA.lt le_193)
    have hD := hD.kp (hoth _ hD.lt le_194)
    refine lv_istore (pc := 2633) (lv' := [(7, .int (iI (0))), (6, .int (iI ((kxFo σ (sx xs (i + 1)))))), (0, .ref (b)), (1, .ref (qo s.heap.size 0)), (2, .ref (s.heap.size + 187 + 0)), (3, .ref (s.heap.size + 193)), (4, .ref (s.heap.size + 194)), (5, .int (iI (i)))]) E.1 E.2 dL_law_2633 hl (by decide) rfl (fun ls hl => ?_)
    refine lv_aload_n (pc := 2635) E.1 E.2 dL_law_2635 rfl (lv_at hl 4 rfl) ?_
    refine z_rVi (pc := 2636) (As := []) (rest := []) E hml hown hts (mX8_thrown l G (fun k => s.heap.size + 187 + k) _ _ _ _ _ _) (cwV 0 hts gL_law_X8_thrown rfl rfl rfl vdX8_thrown ⟨Nat.le_of_ble_eq_true rfl, Nat.le_of_ble_eq_true rfl⟩) (hW.1.recv hK rfl) hW hK rfl hl.1 rfl dL_law_2636 ⟨by omega, by omega⟩ (Nat.le_of_ble_eq_true rfl) ?_
    refine lv_iload (pc := 2639) E.1 E.2 dL_law_2639 (lv_at hl 1 rfl) ?_
    refine z_same (pc := 2641) (tgt := 2646) E (show (1 : Int) = (kxFo σ (sx xs (i + 1))) from (by unfold kxFo at hk ⊢; split <;> first | rfl | (rename_i q; exact absurd (if_pos q) hk))) dL_law_2641 (by decide) ?_
    refine lv_iload (pc := 2646) E.1 E.2 dL_law_2646 (lv_at hl 1 rfl) ?_
    refine z_if_ne (pc := 2648) (tgt := 2663) E hkb dL_law_2648 (by decide) (fun _ => ?_) (fun h => absurd h hkn)
    refine lv_goto (pc := 2663) (tgt := 2822) E.1 E.2 dL_law_2663 (by decide) ?_
    refine W.widen (k := cells + 1) (n := slots + 6) (by omega) (by omega) ?_
    exact kk H locs ls ⟨⟨_, _, _, _, _, _, _, _, _, hQ, hW, hR.id rfl rfl rfl rfl⟩, ⟨_, hA⟩, ⟨_, hD⟩⟩ hS (lv_sub hl [2, 3, 4, 5, 6, 7] rfl)
set_option maxHeartbeats 1000000 in
set_option maxRecDepth 100000 in
theorem cs_writeAccounts {p : Program} {l : Launch} {e : Env} {s : State} {m : MethodId} {below : List Frame} {meth : Method} {c : Code} {G : GG} {b L : Nat} {xs : Nat → Int32} {aK aV : Nat → Nat} (X : LX p l s m c G b L xs aK aV) {n : Nat} {i : Int} {H : Heap} {locs : List Loc} {ls : Array Slot} {cells slots : Nat} {Q : State → Prop} (hn : n ≤ 600) (hi : 0 ≤ i ∧ i + 6 ≤ (L : Int)) (hH : LH G n s.heap.size H) (hS : va_S (fun q => s.heap.size ≤ q) s.heap H locs) (hl : lv_has ls 8 [(0, .ref b), (1, .ref (qo s.heap.size 0)), (2, .ref (s.heap.size + 187 + 0)), (3, .ref (s.heap.size + 193)), (4, .ref (s.heap.size + 194)), (5, .int (iI i))]) (hc : cells + 1 ≤ room_1.cells) (hsl : slots + 6 ≤ room_1.slots) (kk : ∀ (H : Heap) (locs : List Loc) (ls : Array Slot), LH G (n + 1) s.heap.size H → va_S (fun q => s.heap.size ≤ q) s.heap H locs → lv_has ls 8 [(0, .ref b), (1, .ref (qo s.heap.size 0)), (2, .ref (s.heap.size + 187 + 0)), (3, .ref (s.heap.size + 193)), (4, .ref (s.heap.size + 194)), (5, .int (iI i))] → W p l e room_1 s m #[Value.ref b] below meth c H locs (cells + 1) (slots + 6) Q (F0 m 2822 ls [])) : W p l e room_1 s m #[Value.ref b] below meth c H locs cells slots Q (F0 m 2666 ls []) := by
  obtain ⟨E, hml, hown, hts, hK, hX0, hx, hb, hst, hL, hks⟩ := X
  obtain ⟨⟨ν, σ, π, δ, β, ω, μ, φ, κ, hQ, hW, hR⟩, ⟨fq, hA⟩, ⟨xq, hD⟩⟩ := hH
  have hX : KX FF0 s H := (hX0.kept (fun a ha hna => hS.2.1 a ha hna)).narrow (fun q h => h.elim)
  have hbA : ¬ (s.heap.size ≤ b) := by omega
  refine lv_aload_n (pc := 2666) E.1 E.2 dL_law_2666 rfl (lv_at hl 1 rfl) ?_
  refine lv_aload_n (pc := 2667) E.1 E.2 dL_law_2667 rfl (lv_at hl 0 rfl) ?_
  refine lv_iload (pc := 2668) E.1 E.2 dL_law_2668 (lv_at hl 5 rfl) ?_
  refine z_iconst (pc := 2670) E dL_law_2670 ?_
  refine z_iadd (pc := 2671) E dL_law_2671 ?_
  refine z_sld (pc := 2672) E hx hb hbA hS ⟨by omega, by omega⟩ hL dL_law_2672 ?_
  refine lv_aload_n (pc := 2673) E.1 E.2 dL_law_2673 rfl (lv_at hl 3 rfl) ?_
  by_cases hk : (kxWA (sx xs (i + 1))) = 0
  · refine z_lwc (pc := 2674) (As := [.ref (qo s.heap.size 0), .int (iI (sx xs (i + 1))), .ref (s.heap.size + 193)]) (rest := []) E hml hown hts (mL_writeAccounts l G (qo s.heap.size) ν σ π δ (fun j => sg8 (β j)) ω (sx xs (i + 1)) hR.ok.1 (sx_b _ _) hk (s.heap.size + 193) fq (fun k hk => by have := qo_b s.heap.size hk; omega)) (vx_cwSW 3 hts gL_law_L_writeAccounts rfl rfl rfl vdL_writeAccounts.2 ⟨Nat.le_of_ble_eq_true rfl, Nat.le_of_ble_eq_true rfl⟩) ⟨hQ, hA⟩ hK hX hS (fun q h => la_193 h) rfl hl.1 rfl dL_law_2674 ⟨by omega, by omega⟩ (Nat.le_of_ble_eq_true rfl) (fun H locs hQA hsz hoth hS => ?_)
    obtain ⟨hQ, hA⟩ := hQA
    have hW := hW.kp (fun k hk => hoth _ (hW.lt k hk) (lb_193 hk))
    have hD := hD.kp (hoth _ hD.lt lc_193)
    refine lv_istore (pc := 2677) (lv' := [(6, .int (iI (0))), (0, .ref (b)), (1, .ref (qo s.heap.size 0)), (2, .ref (s.heap.size + 187 + 0)), (3, .ref (s.heap.size + 193)), (4, .ref (s.heap.size + 194)), (5, .int (iI (i)))]) E.1 E.2 dL_law_2677 hl (by decide) rfl (fun ls hl => ?_)
    refine lv_aload_n (pc := 2679) E.1 E.2 dL_law_2679 rfl (lv_at hl 3 rfl) ?_
    refine lv_aload_n (pc := 2680) E.1 E.2 dL_law_2680 rfl (lv_at hl 1 rfl) ?_
    refine lv_iload (pc := 2681) E.1 E.2 dL_law_2681 (lv_at hl 6 rfl) ?_
    refine z_iconst (pc := 2683) E dL_law_2683 ?_
    refine z_iadd (pc := 2684) E dL_law_2684 ?_
    refine z_sld (pc := 2685) E hx hb hbA hS ⟨by omega, by omega⟩ hL dL_law_2685 ?_
    refine z_wVi (pc := 2686) (As := [.int (iI (sx xs (i + 1)))]) (rest := []) E hml hown hts (mX8_writeAccounts l G (fun k => s.heap.size + 187 + k) μ σ φ κ β ω (sx xs (i + 1)) hR.ok.1 (sx_b _ _) (kxWA_ok hk)) (cwV 1 hts gL_law_X8_writeAccounts rfl rfl rfl vdX8_writeAccounts ⟨Nat.le_of_ble_eq_true rfl, Nat.le_of_ble_eq_true rfl⟩) (hW.1.recv hK rfl) hW hK hS (fun q h => la_8 h) rfl hl.1 rfl dL_law_2686 ⟨by omega, by omega⟩ (Nat.le_of_ble_eq_true rfl) (fun H locs hW hsz hoth hS => ?_)
    have hQ := hQ.kp (fun k hk => hoth _ (hQ.lt k hk) (lb_8 hk))
    have hA := hA.kp (hoth _ hA.lt le_193)
    have hD := hD.kp (hoth _ hD.lt le_194)
    refine lv_istore (pc := 2689) (lv' := [(7, .int (iI (((waL σ (sx xs (i + 1))).length : Int)))), (6, .int (iI (0))), (0, .ref (b)), (1, .ref (qo s.heap.size 0)), (2, .ref (s.heap.size + 187 + 0)), (3, .ref (s.heap.size + 193)), (4, .ref (s.heap.size + 194)), (5, .int (iI (i)))]) E.1 E.2 dL_law_2689 hl (by decide) rfl (fun ls hl => ?_)
    refine lv_aload_n (pc := 2691) E.1 E.2 dL_law_2691 rfl (lv_at hl 4 rfl) ?_
    refine z_rVi (pc := 2692) (As := []) (rest := []) E hml hown hts (mX8_thrown l G (fun k => s.heap.size + 187 + k) _ _ _ _ _ _) (cwV 0 hts gL_law_X8_thrown rfl rfl rfl vdX8_thrown ⟨Nat.le_of_ble_eq_true rfl, Nat.le_of_ble_eq_true rfl⟩) (hW.1.recv hK rfl) hW hK rfl hl.1 rfl dL_law_2692 ⟨by omega, by omega⟩ (Nat.le_of_ble_eq_true rfl) ?_
    refine lv_iload (pc := 2695) E.1 E.2 dL_law_2695 (lv_at hl 1 rfl) ?_
    refine z_same (pc := 2697) (tgt := 2702) E rfl dL_law_2697 (by decide) ?_
    refine lv_iload (pc := 2702) E.1 E.2 dL_law_2702 (lv_at hl 1 rfl) ?_
    refine z_if_ne (pc := 2704) (tgt := 2719) E (by decide) dL_law_2704 (by decide) (fun h => absurd rfl h) (fun _ => ?_)
    refine lv_aload_n (pc := 2707) E.1 E.2 dL_law_2707 rfl (lv_at hl 5 rfl) ?_
    refine z_iconst (pc := 2708) E dL_law_2708 ?_
    refine z_laloadE (pc := 2709) E hK hA (by decide) (by decide) (show zu fq 0 (rI (((waL σ (sx xs (i + 1))).length : Int))) 0 = rI (((waL σ (sx xs (i + 1))).length : Int)) from if_pos rfl) dL_law_2709 ?_
    refine lv_iload (pc := 2710) E.1 E.2 dL_law_2710 (lv_at hl 0 rfl) ?_
    refine z_i2lR (pc := 2712) E dL_law_2712 ?_
    refine z_sameL (pc := 2713) (tgt := 2719) E rfl dL_law_2713 dL_law_2714 (by decide) ?_
    refine lv_goto (pc := 2719) (tgt := 2822) E.1 E.2 dL_law_2719 (by decide) ?_
    refine W.widen (k := cells + 1) (n := slots + 6) (by omega) (by omega) ?_
    exact kk H locs ls ⟨⟨_, _, _, _, _, _, _, _, _, hQ, hW, hR.ou (by have h := (waL_b σ (sx xs (i + 1))).2; omega) (waL_v hR.ok.1 (kxWA_ok hk)) rfl rfl rfl rfl rfl rfl rfl rfl rfl⟩, ⟨_, hA⟩, ⟨_, hD⟩⟩ hS (lv_sub hl [2, 3, 4, 5, 6, 7] rfl)
  · refine z_lwc (pc := 2674) (As := [.ref (qo s.heap.size 0), .int (iI (sx xs (i + 1))), .ref (s.heap.size + 193)]) (rest := []) E hml hown hts (mbL_writeAccounts l hst G (qo s.heap.size) ν σ π δ (fun j => sg8 (β j)) ω (sx xs (i + 1)) hR.ok.1 (sx_b _ _) hk (s.heap.size + 193) fq) (vx_cwSW 3 hts gL_law_L_writeAccounts rfl rfl rfl vdL_writeAccounts.2 ⟨Nat.le_of_ble_eq_true rfl, Nat.le_of_ble_eq_true rfl⟩) ⟨hQ, hA⟩ hK hX hS (fun q h => h.elim) rfl hl.1 rfl dL_law_2674 ⟨by omega, by omega⟩ (Nat.le_of_ble_eq_true rfl) (fun H locs hQA hsz hoth hS => ?_)
    obtain ⟨hQ, hA⟩ := hQA
    have hW := hW.kp (fun k hk => hoth _ (hW.lt k hk) (fun h => h))
    have hD := hD.kp (hoth _ hD.lt (fun h => h))
    have hkb : -2147483648 ≤ (kxWA (sx xs (i + 1))) ∧ (kxWA (sx xs (i + 1))) < 2147483648 := by unfold kxWA; (try unfold kxPK); (repeat' split) <;> decide
    have hkn : ¬ (kxWA (sx xs (i + 1))) = 0 := hk
    refine lv_istore (pc := 2677) (lv' := [(6, .int (iI ((kxWA (sx xs (i + 1)))))), (0, .ref (b)), (1, .ref (qo s.heap.size 0)), (2, .ref (s.heap.size + 187 + 0)), (3, .ref (s.heap.size + 193)), (4, .ref (s.heap.size + 194)), (5, .int (iI (i)))]) E.1 E.2 dL_law_2677 hl (by decide) rfl (fun ls hl => ?_)
    refine lv_aload_n (pc := 2679) E.1 E.2 dL_law_2679 rfl (lv_at hl 3 rfl) ?_
    refine lv_aload_n (pc := 2680) E.1 E.2 dL_law_2680 rfl (lv_at hl 1 rfl) ?_
    refine lv_iload (pc := 2681) E.1 E.2 dL_law_2681 (lv_at hl 6 rfl) ?_
    refine z_iconst (pc := 2683) E dL_law_2683 ?_
    refine z_iadd (pc := 2684) E dL_law_2684 ?_
    refine z_sld (pc := 2685) E hx hb hbA hS ⟨by omega, by omega⟩ hL dL_law_2685 ?_
    refine z_wVi (pc := 2686) (As := [.int (iI (sx xs (i + 1)))]) (rest := []) E hml hown hts (mX8_writeAccountsN l G (fun k => s.heap.size + 187 + k) μ σ φ κ β ω (sx xs (i + 1)) (sx_b _ _) (fun h => hk (by unfold kxWA; exact if_pos h))) (cwV 1 hts gL_law_X8_writeAccounts rfl rfl rfl vdX8_writeAccounts ⟨Nat.le_of_ble_eq_true rfl, Nat.le_of_ble_eq_true rfl⟩) (hW.1.recv hK rfl) hW hK hS (fun q h => la_8 h) rfl hl.1 rfl dL_law_2686 ⟨by omega, by omega⟩ (Nat.le_of_ble_eq_true rfl) (fun H locs hW hsz hoth hS => ?_)
    have hQ := hQ.kp (fun k hk => hoth _ (hQ.lt k hk) (lb_8 hk))
    have hA := hA.kp (hoth _ hA.lt le_193)
    have hD := hD.kp (hoth _ hD.lt le_194)
    refine lv_istore (pc := 2689) (lv' := [(7, .int (iI (0))), (6, .int (iI ((kxWA (sx xs (i + 1)))))), (0, .ref (b)), (1, .ref (qo s.heap.size 0)), (2, .ref (s.heap.size + 187 + 0)), (3, .ref (s.heap.size + 193)), (4, .ref (s.heap.size + 194)), (5, .int (iI (i)))]) E.1 E.2 dL_law_2689 hl (by decide) rfl (fun ls hl => ?_)
    refine lv_aload_n (pc := 2691) E.1 E.2 dL_law_2691 rfl (lv_at hl 4 rfl) ?_
    refine z_rVi (pc := 2692) (As := []) (rest := []) E hml hown hts (mX8_thrown l G (fun k => s.heap.size + 187 + k) _ _ _ _ _ _) (cwV 0 hts gL_law_X8_thrown rfl rfl rfl vdX8_thrown ⟨Nat.le_of_ble_eq_true rfl, Nat.le_of_ble_eq_true rfl⟩) (hW.1.recv hK rfl) hW hK rfl hl.1 rfl dL_law_2692 ⟨by omega, by omega⟩ (Nat.le_of_ble_eq_true rfl) ?_
    refine lv_iload (pc := 2695) E.1 E.2 dL_law_2695 (lv_at hl 1 rfl) ?_
    refine z_same (pc := 2697) (tgt := 2702) E (show (1 : Int) = (kxWA (sx xs (i + 1))) from (by unfold kxWA at hk ⊢; split <;> first | rfl | (rename_i q; exact absurd (if_pos q) hk))) dL_law_2697 (by decide) ?_
    refine lv_iload (pc := 2702) E.1 E.2 dL_law_2702 (lv_at hl 1 rfl) ?_
    refine z_if_ne (pc := 2704) (tgt := 2719) E hkb dL_law_2704 (by decide) (fun _ => ?_) (fun h => absurd h hkn)
    refine lv_goto (pc := 2719) (tgt := 2822) E.1 E.2 dL_law_2719 (by decide) ?_
    refine W.widen (k := cells + 1) (n := slots + 6) (by omega) (by omega) ?_
    exact kk H locs ls ⟨⟨_, _, _, _, _, _, _, _, _, hQ, hW, hR.id rfl rfl rfl rfl⟩, ⟨_, hA⟩, ⟨_, hD⟩⟩ hS (lv_sub hl [2, 3, 4, 5, 6, 7] rfl)
set_option maxHeartbeats 1000000 in
set_option maxRecDepth 100000 in
theorem cs_writtenByte {p : Program} {l : Launch} {e : Env} {s : State} {m : MethodId} {below : List Frame} {meth : Method} {c : Code} {G : GG} {b L : Nat} {xs : Nat → Int32} {aK aV : Nat → Nat} (X : LX p l s m c G b L xs aK aV) {n : Nat} {i : Int} {H : Heap} {locs : List Loc} {ls : Array Slot} {cells slots : Nat} {Q : State → Prop} (hn : n ≤ 600) (hi : 0 ≤ i ∧ i + 6 ≤ (L : Int)) (hH : LH G n s.heap.size H) (hS : va_S (fun q => s.heap.size ≤ q) s.heap H locs) (hl : lv_has ls 8 [(0, .ref b), (1, .ref (qo s.heap.size 0)), (2, .ref (s.heap.size + 187 + 0)), (3, .ref (s.heap.size + 193)), (4, .ref (s.heap.size + 194)), (5, .int (iI i))]) (hc : cells + 1 ≤ room_1.cells) (hsl : slots + 6 ≤ room_1.slots) (kk : ∀ (H : Heap) (locs : List Loc) (ls : Array Slot), LH G (n + 1) s.heap.size H → va_S (fun q => s.heap.size ≤ q) s.heap H locs → lv_has ls 8 [(0, .ref b), (1, .ref (qo s.heap.size 0)), (2, .ref (s.heap.size + 187 + 0)), (3, .ref (s.heap.size + 193)), (4, .ref (s.heap.size + 194)), (5, .int (iI i))] → W p l e room_1 s m #[Value.ref b] below meth c H locs (cells + 1) (slots + 6) Q (F0 m 2822 ls [])) : W p l e room_1 s m #[Value.ref b] below meth c H locs cells slots Q (F0 m 2722 ls []) := by
  obtain ⟨E, hml, hown, hts, hK, hX0, hx, hb, hst, hL, hks⟩ := X
  obtain ⟨⟨ν, σ, π, δ, β, ω, μ, φ, κ, hQ, hW, hR⟩, ⟨fq, hA⟩, ⟨xq, hD⟩⟩ := hH
  have hX : KX FF0 s H := (hX0.kept (fun a ha hna => hS.2.1 a ha hna)).narrow (fun q h => h.elim)
  have hbA : ¬ (s.heap.size ≤ b) := by omega
  refine lv_aload_n (pc := 2722) E.1 E.2 dL_law_2722 rfl (lv_at hl 1 rfl) ?_
  refine lv_aload_n (pc := 2723) E.1 E.2 dL_law_2723 rfl (lv_at hl 0 rfl) ?_
  refine lv_iload (pc := 2724) E.1 E.2 dL_law_2724 (lv_at hl 5 rfl) ?_
  refine z_iconst (pc := 2726) E dL_law_2726 ?_
  refine z_iadd (pc := 2727) E dL_law_2727 ?_
  refine z_sld (pc := 2728) E hx hb hbA hS ⟨by omega, by omega⟩ hL dL_law_2728 ?_
  refine lv_aload_n (pc := 2729) E.1 E.2 dL_law_2729 rfl (lv_at hl 3 rfl) ?_
  by_cases hk : (kxWB (ν 31) (sx xs (i + 1))) = 0
  · refine z_lwc (pc := 2730) (As := [.ref (qo s.heap.size 0), .int (iI (sx xs (i + 1))), .ref (s.heap.size + 193)]) (rest := []) E hml hown hts (mL_writtenByte l G (qo s.heap.size) ν σ π δ (fun j => sg8 (β j)) ω (sx xs (i + 1)) hR.ok.1 (sx_b _ _) (by have h1 := hR.m17; have h2 := hR.e17; omega) hk (s.heap.size + 193) fq (fun k hk => by have := qo_b s.heap.size hk; omega)) (vx_cwSW 3 hts gL_law_L_writtenByte rfl rfl rfl vdL_writtenByte.2 ⟨Nat.le_of_ble_eq_true rfl, Nat.le_of_ble_eq_true rfl⟩) ⟨hQ, hA⟩ hK hX hS (fun q h => la_193 h) rfl hl.1 rfl dL_law_2730 ⟨by omega, by omega⟩ (Nat.le_of_ble_eq_true rfl) (fun H locs hQA hsz hoth hS => ?_)
    obtain ⟨hQ, hA⟩ := hQA
    have hW := hW.kp (fun k hk => hoth _ (hW.lt k hk) (lb_193 hk))
    have hD := hD.kp (hoth _ hD.lt lc_193)
    refine lv_istore (pc := 2733) (lv' := [(6, .int (iI (0))), (0, .ref (b)), (1, .ref (qo s.heap.size 0)), (2, .ref (s.heap.size + 187 + 0)), (3, .ref (s.heap.size + 193)), (4, .ref (s.heap.size + 194)), (5, .int (iI (i)))]) E.1 E.2 dL_law_2733 hl (by decide) rfl (fun ls hl => ?_)
    refine lv_aload_n (pc := 2735) E.1 E.2 dL_law_2735 rfl (lv_at hl 3 rfl) ?_
    refine lv_aload_n (pc := 2736) E.1 E.2 dL_law_2736 rfl (lv_at hl 1 rfl) ?_
    refine lv_iload (pc := 2737) E.1 E.2 dL_law_2737 (lv_at hl 6 rfl) ?_
    refine z_iconst (pc := 2739) E dL_law_2739 ?_
    refine z_iadd (pc := 2740) E dL_law_2740 ?_
    refine z_sld (pc := 2741) E hx hb hbA hS ⟨by omega, by omega⟩ hL dL_law_2741 ?_
    refine z_wVi (pc := 2742) (As := [.int (iI (sx xs (i + 1)))]) (rest := []) E hml hown hts (mX8_writtenByte l G (fun k => s.heap.size + 187 + k) μ σ φ κ β ω (sx xs (i + 1)) hR.ok.1 (sx_b _ _) hR.m17) (cwV 1 hts gL_law_X8_writtenByte rfl rfl rfl vdX8_writtenByte ⟨Nat.le_of_ble_eq_true rfl, Nat.le_of_ble_eq_true rfl⟩) (hW.1.recv hK rfl) hW hK hS (fun q h => la_8 h) rfl hl.1 rfl dL_law_2742 ⟨by omega, by omega⟩ (Nat.le_of_ble_eq_true rfl) (fun H locs hW hsz hoth hS => ?_)
    have hQ := hQ.kp (fun k hk => hoth _ (hQ.lt k hk) (lb_8 hk))
    have hA := hA.kp (hoth _ hA.lt le_193)
    have hD := hD.kp (hoth _ hD.lt le_194)
    have hk8 : kxWB (μ 17) (sx xs (i + 1)) = 0 := by rw [← hR.e17]; exact hk
    try simp only [if_pos hk8] at hW
    refine lv_istore (pc := 2745) (lv' := [(7, .int (iI ((if (kxWB (μ 17) (sx xs (i + 1))) = 0 then ω (sx xs (i + 1)) else 0)))), (6, .int (iI (0))), (0, .ref (b)), (1, .ref (qo s.heap.size 0)), (2, .ref (s.heap.size + 187 + 0)), (3, .ref (s.heap.size + 193)), (4, .ref (s.heap.size + 194)), (5, .int (iI (i)))]) E.1 E.2 dL_law_2745 hl (by decide) rfl (fun ls hl => ?_)
    refine lv_aload_n (pc := 2747) E.1 E.2 dL_law_2747 rfl (lv_at hl 4 rfl) ?_
    refine z_rVi (pc := 2748) (As := []) (rest := []) E hml hown hts (mX8_thrown l G (fun k => s.heap.size + 187 + k) _ _ _ _ _ _) (cwV 0 hts gL_law_X8_thrown rfl rfl rfl vdX8_thrown ⟨Nat.le_of_ble_eq_true rfl, Nat.le_of_ble_eq_true rfl⟩) (hW.1.recv hK rfl) hW hK rfl hl.1 rfl dL_law_2748 ⟨by omega, by omega⟩ (Nat.le_of_ble_eq_true rfl) ?_
    refine lv_iload (pc := 2751) E.1 E.2 dL_law_2751 (lv_at hl 1 rfl) ?_
    refine z_same (pc := 2753) (tgt := 2758) E hk8 dL_law_2753 (by decide) ?_
    refine lv_iload (pc := 2758) E.1 E.2 dL_law_2758 (lv_at hl 1 rfl) ?_
    refine z_if_ne (pc := 2760) (tgt := 2775) E (by decide) dL_law_2760 (by decide) (fun h => absurd rfl h) (fun _ => ?_)
    refine lv_aload_n (pc := 2763) E.1 E.2 dL_law_2763 rfl (lv_at hl 5 rfl) ?_
    refine z_iconst (pc := 2764) E dL_law_2764 ?_
    refine z_laloadE (pc := 2765) E hK hA (by decide) (by decide) (show zu fq 0 (rI ((ω (sx xs (i + 1)) % 256))) 0 = rI ((ω (sx xs (i + 1)) % 256)) from if_pos rfl) dL_law_2765 ?_
    refine lv_iload (pc := 2766) E.1 E.2 dL_law_2766 (lv_at hl 0 rfl) ?_
    refine z_i2lR (pc := 2768) E dL_law_2768 ?_
    refine z_sameL (pc := 2769) (tgt := 2775) E (by rw [if_pos hk8]; have h1 := kxWB_ok hk8; have h2 := hR.sig _ h1.1 h1.2; omega) dL_law_2769 dL_law_2770 (by decide) ?_
    refine lv_goto (pc := 2775) (tgt := 2822) E.1 E.2 dL_law_2775 (by decide) ?_
    refine W.widen (k := cells + 1) (n := slots + 6) (by omega) (by omega) ?_
    exact kk H locs ls ⟨⟨_, _, _, _, _, _, _, _, _, hQ, hW, hR.id rfl rfl rfl rfl⟩, ⟨_, hA⟩, ⟨_, hD⟩⟩ hS (lv_sub hl [2, 3, 4, 5, 6, 7] rfl)
  · refine z_lwc (pc := 2730) (As := [.ref (qo s.heap.size 0), .int (iI (sx xs (i + 1))), .ref (s.heap.size + 193)]) (rest := []) E hml hown hts (mbL_writtenByte l hst G (qo s.heap.size) ν σ π δ (fun j => sg8 (β j)) ω (sx xs (i + 1)) hR.ok.1 (sx_b _ _) (by have h1 := hR.m17; have h2 := hR.e17; omega) hk (s.heap.size + 193) fq) (vx_cwSW 3 hts gL_law_L_writtenByte rfl rfl rfl vdL_writtenByte.2 ⟨Nat.le_of_ble_eq_true rfl, Nat.le_of_ble_eq_true rfl⟩) ⟨hQ, hA⟩ hK hX hS (fun q h => h.elim) rfl hl.1 rfl dL_law_2730 ⟨by omega, by omega⟩ (Nat.le_of_ble_eq_true rfl) (fun H locs hQA hsz hoth hS => ?_)
    obtain ⟨hQ, hA⟩ := hQA
    have hW := hW.kp (fun k hk => hoth _ (hW.lt k hk) (fun h => h))
    have hD := hD.kp (hoth _ hD.lt (fun h => h))
    have hkb : -2147483648 ≤ (kxWB (ν 31) (sx xs (i + 1))) ∧ (kxWB (ν 31) (sx xs (i + 1))) < 2147483648 := by unfold kxWB; (try unfold kxPK); (repeat' split) <;> decide
    have hkn : ¬ (kxWB (ν 31) (sx xs (i + 1))) = 0 := hk
    refine lv_istore (pc := 2733) (lv' := [(6, .int (iI ((kxWB (ν 31) (sx xs (i + 1)))))), (0, .ref (b)), (1, .ref (qo s.heap.size 0)), (2, .ref (s.heap.size + 187 + 0)), (3, .ref (s.heap.size + 193)), (4, .ref (s.heap.size + 194)), (5, .int (iI (i)))]) E.1 E.2 dL_law_2733 hl (by decide) rfl (fun ls hl => ?_)
    refine lv_aload_n (pc := 2735) E.1 E.2 dL_law_2735 rfl (lv_at hl 3 rfl) ?_
    refine lv_aload_n (pc := 2736) E.1 E.2 dL_law_2736 rfl (lv_at hl 1 rfl) ?_
    refine lv_iload (pc := 2737) E.1 E.2 dL_law_2737 (lv_at hl 6 rfl) ?_
    refine z_iconst (pc := 2739) E dL_law_2739 ?_
    refine z_iadd (pc := 2740) E dL_law_2740 ?_
    refine z_sld (pc := 2741) E hx hb hbA hS ⟨by omega, by omega⟩ hL dL_law_2741 ?_
    refine z_wVi (pc := 2742) (As := [.int (iI (sx xs (i + 1)))]) (rest := []) E hml hown hts (mX8_writtenByte l G (fun k => s.heap.size + 187 + k) μ σ φ κ β ω (sx xs (i + 1)) hR.ok.1 (sx_b _ _) hR.m17) (cwV 1 hts gL_law_X8_writtenByte rfl rfl rfl vdX8_writtenByte ⟨Nat.le_of_ble_eq_true rfl, Nat.le_of_ble_eq_true rfl⟩) (hW.1.recv hK rfl) hW hK hS (fun q h => la_8 h) rfl hl.1 rfl dL_law_2742 ⟨by omega, by omega⟩ (Nat.le_of_ble_eq_true rfl) (fun H locs hW hsz hoth hS => ?_)
    have hQ := hQ.kp (fun k hk => hoth _ (hQ.lt k hk) (lb_8 hk))
    have hA := hA.kp (hoth _ hA.lt le_193)
    have hD := hD.kp (hoth _ hD.lt le_194)
    have hk8 : ¬ kxWB (μ 17) (sx xs (i + 1)) = 0 := by rw [← hR.e17]; exact hk
    try simp only [if_neg hk8] at hW
    refine lv_istore (pc := 2745) (lv' := [(7, .int (iI ((if (kxWB (μ 17) (sx xs (i + 1))) = 0 then ω (sx xs (i + 1)) else 0)))), (6, .int (iI ((kxWB (ν 31) (sx xs (i + 1)))))), (0, .ref (b)), (1, .ref (qo s.heap.size 0)), (2, .ref (s.heap.size + 187 + 0)), (3, .ref (s.heap.size + 193)), (4, .ref (s.heap.size + 194)), (5, .int (iI (i)))]) E.1 E.2 dL_law_2745 hl (by decide) rfl (fun ls hl => ?_)
    refine lv_aload_n (pc := 2747) E.1 E.2 dL_law_2747 rfl (lv_at hl 4 rfl) ?_
    refine z_rVi (pc := 2748) (As := []) (rest := []) E hml hown hts (mX8_thrown l G (fun k => s.heap.size + 187 + k) _ _ _ _ _ _) (cwV 0 hts gL_law_X8_thrown rfl rfl rfl vdX8_thrown ⟨Nat.le_of_ble_eq_true rfl, Nat.le_of_ble_eq_true rfl⟩) (hW.1.recv hK rfl) hW hK rfl hl.1 rfl dL_law_2748 ⟨by omega, by omega⟩ (Nat.le_of_ble_eq_true rfl) ?_
    refine lv_iload (pc := 2751) E.1 E.2 dL_law_2751 (lv_at hl 1 rfl) ?_
    refine z_same (pc := 2753) (tgt := 2758) E (by rw [hR.e17]; rfl) dL_law_2753 (by decide) ?_
    refine lv_iload (pc := 2758) E.1 E.2 dL_law_2758 (lv_at hl 1 rfl) ?_
    refine z_if_ne (pc := 2760) (tgt := 2775) E hkb dL_law_2760 (by decide) (fun _ => ?_) (fun h => absurd h hkn)
    refine lv_goto (pc := 2775) (tgt := 2822) E.1 E.2 dL_law_2775 (by decide) ?_
    refine W.widen (k := cells + 1) (n := slots + 6) (by omega) (by omega) ?_
    exact kk H locs ls ⟨⟨_, _, _, _, _, _, _, _, _, hQ, hW, hR.id rfl rfl rfl rfl⟩, ⟨_, hA⟩, ⟨_, hD⟩⟩ hS (lv_sub hl [2, 3, 4, 5, 6, 7] rfl)
set_option maxHeartbeats 1000000 in
set_option maxRecDepth 100000 in
theorem cs_undo {p : Program} {l : Launch} {e : Env} {s : State} {m : MethodId} {below : List Frame} {meth : Method} {c : Code} {G : GG} {b L : Nat} {xs : Nat → Int32} {aK aV : Nat → Nat} (X : LX p l s m c G b L xs aK aV) {n : Nat} {i : Int} {H : Heap} {locs : List Loc} {ls : Array Slot} {cells slots : Nat} {Q : State → Prop} (hn : n ≤ 600) (hi : 0 ≤ i ∧ i + 6 ≤ (L : Int)) (hH : LH G n s.heap.size H) (hS : va_S (fun q => s.heap.size ≤ q) s.heap H locs) (hl : lv_has ls 8 [(0, .ref b), (1, .ref (qo s.heap.size 0)), (2, .ref (s.heap.size + 187 + 0)), (3, .ref (s.heap.size + 193)), (4, .ref (s.heap.size + 194)), (5, .int (iI i))]) (hc : cells + 1 ≤ room_1.cells) (hsl : slots + 6 ≤ room_1.slots) (kk : ∀ (H : Heap) (locs : List Loc) (ls : Array Slot), LH G (n + 1) s.heap.size H → va_S (fun q => s.heap.size ≤ q) s.heap H locs → lv_has ls 8 [(0, .ref b), (1, .ref (qo s.heap.size 0)), (2, .ref (s.heap.size + 187 + 0)), (3, .ref (s.heap.size + 193)), (4, .ref (s.heap.size + 194)), (5, .int (iI i))] → W p l e room_1 s m #[Value.ref b] below meth c H locs (cells + 1) (slots + 6) Q (F0 m 2822 ls [])) : W p l e room_1 s m #[Value.ref b] below meth c H locs cells slots Q (F0 m 2778 ls []) := by
  obtain ⟨E, hml, hown, hts, hK, hX0, hx, hb, hst, hL, hks⟩ := X
  obtain ⟨⟨ν, σ, π, δ, β, ω, μ, φ, κ, hQ, hW, hR⟩, ⟨fq, hA⟩, ⟨xq, hD⟩⟩ := hH
  have hX : KX FF0 s H := (hX0.kept (fun a ha hna => hS.2.1 a ha hna)).narrow (fun q h => h.elim)
  have hbA : ¬ (s.heap.size ≤ b) := by omega
  refine lv_aload_n (pc := 2778) E.1 E.2 dL_law_2778 rfl (lv_at hl 1 rfl) ?_
  refine lv_aload_n (pc := 2779) E.1 E.2 dL_law_2779 rfl (lv_at hl 3 rfl) ?_
  by_cases hk : (kxUndo (ν 3)) = 0
  · refine z_lwc (pc := 2780) (As := [.ref (qo s.heap.size 0), .ref (s.heap.size + 193)]) (rest := []) E hml hown hts (mL_undo l G (qo s.heap.size) ν σ π δ (fun j => sg8 (β j)) ω hR.ok.1 hR.hu hk (by have h1 := hR.n2; have h2 := hR.m3; have h3 := hR.e3; have h4 := kxUndo_ok hk; omega) (s.heap.size + 193) fq (fun k hk => by have := qo_b s.heap.size hk; omega)) (vx_cwSW 2 hts gL_law_L_undo rfl rfl rfl vdL_undo.2 ⟨Nat.le_of_ble_eq_true rfl, Nat.le_of_ble_eq_true rfl⟩) ⟨hQ, hA⟩ hK hX hS (fun q h => la_193 h) rfl hl.1 rfl dL_law_2780 ⟨by omega, by omega⟩ (Nat.le_of_ble_eq_true rfl) (fun H locs hQA hsz hoth hS => ?_)
    obtain ⟨hQ, hA⟩ := hQA
    have hW := hW.kp (fun k hk => hoth _ (hW.lt k hk) (lb_193 hk))
    have hD := hD.kp (hoth _ hD.lt lc_193)
    refine lv_istore (pc := 2783) (lv' := [(6, .int (iI (0))), (0, .ref (b)), (1, .ref (qo s.heap.size 0)), (2, .ref (s.heap.size + 187 + 0)), (3, .ref (s.heap.size + 193)), (4, .ref (s.heap.size + 194)), (5, .int (iI (i)))]) E.1 E.2 dL_law_2783 hl (by decide) rfl (fun ls hl => ?_)
    refine lv_aload_n (pc := 2785) E.1 E.2 dL_law_2785 rfl (lv_at hl 3 rfl) ?_
    refine z_wVi (pc := 2786) (As := []) (rest := []) E hml hown hts (mX8_undo l G (fun k => s.heap.size + 187 + k) μ σ φ κ β ω hR.ok.1 hR.m3) (cwV 0 hts gL_law_X8_undo rfl rfl rfl vdX8_undo ⟨Nat.le_of_ble_eq_true rfl, Nat.le_of_ble_eq_true rfl⟩) (hW.1.recv hK rfl) hW hK hS (fun q h => la_8 h) rfl hl.1 rfl dL_law_2786 ⟨by omega, by omega⟩ (Nat.le_of_ble_eq_true rfl) (fun H locs hW hsz hoth hS => ?_)
    have hQ := hQ.kp (fun k hk => hoth _ (hQ.lt k hk) (lb_8 hk))
    have hA := hA.kp (hoth _ hA.lt le_193)
    have hD := hD.kp (hoth _ hD.lt le_194)
    have hk8 : kxUndo (μ 3) = 0 := by rw [← hR.e3]; exact hk
    try simp only [if_pos hk8] at hW
    refine lv_istore (pc := 2789) (lv' := [(7, .int (iI ((if (kxUndo (μ 3)) = 0 then μ 3 - 1 else 0)))), (6, .int (iI (0))), (0, .ref (b)), (1, .ref (qo s.heap.size 0)), (2, .ref (s.heap.size + 187 + 0)), (3, .ref (s.heap.size + 193)), (4, .ref (s.heap.size + 194)), (5, .int (iI (i)))]) E.1 E.2 dL_law_2789 hl (by decide) rfl (fun ls hl => ?_)
    refine lv_aload_n (pc := 2791) E.1 E.2 dL_law_2791 rfl (lv_at hl 4 rfl) ?_
    refine z_rVi (pc := 2792) (As := []) (rest := []) E hml hown hts (mX8_thrown l G (fun k => s.heap.size + 187 + k) _ _ _ _ _ _) (cwV 0 hts gL_law_X8_thrown rfl rfl rfl vdX8_thrown ⟨Nat.le_of_ble_eq_true rfl, Nat.le_of_ble_eq_true rfl⟩) (hW.1.recv hK rfl) hW hK rfl hl.1 rfl dL_law_2792 ⟨by omega, by omega⟩ (Nat.le_of_ble_eq_true rfl) ?_
    refine lv_iload (pc := 2795) E.1 E.2 dL_law_2795 (lv_at hl 1 rfl) ?_
    refine z_same (pc := 2797) (tgt := 2802) E hk8 dL_law_2797 (by decide) ?_
    refine lv_iload (pc := 2802) E.1 E.2 dL_law_2802 (lv_at hl 1 rfl) ?_
    refine z_if_ne (pc := 2804) (tgt := 2819) E (by decide) dL_law_2804 (by decide) (fun h => absurd rfl h) (fun _ => ?_)
    refine lv_aload_n (pc := 2807) E.1 E.2 dL_law_2807 rfl (lv_at hl 5 rfl) ?_
    refine z_iconst (pc := 2808) E dL_law_2808 ?_
    refine z_laloadE (pc := 2809) E hK hA (by decide) (by decide) (show zu fq 0 (rI ((ν 3 - 1))) 0 = rI ((ν 3 - 1)) from if_pos rfl) dL_law_2809 ?_
    refine lv_iload (pc := 2810) E.1 E.2 dL_law_2810 (lv_at hl 0 rfl) ?_
    refine z_i2lR (pc := 2812) E dL_law_2812 ?_
    refine z_sameL (pc := 2813) (tgt := 2819) E (by rw [if_pos hk8, hR.e3]) dL_law_2813 dL_law_2814 (by decide) ?_
    refine lv_goto (pc := 2819) (tgt := 2822) E.1 E.2 dL_law_2819 (by decide) ?_
    have hW := hW.sg (hR.und hk8)
    refine W.widen (k := cells + 1) (n := slots + 6) (by omega) (by omega) ?_
    exact kk H locs ls ⟨⟨_, _, _, _, _, _, _, _, _, hQ, hW, hR.un hk8 rfl rfl rfl rfl rfl rfl rfl rfl rfl⟩, ⟨_, hA⟩, ⟨_, hD⟩⟩ hS (lv_sub hl [2, 3, 4, 5, 6, 7] rfl)
  · refine z_lwc (pc := 2780) (As := [.ref (qo s.heap.size 0), .ref (s.heap.size + 193)]) (rest := []) E hml hown hts (mbL_undo l hst G (qo s.heap.size) ν σ π δ (fun j => sg8 (β j)) ω hR.ok.1 hR.hu hk (s.heap.size + 193) fq) (vx_cwSW 2 hts gL_law_L_undo rfl rfl rfl vdL_undo.2 ⟨Nat.le_of_ble_eq_true rfl, Nat.le_of_ble_eq_true rfl⟩) ⟨hQ, hA⟩ hK hX hS (fun q h => h.elim) rfl hl.1 rfl dL_law_2780 ⟨by omega, by omega⟩ (Nat.le_of_ble_eq_true rfl) (fun H locs hQA hsz hoth hS => ?_)
    obtain ⟨hQ, hA⟩ := hQA
    have hW := hW.kp (fun k hk => hoth _ (hW.lt k hk) (fun h => h))
    have hD := hD.kp (hoth _ hD.lt (fun h => h))
    have hkb : -2147483648 ≤ (kxUndo (ν 3)) ∧ (kxUndo (ν 3)) < 2147483648 := by unfold kxUndo; (try unfold kxPK); (repeat' split) <;> decide
    have hkn : ¬ (kxUndo (ν 3)) = 0 := hk
    refine lv_istore (pc := 2783) (lv' := [(6, .int (iI ((kxUndo (ν 3))))), (0, .ref (b)), (1, .ref (qo s.heap.size 0)), (2, .ref (s.heap.size + 187 + 0)), (3, .ref (s.heap.size + 193)), (4, .ref (s.heap.size + 194)), (5, .int (iI (i)))]) E.1 E.2 dL_law_2783 hl (by decide) rfl (fun ls hl => ?_)
    refine lv_aload_n (pc := 2785) E.1 E.2 dL_law_2785 rfl (lv_at hl 3 rfl) ?_
    refine z_wVi (pc := 2786) (As := []) (rest := []) E hml hown hts (mX8_undo l G (fun k => s.heap.size + 187 + k) μ σ φ κ β ω hR.ok.1 hR.m3) (cwV 0 hts gL_law_X8_undo rfl rfl rfl vdX8_undo ⟨Nat.le_of_ble_eq_true rfl, Nat.le_of_ble_eq_true rfl⟩) (hW.1.recv hK rfl) hW hK hS (fun q h => la_8 h) rfl hl.1 rfl dL_law_2786 ⟨by omega, by omega⟩ (Nat.le_of_ble_eq_true rfl) (fun H locs hW hsz hoth hS => ?_)
    have hQ := hQ.kp (fun k hk => hoth _ (hQ.lt k hk) (lb_8 hk))
    have hA := hA.kp (hoth _ hA.lt le_193)
    have hD := hD.kp (hoth _ hD.lt le_194)
    have hk8 : ¬ kxUndo (μ 3) = 0 := by rw [← hR.e3]; exact hk
    try simp only [if_neg hk8] at hW
    refine lv_istore (pc := 2789) (lv' := [(7, .int (iI ((if (kxUndo (μ 3)) = 0 then μ 3 - 1 else 0)))), (6, .int (iI ((kxUndo (ν 3))))), (0, .ref (b)), (1, .ref (qo s.heap.size 0)), (2, .ref (s.heap.size + 187 + 0)), (3, .ref (s.heap.size + 193)), (4, .ref (s.heap.size + 194)), (5, .int (iI (i)))]) E.1 E.2 dL_law_2789 hl (by decide) rfl (fun ls hl => ?_)
    refine lv_aload_n (pc := 2791) E.1 E.2 dL_law_2791 rfl (lv_at hl 4 rfl) ?_
    refine z_rVi (pc := 2792) (As := []) (rest := []) E hml hown hts (mX8_thrown l G (fun k => s.heap.size + 187 + k) _ _ _ _ _ _) (cwV 0 hts gL_law_X8_thrown rfl rfl rfl vdX8_thrown ⟨Nat.le_of_ble_eq_true rfl, Nat.le_of_ble_eq_true rfl⟩) (hW.1.recv hK rfl) hW hK rfl hl.1 rfl dL_law_2792 ⟨by omega, by omega⟩ (Nat.le_of_ble_eq_true rfl) ?_
    refine lv_iload (pc := 2795) E.1 E.2 dL_law_2795 (lv_at hl 1 rfl) ?_
    refine z_same (pc := 2797) (tgt := 2802) E (by rw [hR.e3]; rfl) dL_law_2797 (by decide) ?_
    refine lv_iload (pc := 2802) E.1 E.2 dL_law_2802 (lv_at hl 1 rfl) ?_
    refine z_if_ne (pc := 2804) (tgt := 2819) E hkb dL_law_2804 (by decide) (fun _ => ?_) (fun h => absurd h hkn)
    refine lv_goto (pc := 2819) (tgt := 2822) E.1 E.2 dL_law_2819 (by decide) ?_
    refine W.widen (k := cells + 1) (n := slots + 6) (by omega) (by omega) ?_
    exact kk H locs ls ⟨⟨_, _, _, _, _, _, _, _, _, hQ, hW, hR.id rfl rfl rfl rfl⟩, ⟨_, hA⟩, ⟨_, hD⟩⟩ hS (lv_sub hl [2, 3, 4, 5, 6, 7] rfl)
