theorem LH.up {G : GG} {n z : Nat} {H : Heap} (h : LH G n z H) : LH G (n + 1) z H := by
  obtain ⟨⟨ν, σ, π, δ, β, ω, μ, φ, κ, hQ, hW, hR⟩, hA, hD⟩ := h
  exact ⟨⟨ν, σ, π, δ, β, ω, μ, φ, κ, hQ, hW, hR.id rfl rfl rfl rfl⟩, hA, hD⟩
set_option maxHeartbeats 4000000 in
set_option maxRecDepth 100000 in
theorem lw_loop {p : Program} {l : Launch} {e : Env} {s : State} {m : MethodId} {below : List Frame} {meth : Method} {c : Code} {G : GG} {b L : Nat} {xs : Nat → Int32} {aK aV : Nat → Nat} (X : LX p l s m c G b L xs aK aV) {Q : State → Prop} (kk : ∀ (H : Heap) (locs : List Loc) (ls : Array Slot), va_S (fun q => s.heap.size ≤ q) s.heap H locs → W p l e room_1 s m #[Value.ref b] below meth c H locs 601024 7293034 Q (F0 m 2828 ls [])) :
    ∀ (f n : Nat) (i : Int) (H : Heap) (locs : List Loc) (ls : Array Slot), i = 6 * (n : Int) → i ≤ (L : Int) → (L : Int) - i < (f : Int) → LH G n s.heap.size H → va_S (fun q => s.heap.size ≤ q) s.heap H locs → lv_has ls 8 [(0, .ref b), (1, .ref (qo s.heap.size 0)), (2, .ref (s.heap.size + 187 + 0)), (3, .ref (s.heap.size + 193)), (4, .ref (s.heap.size + 194)), (5, .int (iI i))] → W p l e room_1 s m #[Value.ref b] below meth c H locs (195 + n) (10456 + 6 * n) Q (F0 m 28 ls []) := by
  obtain ⟨E, hml, hown, hts, hK, hX0, hx, hb, hst, hL, hks⟩ := id X
  have hbA : ¬ (s.heap.size ≤ b) := by omega
  intro f
  induction f with
  | zero => intro n i H locs ls h1 h2 h3; exact absurd h3 (by omega)
  | succ f ih =>
    intro n i H locs ls h1 h2 h3 hH hS hl
    have hnx : ∀ (H : Heap) (locs : List Loc) (ls : Array Slot), i + 6 ≤ (L : Int) → LH G (n + 1) s.heap.size H → va_S (fun q => s.heap.size ≤ q) s.heap H locs → lv_has ls 8 [(0, .ref b), (1, .ref (qo s.heap.size 0)), (2, .ref (s.heap.size + 187 + 0)), (3, .ref (s.heap.size + 193)), (4, .ref (s.heap.size + 194)), (5, .int (iI i))] → W p l e room_1 s m #[Value.ref b] below meth c H locs (195 + n + 1) (10456 + 6 * n + 6) Q (F0 m 2822 ls []) := by
      intro H locs ls h4 hH hS hl
      refine lv_iinc (pc := 2822) (v := iI (i + 6)) (lv' := [(5, .int (iI (i + 6))), (0, .ref b), (1, .ref (qo s.heap.size 0)), (2, .ref (s.heap.size + 187 + 0)), (3, .ref (s.heap.size + 193)), (4, .ref (s.heap.size + 194))]) E.1 E.2 dL_law_2822 hl (k := 5) rfl (iI_add _ _) (by decide) rfl (fun ls hl => ?_)
      refine lv_goto (pc := 2825) (tgt := 28) E.1 E.2 dL_law_2825 (by decide) ?_
      refine W.widen (k := 195 + (n + 1)) (n := 10456 + 6 * (n + 1)) (by omega) (by omega) ?_
      exact ih (n + 1) (i + 6) H locs ls (by omega) h4 (by omega) hH hS (lv_sub hl [1, 2, 3, 4, 5, 0] rfl)
    refine lv_iload (pc := 28) E.1 E.2 dL_law_28 (lv_at hl 5 rfl) ?_
    refine lv_aload_n (pc := 30) E.1 E.2 dL_law_30 rfl (lv_at hl 0 rfl) ?_
    refine va_slen E.1 E.2 hx hb hbA hS dL_law_31 ?_
    rw [show Int32.ofNat L = iI (L : Int) from rfl]
    refine z_bipush (pc := 32) E (by decide) dL_law_32 ?_
    refine z_isub (pc := 34) E dL_law_34 ?_
    refine z_icmp_gt (pc := 35) (tgt := 2828) E ⟨by omega, by omega⟩ ⟨by omega, by omega⟩ dL_law_35 (by decide) (fun h35 => ?_) (fun h35 => ?_)
    · refine W.widen (k := 601024) (n := 7293034) (by omega) (by omega) ?_
      exact kk H locs ls hS
    refine lv_aload_n (pc := 38) E.1 E.2 dL_law_38 rfl (lv_at hl 0 rfl) ?_
    refine lv_iload (pc := 39) E.1 E.2 dL_law_39 (lv_at hl 5 rfl) ?_
    refine z_sld (pc := 41) E hx hb hbA hS ⟨by omega, by omega⟩ hL dL_law_41 ?_
    refine z_bipush (pc := 42) E (by decide) dL_law_42 ?_
    refine z_iand63 (pc := 44) E dL_law_44 ?_
    have hi : 0 ≤ i ∧ i + 6 ≤ (L : Int) := by omega
    have hn : n ≤ 600 := by omega
    have hc : 195 + n + 1 ≤ room_1.cells := by show 195 + n + 1 ≤ 601024; omega
    have hsl : 10456 + 6 * n + 6 ≤ room_1.slots := by show 10456 + 6 * n + 6 ≤ 7293034; omega
    by_cases hs0 : sx xs i % 64 = 0
    · refine z_tabIn (pc := 45) (k := 0) (tgt := 224) E hs0 (by decide) (by decide) (by decide) dL_law_45 rfl (by decide) ?_
      exact cs_append X hn hi hH hS hl hc hsl (fun H locs ls hH hS hl => hnx H locs ls hi.2 hH hS hl)
    by_cases hs1 : sx xs i % 64 = 1
    · refine z_tabIn (pc := 45) (k := 1) (tgt := 328) E hs1 (by decide) (by decide) (by decide) dL_law_45 rfl (by decide) ?_
      exact cs_load X hn hi hH hS hl hc hsl (fun H locs ls hH hS hl => hnx H locs ls hi.2 hH hS hl)
    by_cases hs2 : sx xs i % 64 = 2
    · refine z_tabIn (pc := 45) (k := 2) (tgt := 384) E hs2 (by decide) (by decide) (by decide) dL_law_45 rfl (by decide) ?_
      exact cs_errorPosition X hn hi hH hS hl hc hsl (fun H locs ls hH hS hl => hnx H locs ls hi.2 hH hS hl)
    by_cases hs3 : sx xs i % 64 = 3
    · refine z_tabIn (pc := 45) (k := 3) (tgt := 397) E hs3 (by decide) (by decide) (by decide) dL_law_45 rfl (by decide) ?_
      exact cs_count X hn hi hH hS hl hc hsl (fun H locs ls hH hS hl => hnx H locs ls hi.2 hH hS hl)
    by_cases hs4 : sx xs i % 64 = 4
    · refine z_tabIn (pc := 45) (k := 4) (tgt := 453) E hs4 (by decide) (by decide) (by decide) dL_law_45 rfl (by decide) ?_
      exact cs_find X hn hi hH hS hl hc hsl (fun H locs ls hH hS hl => hnx H locs ls hi.2 hH hS hl)
    by_cases hs5 : sx xs i % 64 = 5
    · refine z_tabIn (pc := 45) (k := 5) (tgt := 510) E hs5 (by decide) (by decide) (by decide) dL_law_45 rfl (by decide) ?_
      exact cs_folder X hn hi hH hS hl hc hsl (fun H locs ls hH hS hl => hnx H locs ls hi.2 hH hS hl)
    by_cases hs6 : sx xs i % 64 = 6
    · refine z_tabIn (pc := 45) (k := 6) (tgt := 578) E hs6 (by decide) (by decide) (by decide) dL_law_45 rfl (by decide) ?_
      exact cs_walked X hn hi hH hS hl hc hsl (fun H locs ls hH hS hl => hnx H locs ls hi.2 hH hS hl)
    by_cases hs7 : sx xs i % 64 = 7
    · refine z_tabIn (pc := 45) (k := 7) (tgt := 634) E hs7 (by decide) (by decide) (by decide) dL_law_45 rfl (by decide) ?_
      exact cs_heaviest X hn hi hH hS hl hc hsl (fun H locs ls hH hS hl => hnx H locs ls hi.2 hH hS hl)
    by_cases hs8 : sx xs i % 64 = 8
    · refine z_tabIn (pc := 45) (k := 8) (tgt := 690) E hs8 (by decide) (by decide) (by decide) dL_law_45 rfl (by decide) ?_
      exact cs_addFolder X hn hi hH hS hl hc hsl (fun H locs ls hH hS hl => hnx H locs ls hi.2 hH hS hl)
    by_cases hs9 : sx xs i % 64 = 9
    · refine z_tabIn (pc := 45) (k := 9) (tgt := 790) E hs9 (by decide) (by decide) (by decide) dL_law_45 rfl (by decide) ?_
      exact cs_removeFolder X hn hi hH hS hl hc hsl (fun H locs ls hH hS hl => hnx H locs ls hi.2 hH hS hl)
    by_cases hs10 : sx xs i % 64 = 10
    · refine z_tabIn (pc := 45) (k := 10) (tgt := 846) E hs10 (by decide) (by decide) (by decide) dL_law_45 rfl (by decide) ?_
      exact cs_tagReason X hn hi hH hS hl hc hsl (fun H locs ls hH hS hl => hnx H locs ls hi.2 hH hS hl)
    by_cases hs11 : sx xs i % 64 = 11
    · refine z_tabIn (pc := 45) (k := 11) (tgt := 914) E hs11 (by decide) (by decide) (by decide) dL_law_45 rfl (by decide) ?_
      exact cs_tag X hn hi hH hS hl hc hsl (fun H locs ls hH hS hl => hnx H locs ls hi.2 hH hS hl)
    by_cases hs12 : sx xs i % 64 = 12
    · refine z_tabIn (pc := 45) (k := 12) (tgt := 982) E hs12 (by decide) (by decide) (by decide) dL_law_45 rfl (by decide) ?_
      exact cs_moveReason X hn hi hH hS hl hc hsl (fun H locs ls hH hS hl => hnx H locs ls hi.2 hH hS hl)
    by_cases hs13 : sx xs i % 64 = 13
    · refine z_tabIn (pc := 45) (k := 13) (tgt := 1050) E hs13 (by decide) (by decide) (by decide) dL_law_45 rfl (by decide) ?_
      exact cs_moveFolder X hn hi hH hS hl hc hsl (fun H locs ls hH hS hl => hnx H locs ls hi.2 hH hS hl)
    by_cases hs14 : sx xs i % 64 = 14
    · refine z_tabIn (pc := 45) (k := 14) (tgt := 1118) E hs14 (by decide) (by decide) (by decide) dL_law_45 rfl (by decide) ?_
      exact cs_file X hn hi hH hS hl hc hsl (fun H locs ls hH hS hl => hnx H locs ls hi.2 hH hS hl)
    by_cases hs15 : sx xs i % 64 = 15
    · refine z_tabIn (pc := 45) (k := 15) (tgt := 1186) E hs15 (by decide) (by decide) (by decide) dL_law_45 rfl (by decide) ?_
      exact cs_writeReason X hn hi hH hS hl hc hsl (fun H locs ls hH hS hl => hnx H locs ls hi.2 hH hS hl)
    by_cases hs16 : sx xs i % 64 = 16
    · refine z_tabIn (pc := 45) (k := 16) (tgt := 1254) E hs16 (by decide) (by decide) (by decide) dL_law_45 rfl (by decide) ?_
      exact cs_write X hn hi hH hS hl hc hsl (fun H locs ls hH hS hl => hnx H locs ls hi.2 hH hS hl)
    by_cases hs17 : sx xs i % 64 = 17
    · refine z_tabIn (pc := 45) (k := 17) (tgt := 1322) E hs17 (by decide) (by decide) (by decide) dL_law_45 rfl (by decide) ?_
      exact cs_room X hn hi hH hS hl hc hsl (fun H locs ls hH hS hl => hnx H locs ls hi.2 hH hS hl)
    by_cases hs18 : sx xs i % 64 = 18
    · refine z_tabIn (pc := 45) (k := 18) (tgt := 1378) E hs18 (by decide) (by decide) (by decide) dL_law_45 rfl (by decide) ?_
      exact cs_resize X hn hi hH hS hl hc hsl (fun H locs ls hH hS hl => hnx H locs ls hi.2 hH hS hl)
    by_cases hs19 : sx xs i % 64 = 19
    · refine z_tabIn (pc := 45) (k := 19) (tgt := 1446) E hs19 (by decide) (by decide) (by decide) dL_law_45 rfl (by decide) ?_
      exact cs_delete X hn hi hH hS hl hc hsl (fun H locs ls hH hS hl => hnx H locs ls hi.2 hH hS hl)
    by_cases hs20 : sx xs i % 64 = 20
    · refine z_tabIn (pc := 45) (k := 20) (tgt := 1502) E hs20 (by decide) (by decide) (by decide) dL_law_45 rfl (by decide) ?_
      exact cs_moveFile X hn hi hH hS hl hc hsl (fun H locs ls hH hS hl => hnx H locs ls hi.2 hH hS hl)
    by_cases hs21 : sx xs i % 64 = 21
    · refine z_tabIn (pc := 45) (k := 21) (tgt := 1570) E hs21 (by decide) (by decide) (by decide) dL_law_45 rfl (by decide) ?_
      exact cs_greatest X hn hi hH hS hl hc hsl (fun H locs ls hH hS hl => hnx H locs ls hi.2 hH hS hl)
    by_cases hs22 : sx xs i % 64 = 22
    · refine z_tabIn (pc := 45) (k := 22) (tgt := 1626) E hs22 (by decide) (by decide) (by decide) dL_law_45 rfl (by decide) ?_
      exact cs_used X hn hi hH hS hl hc hsl (fun H locs ls hH hS hl => hnx H locs ls hi.2 hH hS hl)
    by_cases hs23 : sx xs i % 64 = 23
    · refine z_tabIn (pc := 45) (k := 23) (tgt := 1694) E hs23 (by decide) (by decide) (by decide) dL_law_45 rfl (by decide) ?_
      exact cs_counted X hn hi hH hS hl hc hsl (fun H locs ls hH hS hl => hnx H locs ls hi.2 hH hS hl)
    by_cases hs24 : sx xs i % 64 = 24
    · refine z_tabIn (pc := 45) (k := 24) (tgt := 1762) E hs24 (by decide) (by decide) (by decide) dL_law_45 rfl (by decide) ?_
      exact cs_limit X hn hi hH hS hl hc hsl (fun H locs ls hH hS hl => hnx H locs ls hi.2 hH hS hl)
    by_cases hs25 : sx xs i % 64 = 25
    · refine z_tabIn (pc := 45) (k := 25) (tgt := 1858) E hs25 (by decide) (by decide) (by decide) dL_law_45 rfl (by decide) ?_
      exact cs_setLimit X hn hi hH hS hl hc hsl (fun H locs ls hH hS hl => hnx H locs ls hi.2 hH hS hl)
    by_cases hs26 : sx xs i % 64 = 26
    · refine z_tabIn (pc := 45) (k := 26) (tgt := 1950) E hs26 (by decide) (by decide) (by decide) dL_law_45 rfl (by decide) ?_
      exact cs_state X hn hi hH hS hl hc hsl (fun H locs ls hH hS hl => hnx H locs ls hi.2 hH hS hl)
    by_cases hs27 : sx xs i % 64 = 27
    · refine z_tabIn (pc := 45) (k := 27) (tgt := 2018) E hs27 (by decide) (by decide) (by decide) dL_law_45 rfl (by decide) ?_
      exact cs_graceLeft X hn hi hH hS hl hc hsl (fun H locs ls hH hS hl => hnx H locs ls hi.2 hH hS hl)
    by_cases hs28 : sx xs i % 64 = 28
    · refine z_tabIn (pc := 45) (k := 28) (tgt := 2086) E hs28 (by decide) (by decide) (by decide) dL_law_45 rfl (by decide) ?_
      exact cs_setGrace X hn hi hH hS hl hc hsl (fun H locs ls hH hS hl => hnx H locs ls hi.2 hH hS hl)
    by_cases hs29 : sx xs i % 64 = 29
    · refine z_tabIn (pc := 45) (k := 29) (tgt := 2142) E hs29 (by decide) (by decide) (by decide) dL_law_45 rfl (by decide) ?_
      exact cs_tick X hn hi hH hS hl hc hsl (fun H locs ls hH hS hl => hnx H locs ls hi.2 hH hS hl)
    by_cases hs30 : sx xs i % 64 = 30
    · refine z_tabIn (pc := 45) (k := 30) (tgt := 2198) E hs30 (by decide) (by decide) (by decide) dL_law_45 rfl (by decide) ?_
      exact cs_nextEvent X hn hi hH hS hl hc hsl (fun H locs ls hH hS hl => hnx H locs ls hi.2 hH hS hl)
    by_cases hs31 : sx xs i % 64 = 31
    · refine z_tabIn (pc := 45) (k := 31) (tgt := 2211) E hs31 (by decide) (by decide) (by decide) dL_law_45 rfl (by decide) ?_
      exact cs_share X hn hi hH hS hl hc hsl (fun H locs ls hH hS hl => hnx H locs ls hi.2 hH hS hl)
    by_cases hs32 : sx xs i % 64 = 32
    · refine z_tabIn (pc := 45) (k := 32) (tgt := 2301) E hs32 (by decide) (by decide) (by decide) dL_law_45 rfl (by decide) ?_
      exact cs_gift X hn hi hH hS hl hc hsl (fun H locs ls hH hS hl => hnx H locs ls hi.2 hH hS hl)
    by_cases hs33 : sx xs i % 64 = 33
    · refine z_tabIn (pc := 45) (k := 33) (tgt := 2393) E hs33 (by decide) (by decide) (by decide) dL_law_45 rfl (by decide) ?_
      exact cs_giftOf X hn hi hH hS hl hc hsl (fun H locs ls hH hS hl => hnx H locs ls hi.2 hH hS hl)
    by_cases hs34 : sx xs i % 64 = 34
    · refine z_tabIn (pc := 45) (k := 34) (tgt := 2461) E hs34 (by decide) (by decide) (by decide) dL_law_45 rfl (by decide) ?_
      exact cs_endGift X hn hi hH hS hl hc hsl (fun H locs ls hH hS hl => hnx H locs ls hi.2 hH hS hl)
    by_cases hs35 : sx xs i % 64 = 35
    · refine z_tabIn (pc := 45) (k := 35) (tgt := 2517) E hs35 (by decide) (by decide) (by decide) dL_law_45 rfl (by decide) ?_
      exact cs_adjust X hn hi hH hS hl hc hsl (fun H locs ls hH hS hl => hnx H locs ls hi.2 hH hS hl)
    by_cases hs36 : sx xs i % 64 = 36
    · refine z_tabIn (pc := 45) (k := 36) (tgt := 2597) E hs36 (by decide) (by decide) (by decide) dL_law_45 rfl (by decide) ?_
      exact cs_repair X hn hi hH hS hl hc hsl (fun H locs ls hH hS hl => hnx H locs ls hi.2 hH hS hl)
    by_cases hs37 : sx xs i % 64 = 37
    · refine z_tabIn (pc := 45) (k := 37) (tgt := 2610) E hs37 (by decide) (by decide) (by decide) dL_law_45 rfl (by decide) ?_
      exact cs_writePath X hn hi hH hS hl hc hsl (fun H locs ls hH hS hl => hnx H locs ls hi.2 hH hS hl)
    by_cases hs38 : sx xs i % 64 = 38
    · refine z_tabIn (pc := 45) (k := 38) (tgt := 2666) E hs38 (by decide) (by decide) (by decide) dL_law_45 rfl (by decide) ?_
      exact cs_writeAccounts X hn hi hH hS hl hc hsl (fun H locs ls hH hS hl => hnx H locs ls hi.2 hH hS hl)
    by_cases hs39 : sx xs i % 64 = 39
    · refine z_tabIn (pc := 45) (k := 39) (tgt := 2722) E hs39 (by decide) (by decide) (by decide) dL_law_45 rfl (by decide) ?_
      exact cs_writtenByte X hn hi hH hS hl hc hsl (fun H locs ls hH hS hl => hnx H locs ls hi.2 hH hS hl)
    by_cases hs40 : sx xs i % 64 = 40
    · refine z_tabIn (pc := 45) (k := 40) (tgt := 2778) E hs40 (by decide) (by decide) (by decide) dL_law_45 rfl (by decide) ?_
      exact cs_undo X hn hi hH hS hl hc hsl (fun H locs ls hH hS hl => hnx H locs ls hi.2 hH hS hl)
    refine z_tabOut (pc := 45) (tgt := 2822) E ⟨by omega, by omega⟩ (by omega) dL_law_45 (by decide) ?_
    refine W.widen (k := 195 + n + 1) (n := 10456 + 6 * n + 6) (by omega) (by omega) ?_
    exact hnx H locs ls hi.2 hH.up hS hl
