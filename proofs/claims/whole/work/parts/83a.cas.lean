set_option maxHeartbeats 1000000 in
set_option maxRecDepth 100000 in
theorem cs_append {p : Program} {l : Launch} {e : Env} {s : State} {m : MethodId} {below : List Frame} {meth : Method} {c : Code} {G : GG} {b L : Nat} {xs : Nat → Int32} {aK aV : Nat → Nat} (X : LX p l s m c G b L xs aK aV) {n : Nat} {i : Int} {H : Heap} {locs : List Loc} {ls : Array Slot} {cells slots : Nat} {Q : State → Prop} (hn : n ≤ 600) (hi : 0 ≤ i ∧ i + 6 ≤ (L : Int)) (hH : LH G n s.heap.size H) (hS : va_S (fun q => s.heap.size ≤ q) s.heap H locs) (hl : lv_has ls 8 [(0, .ref b), (1, .ref (qo s.heap.size 0)), (2, .ref (s.heap.size + 187 + 0)), (3, .ref (s.heap.size + 193)), (4, .ref (s.heap.size + 194)), (5, .int (iI i))]) (hc : cells + 1 ≤ room_1.cells) (hsl : slots + 6 ≤ room_1.slots) (kk : ∀ (H : Heap) (locs : List Loc) (ls : Array Slot), LH G (n + 1) s.heap.size H → va_S (fun q => s.heap.size ≤ q) s.heap H locs → lv_has ls 8 [(0, .ref b), (1, .ref (qo s.heap.size 0)), (2, .ref (s.heap.size + 187 + 0)), (3, .ref (s.heap.size + 193)), (4, .ref (s.heap.size + 194)), (5, .int (iI i))] → W p l e room_1 s m #[Value.ref b] below meth c H locs (cells + 1) (slots + 6) Q (F0 m 2822 ls [])) : W p l e room_1 s m #[Value.ref b] below meth c H locs cells slots Q (F0 m 224 ls []) := by
  obtain ⟨E, hml, hown, hts, hK, hX0, hx, hb, hst, hL, hks⟩ := X
  obtain ⟨⟨ν, σ, π, δ, β, ω, μ, φ, κ, hQ, hW, hR⟩, ⟨fq, hA⟩, ⟨xq, hD⟩⟩ := hH
  have hX : KX FF0 s H := (hX0.kept (fun a ha hna => hS.2.1 a ha hna)).narrow (fun q h => h.elim)
  have hbA : ¬ (s.heap.size ≤ b) := by omega
  refine lv_aload_n (pc := 224) E.1 E.2 dL_law_224 rfl (lv_at hl 1 rfl) ?_
  refine lv_aload_n (pc := 225) E.1 E.2 dL_law_225 rfl (lv_at hl 0 rfl) ?_
  refine lv_iload (pc := 226) E.1 E.2 dL_law_226 (lv_at hl 5 rfl) ?_
  refine z_iconst (pc := 228) E dL_law_228 ?_
  refine z_iadd (pc := 229) E dL_law_229 ?_
  refine z_sld (pc := 230) E hx hb hbA hS ⟨by omega, by omega⟩ hL dL_law_230 ?_
  refine lv_aload_n (pc := 231) E.1 E.2 dL_law_231 rfl (lv_at hl 0 rfl) ?_
  refine lv_iload (pc := 232) E.1 E.2 dL_law_232 (lv_at hl 5 rfl) ?_
  refine z_iconst (pc := 234) E dL_law_234 ?_
  refine z_iadd (pc := 235) E dL_law_235 ?_
  refine z_sld (pc := 236) E hx hb hbA hS ⟨by omega, by omega⟩ hL dL_law_236 ?_
  refine lv_aload_n (pc := 237) E.1 E.2 dL_law_237 rfl (lv_at hl 0 rfl) ?_
  refine lv_iload (pc := 238) E.1 E.2 dL_law_238 (lv_at hl 5 rfl) ?_
  refine z_iconst (pc := 240) E dL_law_240 ?_
  refine z_iadd (pc := 241) E dL_law_241 ?_
  refine z_sld (pc := 242) E hx hb hbA hS ⟨by omega, by omega⟩ hL dL_law_242 ?_
  refine lv_aload_n (pc := 243) E.1 E.2 dL_law_243 rfl (lv_at hl 0 rfl) ?_
  refine lv_iload (pc := 244) E.1 E.2 dL_law_244 (lv_at hl 5 rfl) ?_
  refine z_iconst (pc := 246) E dL_law_246 ?_
  refine z_iadd (pc := 247) E dL_law_247 ?_
  refine z_sld (pc := 248) E hx hb hbA hS ⟨by omega, by omega⟩ hL dL_law_248 ?_
  refine lv_aload_n (pc := 249) E.1 E.2 dL_law_249 rfl (lv_at hl 0 rfl) ?_
  refine lv_iload (pc := 250) E.1 E.2 dL_law_250 (lv_at hl 5 rfl) ?_
  refine z_iconst (pc := 252) E dL_law_252 ?_
  refine z_iadd (pc := 253) E dL_law_253 ?_
  refine z_sld (pc := 254) E hx hb hbA hS ⟨by omega, by omega⟩ hL dL_law_254 ?_
  refine lv_aload_n (pc := 255) E.1 E.2 dL_law_255 rfl (lv_at hl 3 rfl) ?_
  by_cases hk : ν 21 ≤ 880
  · refine z_lwc (pc := 256) (As := [.ref (qo s.heap.size 0), .int (iI (sx xs (i + 1))), .int (iI (sx xs (i + 2))), .int (iI (sx xs (i + 3))), .int (iI (sx xs (i + 4))), .int (iI (sx xs (i + 5))), .ref (s.heap.size + 193)]) (rest := []) E hml hown hts (mL_append l G (qo s.heap.size) ν σ π δ (fun j => sg8 (β j)) ω (sx xs (i + 1)) (sx xs (i + 2)) (sx xs (i + 3)) (sx xs (i + 4)) (sx xs (i + 5)) hR.ok.1 (sx_b _ _) (sx_b _ _) (sx_b _ _) (sx_b _ _) (sx_b _ _) (by have h1 := hR.m6; have h2 := hR.e6; omega) (s.heap.size + 193) fq (fun k hk => by have := qo_b s.heap.size hk; omega)) (vx_cwSW 7 hts gL_law_L_append rfl rfl rfl vdL_append.2 ⟨Nat.le_of_ble_eq_true rfl, Nat.le_of_ble_eq_true rfl⟩) ⟨hQ, hA⟩ hK hX hS (fun q h => la_193 h) rfl hl.1 rfl dL_law_256 ⟨by omega, by omega⟩ (Nat.le_of_ble_eq_true rfl) (fun H locs hQA hsz hoth hS => ?_)
    obtain ⟨hQ, hA⟩ := hQA
    have hW := hW.kp (fun k hk => hoth _ (hW.lt k hk) (lb_193 hk))
    have hD := hD.kp (hoth _ hD.lt lc_193)
    rw [sg8_20, hR.e6] at hQ
    refine lv_istore (pc := 259) (lv' := [(6, .int (iI (0))), (0, .ref (b)), (1, .ref (qo s.heap.size 0)), (2, .ref (s.heap.size + 187 + 0)), (3, .ref (s.heap.size + 193)), (4, .ref (s.heap.size + 194)), (5, .int (iI (i)))]) E.1 E.2 dL_law_259 hl (by decide) rfl (fun ls hl => ?_)
    refine lv_aload_n (pc := 261) E.1 E.2 dL_law_261 rfl (lv_at hl 3 rfl) ?_
    refine lv_aload_n (pc := 262) E.1 E.2 dL_law_262 rfl (lv_at hl 1 rfl) ?_
    refine lv_iload (pc := 263) E.1 E.2 dL_law_263 (lv_at hl 6 rfl) ?_
    refine z_iconst (pc := 265) E dL_law_265 ?_
    refine z_iadd (pc := 266) E dL_law_266 ?_
    refine z_sld (pc := 267) E hx hb hbA hS ⟨by omega, by omega⟩ hL dL_law_267 ?_
    refine lv_aload_n (pc := 268) E.1 E.2 dL_law_268 rfl (lv_at hl 1 rfl) ?_
    refine lv_iload (pc := 269) E.1 E.2 dL_law_269 (lv_at hl 6 rfl) ?_
    refine z_iconst (pc := 271) E dL_law_271 ?_
    refine z_iadd (pc := 272) E dL_law_272 ?_
    refine z_sld (pc := 273) E hx hb hbA hS ⟨by omega, by omega⟩ hL dL_law_273 ?_
    refine lv_aload_n (pc := 274) E.1 E.2 dL_law_274 rfl (lv_at hl 1 rfl) ?_
    refine lv_iload (pc := 275) E.1 E.2 dL_law_275 (lv_at hl 6 rfl) ?_
    refine z_iconst (pc := 277) E dL_law_277 ?_
    refine z_iadd (pc := 278) E dL_law_278 ?_
    refine z_sld (pc := 279) E hx hb hbA hS ⟨by omega, by omega⟩ hL dL_law_279 ?_
    refine lv_aload_n (pc := 280) E.1 E.2 dL_law_280 rfl (lv_at hl 1 rfl) ?_
    refine lv_iload (pc := 281) E.1 E.2 dL_law_281 (lv_at hl 6 rfl) ?_
    refine z_iconst (pc := 283) E dL_law_283 ?_
    refine z_iadd (pc := 284) E dL_law_284 ?_
    refine z_sld (pc := 285) E hx hb hbA hS ⟨by omega, by omega⟩ hL dL_law_285 ?_
    refine lv_aload_n (pc := 286) E.1 E.2 dL_law_286 rfl (lv_at hl 1 rfl) ?_
    refine lv_iload (pc := 287) E.1 E.2 dL_law_287 (lv_at hl 6 rfl) ?_
    refine z_iconst (pc := 289) E dL_law_289 ?_
    refine z_iadd (pc := 290) E dL_law_290 ?_
    refine z_sld (pc := 291) E hx hb hbA hS ⟨by omega, by omega⟩ hL dL_law_291 ?_
    refine z_wVi (pc := 292) (As := [.int (iI (sx xs (i + 1))), .int (iI (sx xs (i + 2))), .int (iI (sx xs (i + 3))), .int (iI (sx xs (i + 4))), .int (iI (sx xs (i + 5)))]) (rest := []) E hml hown hts (mX8_append l G (fun k => s.heap.size + 187 + k) μ σ φ κ β ω (sx xs (i + 1)) (sx xs (i + 2)) (sx xs (i + 3)) (sx xs (i + 4)) (sx xs (i + 5)) (sx_b _ _) (sx_b _ _) (sx_b _ _) (sx_b _ _) (sx_b _ _) (by have h1 := hR.m6; have h2 := hR.e6; omega)) (cwV 5 hts gL_law_X8_append rfl rfl rfl vdX8_append ⟨Nat.le_of_ble_eq_true rfl, Nat.le_of_ble_eq_true rfl⟩) (hW.1.recv hK rfl) hW hK hS (fun q h => la_8 h) rfl hl.1 rfl dL_law_292 ⟨by omega, by omega⟩ (Nat.le_of_ble_eq_true rfl) (fun H locs hW hsz hoth hS => ?_)
    have hQ := hQ.kp (fun k hk => hoth _ (hQ.lt k hk) (lb_8 hk))
    have hA := hA.kp (hoth _ hA.lt le_193)
    have hD := hD.kp (hoth _ hD.lt le_194)
    refine lv_istore (pc := 295) (lv' := [(7, .int (iI ((μ 6 + 20)))), (6, .int (iI (0))), (0, .ref (b)), (1, .ref (qo s.heap.size 0)), (2, .ref (s.heap.size + 187 + 0)), (3, .ref (s.heap.size + 193)), (4, .ref (s.heap.size + 194)), (5, .int (iI (i)))]) E.1 E.2 dL_law_295 hl (by decide) rfl (fun ls hl => ?_)
    refine lv_aload_n (pc := 297) E.1 E.2 dL_law_297 rfl (lv_at hl 4 rfl) ?_
    refine z_rVi (pc := 298) (As := []) (rest := []) E hml hown hts (mX8_thrown l G (fun k => s.heap.size + 187 + k) _ _ _ _ _ _) (cwV 0 hts gL_law_X8_thrown rfl rfl rfl vdX8_thrown ⟨Nat.le_of_ble_eq_true rfl, Nat.le_of_ble_eq_true rfl⟩) (hW.1.recv hK rfl) hW hK rfl hl.1 rfl dL_law_298 ⟨by omega, by omega⟩ (Nat.le_of_ble_eq_true rfl) ?_
    refine lv_iload (pc := 301) E.1 E.2 dL_law_301 (lv_at hl 1 rfl) ?_
    refine z_same (pc := 303) (tgt := 308) E rfl dL_law_303 (by decide) ?_
    refine lv_iload (pc := 308) E.1 E.2 dL_law_308 (lv_at hl 1 rfl) ?_
    refine z_if_ne (pc := 310) (tgt := 325) E (by decide) dL_law_310 (by decide) (fun h => absurd rfl h) (fun _ => ?_)
    refine lv_aload_n (pc := 313) E.1 E.2 dL_law_313 rfl (lv_at hl 5 rfl) ?_
    refine z_iconst (pc := 314) E dL_law_314 ?_
    refine z_laloadE (pc := 315) E hK hA (by decide) (by decide) (show zu fq 0 (rI ((ν 21 + 20))) 0 = rI ((ν 21 + 20)) from if_pos rfl) dL_law_315 ?_
    refine lv_iload (pc := 316) E.1 E.2 dL_law_316 (lv_at hl 0 rfl) ?_
    refine z_i2lR (pc := 318) E dL_law_318 ?_
    refine z_sameL (pc := 319) (tgt := 325) E (by rw [hR.e6]) dL_law_319 dL_law_320 (by decide) ?_
    refine lv_goto (pc := 325) (tgt := 2822) E.1 E.2 dL_law_325 (by decide) ?_
    refine W.widen (k := cells + 1) (n := slots + 6) (by omega) (by omega) ?_
    exact kk H locs ls ⟨⟨_, _, _, _, _, _, _, _, _, hQ, hW, hR.ap (by have h1 := hR.e6; omega) (by show μ 6 + 20 = ν 21 + 20; rw [hR.e6]) rfl rfl rfl rfl rfl rfl rfl rfl⟩, ⟨_, hA⟩, ⟨_, hD⟩⟩ hS (lv_sub hl [2, 3, 4, 5, 6, 7] rfl)
  · refine z_lwc (pc := 256) (As := [.ref (qo s.heap.size 0), .int (iI (sx xs (i + 1))), .int (iI (sx xs (i + 2))), .int (iI (sx xs (i + 3))), .int (iI (sx xs (i + 4))), .int (iI (sx xs (i + 5))), .ref (s.heap.size + 193)]) (rest := []) E hml hown hts (mbL_append l hst G (qo s.heap.size) ν σ π δ (fun j => sg8 (β j)) ω (sx xs (i + 1)) (sx xs (i + 2)) (sx xs (i + 3)) (sx xs (i + 4)) (sx xs (i + 5)) hR.ok.1 (sx_b _ _) (sx_b _ _) (sx_b _ _) (sx_b _ _) (sx_b _ _) (by have h1 := hR.m6; have h2 := hR.e6; omega) hk (s.heap.size + 193) fq) (vx_cwSW 7 hts gL_law_L_append rfl rfl rfl vdL_append.2 ⟨Nat.le_of_ble_eq_true rfl, Nat.le_of_ble_eq_true rfl⟩) ⟨hQ, hA⟩ hK hX hS (fun q h => h.elim) rfl hl.1 rfl dL_law_256 ⟨by omega, by omega⟩ (Nat.le_of_ble_eq_true rfl) (fun H locs hQA hsz hoth hS => ?_)
    obtain ⟨hQ, hA⟩ := hQA
    have hW := hW.kp (fun k hk => hoth _ (hW.lt k hk) (fun h => h))
    have hD := hD.kp (hoth _ hD.lt (fun h => h))
    have hkb : (-2147483648 : Int) ≤ 1 ∧ (1 : Int) < 2147483648 := by decide
    have hkn : ¬ (1 : Int) = 0 := by decide
    refine lv_istore (pc := 259) (lv' := [(6, .int (iI (1))), (0, .ref (b)), (1, .ref (qo s.heap.size 0)), (2, .ref (s.heap.size + 187 + 0)), (3, .ref (s.heap.size + 193)), (4, .ref (s.heap.size + 194)), (5, .int (iI (i)))]) E.1 E.2 dL_law_259 hl (by decide) rfl (fun ls hl => ?_)
    refine lv_aload_n (pc := 261) E.1 E.2 dL_law_261 rfl (lv_at hl 3 rfl) ?_
    refine lv_aload_n (pc := 262) E.1 E.2 dL_law_262 rfl (lv_at hl 1 rfl) ?_
    refine lv_iload (pc := 263) E.1 E.2 dL_law_263 (lv_at hl 6 rfl) ?_
    refine z_iconst (pc := 265) E dL_law_265 ?_
    refine z_iadd (pc := 266) E dL_law_266 ?_
    refine z_sld (pc := 267) E hx hb hbA hS ⟨by omega, by omega⟩ hL dL_law_267 ?_
    refine lv_aload_n (pc := 268) E.1 E.2 dL_law_268 rfl (lv_at hl 1 rfl) ?_
    refine lv_iload (pc := 269) E.1 E.2 dL_law_269 (lv_at hl 6 rfl) ?_
    refine z_iconst (pc := 271) E dL_law_271 ?_
    refine z_iadd (pc := 272) E dL_law_272 ?_
    refine z_sld (pc := 273) E hx hb hbA hS ⟨by omega, by omega⟩ hL dL_law_273 ?_
    refine lv_aload_n (pc := 274) E.1 E.2 dL_law_274 rfl (lv_at hl 1 rfl) ?_
    refine lv_iload (pc := 275) E.1 E.2 dL_law_275 (lv_at hl 6 rfl) ?_
    refine z_iconst (pc := 277) E dL_law_277 ?_
    refine z_iadd (pc := 278) E dL_law_278 ?_
    refine z_sld (pc := 279) E hx hb hbA hS ⟨by omega, by omega⟩ hL dL_law_279 ?_
    refine lv_aload_n (pc := 280) E.1 E.2 dL_law_280 rfl (lv_at hl 1 rfl) ?_
    refine lv_iload (pc := 281) E.1 E.2 dL_law_281 (lv_at hl 6 rfl) ?_
    refine z_iconst (pc := 283) E dL_law_283 ?_
    refine z_iadd (pc := 284) E dL_law_284 ?_
    refine z_sld (pc := 285) E hx hb hbA hS ⟨by omega, by omega⟩ hL dL_law_285 ?_
    refine lv_aload_n (pc := 286) E.1 E.2 dL_law_286 rfl (lv_at hl 1 rfl) ?_
    refine lv_iload (pc := 287) E.1 E.2 dL_law_287 (lv_at hl 6 rfl) ?_
    refine z_iconst (pc := 289) E dL_law_289 ?_
    refine z_iadd (pc := 290) E dL_law_290 ?_
    refine z_sld (pc := 291) E hx hb hbA hS ⟨by omega, by omega⟩ hL dL_law_291 ?_
    refine z_wVi (pc := 292) (As := [.int (iI (sx xs (i + 1))), .int (iI (sx xs (i + 2))), .int (iI (sx xs (i + 3))), .int (iI (sx xs (i + 4))), .int (iI (sx xs (i + 5)))]) (rest := []) E hml hown hts (mX8_appendN l G (fun k => s.heap.size + 187 + k) μ σ φ κ β ω (sx xs (i + 1)) (sx xs (i + 2)) (sx xs (i + 3)) (sx xs (i + 4)) (sx xs (i + 5)) (sx_b _ _) (sx_b _ _) (sx_b _ _) (sx_b _ _) (sx_b _ _) (by have h1 := hR.m6; have h2 := hR.e6; omega)) (cwV 5 hts gL_law_X8_append rfl rfl rfl vdX8_append ⟨Nat.le_of_ble_eq_true rfl, Nat.le_of_ble_eq_true rfl⟩) (hW.1.recv hK rfl) hW hK hS (fun q h => la_8 h) rfl hl.1 rfl dL_law_292 ⟨by omega, by omega⟩ (Nat.le_of_ble_eq_true rfl) (fun H locs hW hsz hoth hS => ?_)
    have hQ := hQ.kp (fun k hk => hoth _ (hQ.lt k hk) (lb_8 hk))
    have hA := hA.kp (hoth _ hA.lt le_193)
    have hD := hD.kp (hoth _ hD.lt le_194)
    refine lv_istore (pc := 295) (lv' := [(7, .int (iI (0))), (6, .int (iI (1))), (0, .ref (b)), (1, .ref (qo s.heap.size 0)), (2, .ref (s.heap.size + 187 + 0)), (3, .ref (s.heap.size + 193)), (4, .ref (s.heap.size + 194)), (5, .int (iI (i)))]) E.1 E.2 dL_law_295 hl (by decide) rfl (fun ls hl => ?_)
    refine lv_aload_n (pc := 297) E.1 E.2 dL_law_297 rfl (lv_at hl 4 rfl) ?_
    refine z_rVi (pc := 298) (As := []) (rest := []) E hml hown hts (mX8_thrown l G (fun k => s.heap.size + 187 + k) _ _ _ _ _ _) (cwV 0 hts gL_law_X8_thrown rfl rfl rfl vdX8_thrown ⟨Nat.le_of_ble_eq_true rfl, Nat.le_of_ble_eq_true rfl⟩) (hW.1.recv hK rfl) hW hK rfl hl.1 rfl dL_law_298 ⟨by omega, by omega⟩ (Nat.le_of_ble_eq_true rfl) ?_
    refine lv_iload (pc := 301) E.1 E.2 dL_law_301 (lv_at hl 1 rfl) ?_
    refine z_same (pc := 303) (tgt := 308) E rfl dL_law_303 (by decide) ?_
    refine lv_iload (pc := 308) E.1 E.2 dL_law_308 (lv_at hl 1 rfl) ?_
    refine z_if_ne (pc := 310) (tgt := 325) E hkb dL_law_310 (by decide) (fun _ => ?_) (fun h => absurd h hkn)
    refine lv_goto (pc := 325) (tgt := 2822) E.1 E.2 dL_law_325 (by decide) ?_
    refine W.widen (k := cells + 1) (n := slots + 6) (by omega) (by omega) ?_
    exact kk H locs ls ⟨⟨_, _, _, _, _, _, _, _, _, hQ, hW, hR.id rfl rfl rfl rfl⟩, ⟨_, hA⟩, ⟨_, hD⟩⟩ hS (lv_sub hl [2, 3, 4, 5, 6, 7] rfl)
set_option maxHeartbeats 1000000 in
set_option maxRecDepth 100000 in
theorem cs_load {p : Program} {l : Launch} {e : Env} {s : State} {m : MethodId} {below : List Frame} {meth : Method} {c : Code} {G : GG} {b L : Nat} {xs : Nat → Int32} {aK aV : Nat → Nat} (X : LX p l s m c G b L xs aK aV) {n : Nat} {i : Int} {H : Heap} {locs : List Loc} {ls : Array Slot} {cells slots : Nat} {Q : State → Prop} (hn : n ≤ 600) (hi : 0 ≤ i ∧ i + 6 ≤ (L : Int)) (hH : LH G n s.heap.size H) (hS : va_S (fun q => s.heap.size ≤ q) s.heap H locs) (hl : lv_has ls 8 [(0, .ref b), (1, .ref (qo s.heap.size 0)), (2, .ref (s.heap.size + 187 + 0)), (3, .ref (s.heap.size + 193)), (4, .ref (s.heap.size + 194)), (5, .int (iI i))]) (hc : cells + 1 ≤ room_1.cells) (hsl : slots + 6 ≤ room_1.slots) (kk : ∀ (H : Heap) (locs : List Loc) (ls : Array Slot), LH G (n + 1) s.heap.size H → va_S (fun q => s.heap.size ≤ q) s.heap H locs → lv_has ls 8 [(0, .ref b), (1, .ref (qo s.heap.size 0)), (2, .ref (s.heap.size + 187 + 0)), (3, .ref (s.heap.size + 193)), (4, .ref (s.heap.size + 194)), (5, .int (iI i))] → W p l e room_1 s m #[Value.ref b] below meth c H locs (cells + 1) (slots + 6) Q (F0 m 2822 ls [])) : W p l e room_1 s m #[Value.ref b] below meth c H locs cells slots Q (F0 m 328 ls []) := by
  obtain ⟨E, hml, hown, hts, hK, hX0, hx, hb, hst, hL, hks⟩ := X
  obtain ⟨⟨ν, σ, π, δ, β, ω, μ, φ, κ, hQ, hW, hR⟩, ⟨fq, hA⟩, ⟨xq, hD⟩⟩ := hH
  have hX : KX FF0 s H := (hX0.kept (fun a ha hna => hS.2.1 a ha hna)).narrow (fun q h => h.elim)
  have hbA : ¬ (s.heap.size ≤ b) := by omega
  refine lv_aload_n (pc := 328) E.1 E.2 dL_law_328 rfl (lv_at hl 1 rfl) ?_
  refine lv_aload_n (pc := 329) E.1 E.2 dL_law_329 rfl (lv_at hl 0 rfl) ?_
  refine lv_iload (pc := 330) E.1 E.2 dL_law_330 (lv_at hl 5 rfl) ?_
  refine z_iconst (pc := 332) E dL_law_332 ?_
  refine z_iadd (pc := 333) E dL_law_333 ?_
  refine z_sld (pc := 334) E hx hb hbA hS ⟨by omega, by omega⟩ hL dL_law_334 ?_
  refine lv_aload_n (pc := 335) E.1 E.2 dL_law_335 rfl (lv_at hl 3 rfl) ?_
  by_cases hk : (kxLoad (ν 21) (sx xs (i + 1))) = 0
  · refine z_lwc (pc := 336) (P1 := fun H : Heap => (∃ (ν1 δ1 : Int → Int), QT G (qo s.heap.size) ν1 (if ldX β (sx xs (i + 1)) = 0 then nxLoad σ (ldF β (sx xs (i + 1))) else σ) (if ldX β (sx xs (i + 1)) = 0 then pU π (ν 2 % 8) σ else π) δ1 (fun j => sg8 (β j)) ω H ∧ (ν1 2 = if ldX β (sx xs (i + 1)) = 0 then ν 2 + 1 else ν 2) ∧ (ν1 3 = if ldX β (sx xs (i + 1)) = 0 then min (ν 3 + 1) 8 else ν 3) ∧ ν1 21 = 0 ∧ ν1 31 = ν 31 ∧ (ν1 42 = if ldX β (sx xs (i + 1)) = 0 then -1 else ldP β (sx xs (i + 1)))) ∧ aL G (s.heap.size + 193) 1 (zu fq 0 (rI ((if ldX β (sx xs (i + 1)) = 0 then ldF β (sx xs (i + 1)) 3 else ldX β (sx xs (i + 1)))))) H) (As := [.ref (qo s.heap.size 0), .int (iI (sx xs (i + 1))), .ref (s.heap.size + 193)]) (rest := []) E hml hown hts (mL_load l G (qo s.heap.size) ν σ π δ β ω (sx xs (i + 1)) hR.ok.1 (sx_b _ _) hR.tx (by have h1 := hR.m6; have h2 := hR.e6; omega) (hR.hc hn) hR.hu (kxLoad_ok hk) (s.heap.size + 193) fq (fun k hk => by have := qo_b s.heap.size hk; omega)) (vx_cwSW 3 hts gL_law_L_load rfl rfl rfl vdL_load.2 ⟨Nat.le_of_ble_eq_true rfl, Nat.le_of_ble_eq_true rfl⟩) ⟨hQ, hA⟩ hK hX hS (fun q h => la_193 h) rfl hl.1 rfl dL_law_336 ⟨by omega, by omega⟩ (Nat.le_of_ble_eq_true rfl) (fun H locs hQA hsz hoth hS => ?_)
    obtain ⟨hQ, hA⟩ := hQA
    have hW := hW.kp (fun k hk => hoth _ (hW.lt k hk) (lb_193 hk))
    have hD := hD.kp (hoth _ hD.lt lc_193)
    obtain ⟨ν1, δ1, hQ, v2, v3, v21, v31, v42⟩ := hQ
    refine lv_istore (pc := 339) (lv' := [(6, .int (iI (0))), (0, .ref (b)), (1, .ref (qo s.heap.size 0)), (2, .ref (s.heap.size + 187 + 0)), (3, .ref (s.heap.size + 193)), (4, .ref (s.heap.size + 194)), (5, .int (iI (i)))]) E.1 E.2 dL_law_339 hl (by decide) rfl (fun ls hl => ?_)
    refine lv_aload_n (pc := 341) E.1 E.2 dL_law_341 rfl (lv_at hl 3 rfl) ?_
    refine lv_aload_n (pc := 342) E.1 E.2 dL_law_342 rfl (lv_at hl 1 rfl) ?_
    refine lv_iload (pc := 343) E.1 E.2 dL_law_343 (lv_at hl 6 rfl) ?_
    refine z_iconst (pc := 345) E dL_law_345 ?_
    refine z_iadd (pc := 346) E dL_law_346 ?_
    refine z_sld (pc := 347) E hx hb hbA hS ⟨by omega, by omega⟩ hL dL_law_347 ?_
    have hKS : KS aK aV (Ax (fun k => s.heap.size + 187 + k) 6) s H := (hks.kept (fun a ha hna => hS.2.1 a ha hna)).narrow (fun q h => la_8 h)
    refine zs_wVi (pc := 348) (P := fun H : Heap => W8 G (fun k => s.heap.size + 187 + k) (mV (fun k => s.heap.size + 187 + k) μ) σ φ κ β ω H) (P1 := fun H : Heap => ∃ (μ1 φ1 : Int → Int), W8 G (fun k => s.heap.size + 187 + k) (mV (fun k => s.heap.size + 187 + k) μ1) (if ldX β (sx xs (i + 1)) = 0 then nxLoad σ (ldF β (sx xs (i + 1))) else σ) φ1 (if ldX β (sx xs (i + 1)) = 0 then keK κ σ (μ 3) else κ) β ω H ∧ (μ1 3 = if ldX β (sx xs (i + 1)) = 0 then keM (μ 3) else μ 3) ∧ μ1 4 = 0 ∧ μ1 6 = 0 ∧ (μ1 14 = if ldX β (sx xs (i + 1)) = 0 then -1 else ldP β (sx xs (i + 1))) ∧ μ1 17 = μ 17) (As := [.int (iI (sx xs (i + 1)))]) (rest := []) E hml hown hts (mX8_loadO l G (fun k => s.heap.size + 187 + k) μ σ φ κ β ω (sx xs (i + 1)) aK aV hR.ok.1 (sx_b _ _) hR.tx hR.m6 hR.m3 (by rw [← hR.e6]; exact kxLoad_ok hk)) (cwV 1 hts gL_law_X8_load rfl rfl rfl vdX8_load ⟨Nat.le_of_ble_eq_true rfl, Nat.le_of_ble_eq_true rfl⟩) (hW.1.recv hK rfl) hW ⟨hK, hKS⟩ hS (fun q h => la_8 h) rfl hl.1 rfl dL_law_348 ⟨by omega, by omega⟩ (Nat.le_of_ble_eq_true rfl) (fun H locs hW hsz hoth hS => ?_)
    have hQ := hQ.kp (fun k hk => hoth _ (hQ.lt k hk) (lb_8 hk))
    have hA := hA.kp (hoth _ hA.lt le_193)
    have hD := hD.kp (hoth _ hD.lt le_194)
    obtain ⟨μ1, φ1, hW, w3, w4, w6, w14, w17⟩ := hW
    refine lv_istore (pc := 351) (lv' := [(7, .int (iI ((if ldX β (sx xs (i + 1)) = 0 then ldF β (sx xs (i + 1)) 3 else ldX β (sx xs (i + 1)))))), (6, .int (iI (0))), (0, .ref (b)), (1, .ref (qo s.heap.size 0)), (2, .ref (s.heap.size + 187 + 0)), (3, .ref (s.heap.size + 193)), (4, .ref (s.heap.size + 194)), (5, .int (iI (i)))]) E.1 E.2 dL_law_351 hl (by decide) rfl (fun ls hl => ?_)
    refine lv_aload_n (pc := 353) E.1 E.2 dL_law_353 rfl (lv_at hl 4 rfl) ?_
    refine z_rVi (pc := 354) (As := []) (rest := []) E hml hown hts (mX8_thrown l G (fun k => s.heap.size + 187 + k) _ _ _ _ _ _) (cwV 0 hts gL_law_X8_thrown rfl rfl rfl vdX8_thrown ⟨Nat.le_of_ble_eq_true rfl, Nat.le_of_ble_eq_true rfl⟩) (hW.1.recv hK rfl) hW hK rfl hl.1 rfl dL_law_354 ⟨by omega, by omega⟩ (Nat.le_of_ble_eq_true rfl) ?_
    refine lv_iload (pc := 357) E.1 E.2 dL_law_357 (lv_at hl 1 rfl) ?_
    refine z_same (pc := 359) (tgt := 364) E w4 dL_law_359 (by decide) ?_
    refine lv_iload (pc := 364) E.1 E.2 dL_law_364 (lv_at hl 1 rfl) ?_
    refine z_if_ne (pc := 366) (tgt := 381) E (by decide) dL_law_366 (by decide) (fun h => absurd rfl h) (fun _ => ?_)
    refine lv_aload_n (pc := 369) E.1 E.2 dL_law_369 rfl (lv_at hl 5 rfl) ?_
    refine z_iconst (pc := 370) E dL_law_370 ?_
    refine z_laloadE (pc := 371) E hK hA (by decide) (by decide) (show zu fq 0 (rI ((if ldX β (sx xs (i + 1)) = 0 then ldF β (sx xs (i + 1)) 3 else ldX β (sx xs (i + 1))))) 0 = rI ((if ldX β (sx xs (i + 1)) = 0 then ldF β (sx xs (i + 1)) 3 else ldX β (sx xs (i + 1)))) from if_pos rfl) dL_law_371 ?_
    refine lv_iload (pc := 372) E.1 E.2 dL_law_372 (lv_at hl 0 rfl) ?_
    refine z_i2lR (pc := 374) E dL_law_374 ?_
    refine z_sameL (pc := 375) (tgt := 381) E rfl dL_law_375 dL_law_376 (by decide) ?_
    refine lv_goto (pc := 381) (tgt := 2822) E.1 E.2 dL_law_381 (by decide) ?_
    by_cases hx0 : ldX β (sx xs (i + 1)) = 0
    · simp only [if_pos hx0] at hQ hW v2 v3 v42 w3 w14
      refine W.widen (k := cells + 1) (n := slots + 6) (by omega) (by omega) ?_
      exact kk H locs ls ⟨⟨_, _, _, _, _, _, _, _, _, hQ, hW, hR.wr (ok_Load hR.ok β (kxLoad_ok hk).1) v2 v3 (v21.trans w6.symm) (by rw [w6]; decide) v31 (v42.trans w14.symm) w17 w3⟩, ⟨_, hA⟩, ⟨_, hD⟩⟩ hS (lv_sub hl [2, 3, 4, 5, 6, 7] rfl)
    · simp only [if_neg hx0] at hQ hW v2 v3 v42 w3 w14
      refine W.widen (k := cells + 1) (n := slots + 6) (by omega) (by omega) ?_
      exact kk H locs ls ⟨⟨_, _, _, _, _, _, _, _, _, hQ, hW, hR.lf v21 v31 (v42.trans w14.symm) v2 v3 w6 w17 w3⟩, ⟨_, hA⟩, ⟨_, hD⟩⟩ hS (lv_sub hl [2, 3, 4, 5, 6, 7] rfl)
  · refine z_lwc (pc := 336) (As := [.ref (qo s.heap.size 0), .int (iI (sx xs (i + 1))), .ref (s.heap.size + 193)]) (rest := []) E hml hown hts (mbL_load l hst G (qo s.heap.size) ν σ π δ β ω (sx xs (i + 1)) hR.ok.1 (sx_b _ _) (by have h1 := hR.m6; have h2 := hR.e6; omega) hk (s.heap.size + 193) fq) (vx_cwSW 3 hts gL_law_L_load rfl rfl rfl vdL_load.2 ⟨Nat.le_of_ble_eq_true rfl, Nat.le_of_ble_eq_true rfl⟩) ⟨hQ, hA⟩ hK hX hS (fun q h => h.elim) rfl hl.1 rfl dL_law_336 ⟨by omega, by omega⟩ (Nat.le_of_ble_eq_true rfl) (fun H locs hQA hsz hoth hS => ?_)
    obtain ⟨hQ, hA⟩ := hQA
    have hW := hW.kp (fun k hk => hoth _ (hW.lt k hk) (fun h => h))
    have hD := hD.kp (hoth _ hD.lt (fun h => h))
    have hkb : -2147483648 ≤ (kxLoad (ν 21) (sx xs (i + 1))) ∧ (kxLoad (ν 21) (sx xs (i + 1))) < 2147483648 := by unfold kxLoad; (try unfold kxPK); (repeat' split) <;> decide
    have hkn : ¬ (kxLoad (ν 21) (sx xs (i + 1))) = 0 := hk
    refine lv_istore (pc := 339) (lv' := [(6, .int (iI ((kxLoad (ν 21) (sx xs (i + 1)))))), (0, .ref (b)), (1, .ref (qo s.heap.size 0)), (2, .ref (s.heap.size + 187 + 0)), (3, .ref (s.heap.size + 193)), (4, .ref (s.heap.size + 194)), (5, .int (iI (i)))]) E.1 E.2 dL_law_339 hl (by decide) rfl (fun ls hl => ?_)
    refine lv_aload_n (pc := 341) E.1 E.2 dL_law_341 rfl (lv_at hl 3 rfl) ?_
    refine lv_aload_n (pc := 342) E.1 E.2 dL_law_342 rfl (lv_at hl 1 rfl) ?_
    refine lv_iload (pc := 343) E.1 E.2 dL_law_343 (lv_at hl 6 rfl) ?_
    refine z_iconst (pc := 345) E dL_law_345 ?_
    refine z_iadd (pc := 346) E dL_law_346 ?_
    refine z_sld (pc := 347) E hx hb hbA hS ⟨by omega, by omega⟩ hL dL_law_347 ?_
    refine z_wVi (pc := 348) (As := [.int (iI (sx xs (i + 1)))]) (rest := []) E hml hown hts (mX8_loadN l G (fun k => s.heap.size + 187 + k) μ σ φ κ β ω (sx xs (i + 1)) (sx_b _ _) hR.m6 (by rw [← hR.e6]; exact fun h => hk (by unfold kxLoad; exact if_pos h))) (cwV 1 hts gL_law_X8_load rfl rfl rfl vdX8_load ⟨Nat.le_of_ble_eq_true rfl, Nat.le_of_ble_eq_true rfl⟩) (hW.1.recv hK rfl) hW hK hS (fun q h => la_8 h) rfl hl.1 rfl dL_law_348 ⟨by omega, by omega⟩ (Nat.le_of_ble_eq_true rfl) (fun H locs hW hsz hoth hS => ?_)
    have hQ := hQ.kp (fun k hk => hoth _ (hQ.lt k hk) (lb_8 hk))
    have hA := hA.kp (hoth _ hA.lt le_193)
    have hD := hD.kp (hoth _ hD.lt le_194)
    refine lv_istore (pc := 351) (lv' := [(7, .int (iI (0))), (6, .int (iI ((kxLoad (ν 21) (sx xs (i + 1)))))), (0, .ref (b)), (1, .ref (qo s.heap.size 0)), (2, .ref (s.heap.size + 187 + 0)), (3, .ref (s.heap.size + 193)), (4, .ref (s.heap.size + 194)), (5, .int (iI (i)))]) E.1 E.2 dL_law_351 hl (by decide) rfl (fun ls hl => ?_)
    refine lv_aload_n (pc := 353) E.1 E.2 dL_law_353 rfl (lv_at hl 4 rfl) ?_
    refine z_rVi (pc := 354) (As := []) (rest := []) E hml hown hts (mX8_thrown l G (fun k => s.heap.size + 187 + k) _ _ _ _ _ _) (cwV 0 hts gL_law_X8_thrown rfl rfl rfl vdX8_thrown ⟨Nat.le_of_ble_eq_true rfl, Nat.le_of_ble_eq_true rfl⟩) (hW.1.recv hK rfl) hW hK rfl hl.1 rfl dL_law_354 ⟨by omega, by omega⟩ (Nat.le_of_ble_eq_true rfl) ?_
    refine lv_iload (pc := 357) E.1 E.2 dL_law_357 (lv_at hl 1 rfl) ?_
    refine z_same (pc := 359) (tgt := 364) E (show (1 : Int) = (kxLoad (ν 21) (sx xs (i + 1))) from (by unfold kxLoad at hk ⊢; split <;> first | rfl | (rename_i q; exact absurd (if_pos q) hk))) dL_law_359 (by decide) ?_
    refine lv_iload (pc := 364) E.1 E.2 dL_law_364 (lv_at hl 1 rfl) ?_
    refine z_if_ne (pc := 366) (tgt := 381) E hkb dL_law_366 (by decide) (fun _ => ?_) (fun h => absurd h hkn)
    refine lv_goto (pc := 381) (tgt := 2822) E.1 E.2 dL_law_381 (by decide) ?_
    refine W.widen (k := cells + 1) (n := slots + 6) (by omega) (by omega) ?_
    exact kk H locs ls ⟨⟨_, _, _, _, _, _, _, _, _, hQ, hW, hR.id rfl rfl rfl rfl⟩, ⟨_, hA⟩, ⟨_, hD⟩⟩ hS (lv_sub hl [2, 3, 4, 5, 6, 7] rfl)
set_option maxHeartbeats 1000000 in
set_option maxRecDepth 100000 in
theorem cs_errorPosition {p : Program} {l : Launch} {e : Env} {s : State} {m : MethodId} {below : List Frame} {meth : Method} {c : Code} {G : GG} {b L : Nat} {xs : Nat → Int32} {aK aV : Nat → Nat} (X : LX p l s m c G b L xs aK aV) {n : Nat} {i : Int} {H : Heap} {locs : List Loc} {ls : Array Slot} {cells slots : Nat} {Q : State → Prop} (hn : n ≤ 600) (hi : 0 ≤ i ∧ i + 6 ≤ (L : Int)) (hH : LH G n s.heap.size H) (hS : va_S (fun q => s.heap.size ≤ q) s.heap H locs) (hl : lv_has ls 8 [(0, .ref b), (1, .ref (qo s.heap.size 0)), (2, .ref (s.heap.size + 187 + 0)), (3, .ref (s.heap.size + 193)), (4, .ref (s.heap.size + 194)), (5, .int (iI i))]) (hc : cells + 1 ≤ room_1.cells) (hsl : slots + 6 ≤ room_1.slots) (kk : ∀ (H : Heap) (locs : List Loc) (ls : Array Slot), LH G (n + 1) s.heap.size H → va_S (fun q => s.heap.size ≤ q) s.heap H locs → lv_has ls 8 [(0, .ref b), (1, .ref (qo s.heap.size 0)), (2, .ref (s.heap.size + 187 + 0)), (3, .ref (s.heap.size + 193)), (4, .ref (s.heap.size + 194)), (5, .int (iI i))] → W p l e room_1 s m #[Value.ref b] below meth c H locs (cells + 1) (slots + 6) Q (F0 m 2822 ls [])) : W p l e room_1 s m #[Value.ref b] below meth c H locs cells slots Q (F0 m 384 ls []) := by
  obtain ⟨E, hml, hown, hts, hK, hX0, hx, hb, hst, hL, hks⟩ := X
  obtain ⟨⟨ν, σ, π, δ, β, ω, μ, φ, κ, hQ, hW, hR⟩, ⟨fq, hA⟩, ⟨xq, hD⟩⟩ := hH
  have hX : KX FF0 s H := (hX0.kept (fun a ha hna => hS.2.1 a ha hna)).narrow (fun q h => h.elim)
  have hbA : ¬ (s.heap.size ≤ b) := by omega
  refine lv_aload_n (pc := 384) E.1 E.2 dL_law_384 rfl (lv_at hl 1 rfl) ?_
  refine z_rVi (pc := 385) (As := []) (rest := []) E hml hown hts (mX7_errorPosition l G (qo s.heap.size) ν σ π δ (fun j => sg8 (β j)) ω hR.ok.1) (cwV 0 hts gL_law_X7_errorPosition rfl rfl rfl vdX7_errorPosition ⟨Nat.le_of_ble_eq_true rfl, Nat.le_of_ble_eq_true rfl⟩) (hQ.ob.recv hK rfl) hQ hK rfl hl.1 rfl dL_law_385 ⟨by omega, by omega⟩ (Nat.le_of_ble_eq_true rfl) ?_
  refine lv_aload_n (pc := 388) E.1 E.2 dL_law_388 rfl (lv_at hl 2 rfl) ?_
  refine z_wVi (pc := 389) (As := []) (rest := [.int (iI ((ν 42)))]) E hml hown hts (mX8_errorPosition l G (fun k => s.heap.size + 187 + k) μ σ φ κ β ω hR.ok.1) (cwV 0 hts gL_law_X8_errorPosition rfl rfl rfl vdX8_errorPosition ⟨Nat.le_of_ble_eq_true rfl, Nat.le_of_ble_eq_true rfl⟩) (hW.1.recv hK rfl) hW hK hS (fun q h => la_8 h) rfl hl.1 rfl dL_law_389 ⟨by omega, by omega⟩ (Nat.le_of_ble_eq_true rfl) (fun H locs hW hsz hoth hS => ?_)
  have hQ := hQ.kp (fun k hk => hoth _ (hQ.lt k hk) (lb_8 hk))
  have hA := hA.kp (hoth _ hA.lt le_193)
  have hD := hD.kp (hoth _ hD.lt le_194)
  refine z_same (pc := 392) (tgt := 2822) E hR.e14 dL_law_392 (by decide) ?_
  refine W.widen (k := cells + 1) (n := slots + 6) (by omega) (by omega) ?_
  exact kk H locs ls ⟨⟨_, _, _, _, _, _, _, _, _, hQ, hW, hR.id rfl rfl rfl rfl⟩, ⟨_, hA⟩, ⟨_, hD⟩⟩ hS (lv_sub hl [0, 1, 2, 3, 4, 5] rfl)
set_option maxHeartbeats 1000000 in
set_option maxRecDepth 100000 in
theorem cs_count {p : Program} {l : Launch} {e : Env} {s : State} {m : MethodId} {below : List Frame} {meth : Method} {c : Code} {G : GG} {b L : Nat} {xs : Nat → Int32} {aK aV : Nat → Nat} (X : LX p l s m c G b L xs aK aV) {n : Nat} {i : Int} {H : Heap} {locs : List Loc} {ls : Array Slot} {cells slots : Nat} {Q : State → Prop} (hn : n ≤ 600) (hi : 0 ≤ i ∧ i + 6 ≤ (L : Int)) (hH : LH G n s.heap.size H) (hS : va_S (fun q => s.heap.size ≤ q) s.heap H locs) (hl : lv_has ls 8 [(0, .ref b), (1, .ref (qo s.heap.size 0)), (2, .ref (s.heap.size + 187 + 0)), (3, .ref (s.heap.size + 193)), (4, .ref (s.heap.size + 194)), (5, .int (iI i))]) (hc : cells + 1 ≤ room_1.cells) (hsl : slots + 6 ≤ room_1.slots) (kk : ∀ (H : Heap) (locs : List Loc) (ls : Array Slot), LH G (n + 1) s.heap.size H → va_S (fun q => s.heap.size ≤ q) s.heap H locs → lv_has ls 8 [(0, .ref b), (1, .ref (qo s.heap.size 0)), (2, .ref (s.heap.size + 187 + 0)), (3, .ref (s.heap.size + 193)), (4, .ref (s.heap.size + 194)), (5, .int (iI i))] → W p l e room_1 s m #[Value.ref b] below meth c H locs (cells + 1) (slots + 6) Q (F0 m 2822 ls [])) : W p l e room_1 s m #[Value.ref b] below meth c H locs cells slots Q (F0 m 397 ls []) := by
  obtain ⟨E, hml, hown, hts, hK, hX0, hx, hb, hst, hL, hks⟩ := X
  obtain ⟨⟨ν, σ, π, δ, β, ω, μ, φ, κ, hQ, hW, hR⟩, ⟨fq, hA⟩, ⟨xq, hD⟩⟩ := hH
  have hX : KX FF0 s H := (hX0.kept (fun a ha hna => hS.2.1 a ha hna)).narrow (fun q h => h.elim)
  have hbA : ¬ (s.heap.size ≤ b) := by omega
  refine lv_aload_n (pc := 397) E.1 E.2 dL_law_397 rfl (lv_at hl 1 rfl) ?_
  refine lv_aload_n (pc := 398) E.1 E.2 dL_law_398 rfl (lv_at hl 0 rfl) ?_
  refine lv_iload (pc := 399) E.1 E.2 dL_law_399 (lv_at hl 5 rfl) ?_
  refine z_iconst (pc := 401) E dL_law_401 ?_
  refine z_iadd (pc := 402) E dL_law_402 ?_
  refine z_sld (pc := 403) E hx hb hbA hS ⟨by omega, by omega⟩ hL dL_law_403 ?_
  refine lv_aload_n (pc := 404) E.1 E.2 dL_law_404 rfl (lv_at hl 3 rfl) ?_
  by_cases hk : (kxCount (sx xs (i + 1))) = 0
  · refine z_lwc (pc := 405) (As := [.ref (qo s.heap.size 0), .int (iI (sx xs (i + 1))), .ref (s.heap.size + 193)]) (rest := []) E hml hown hts (mL_count l G (qo s.heap.size) ν σ π δ (fun j => sg8 (β j)) ω (sx xs (i + 1)) hR.ok.1 (sx_b _ _) hk (s.heap.size + 193) fq (fun k hk => by have := qo_b s.heap.size hk; omega)) (vx_cwSW 3 hts gL_law_L_count rfl rfl rfl vdL_count.2 ⟨Nat.le_of_ble_eq_true rfl, Nat.le_of_ble_eq_true rfl⟩) ⟨hQ, hA⟩ hK hX hS (fun q h => la_193 h) rfl hl.1 rfl dL_law_405 ⟨by omega, by omega⟩ (Nat.le_of_ble_eq_true rfl) (fun H locs hQA hsz hoth hS => ?_)
    obtain ⟨hQ, hA⟩ := hQA
    have hW := hW.kp (fun k hk => hoth _ (hW.lt k hk) (lb_193 hk))
    have hD := hD.kp (hoth _ hD.lt lc_193)
    refine lv_istore (pc := 408) (lv' := [(6, .int (iI (0))), (0, .ref (b)), (1, .ref (qo s.heap.size 0)), (2, .ref (s.heap.size + 187 + 0)), (3, .ref (s.heap.size + 193)), (4, .ref (s.heap.size + 194)), (5, .int (iI (i)))]) E.1 E.2 dL_law_408 hl (by decide) rfl (fun ls hl => ?_)
    refine lv_aload_n (pc := 410) E.1 E.2 dL_law_410 rfl (lv_at hl 3 rfl) ?_
    refine lv_aload_n (pc := 411) E.1 E.2 dL_law_411 rfl (lv_at hl 1 rfl) ?_
    refine lv_iload (pc := 412) E.1 E.2 dL_law_412 (lv_at hl 6 rfl) ?_
    refine z_iconst (pc := 414) E dL_law_414 ?_
    refine z_iadd (pc := 415) E dL_law_415 ?_
    refine z_sld (pc := 416) E hx hb hbA hS ⟨by omega, by omega⟩ hL dL_law_416 ?_
    refine z_wVi (pc := 417) (As := [.int (iI (sx xs (i + 1)))]) (rest := []) E hml hown hts (mX8_count l G (fun k => s.heap.size + 187 + k) μ σ φ κ β ω (sx xs (i + 1)) hR.ok.1 (sx_b _ _)) (cwV 1 hts gL_law_X8_count rfl rfl rfl vdX8_count ⟨Nat.le_of_ble_eq_true rfl, Nat.le_of_ble_eq_true rfl⟩) (hW.1.recv hK rfl) hW hK hS (fun q h => la_8 h) rfl hl.1 rfl dL_law_417 ⟨by omega, by omega⟩ (Nat.le_of_ble_eq_true rfl) (fun H locs hW hsz hoth hS => ?_)
    have hQ := hQ.kp (fun k hk => hoth _ (hQ.lt k hk) (lb_8 hk))
    have hA := hA.kp (hoth _ hA.lt le_193)
    have hD := hD.kp (hoth _ hD.lt le_194)
    have hk8 := hk
    try simp only [if_pos hk8] at hW
    refine lv_istore (pc := 420) (lv' := [(7, .int (iI ((if (kxCount (sx xs (i + 1))) = 0 then axCount σ (sx xs (i + 1)) else 0)))), (6, .int (iI (0))), (0, .ref (b)), (1, .ref (qo s.heap.size 0)), (2, .ref (s.heap.size + 187 + 0)), (3, .ref (s.heap.size + 193)), (4, .ref (s.heap.size + 194)), (5, .int (iI (i)))]) E.1 E.2 dL_law_420 hl (by decide) rfl (fun ls hl => ?_)
    refine lv_aload_n (pc := 422) E.1 E.2 dL_law_422 rfl (lv_at hl 4 rfl) ?_
    refine z_rVi (pc := 423) (As := []) (rest := []) E hml hown hts (mX8_thrown l G (fun k => s.heap.size + 187 + k) _ _ _ _ _ _) (cwV 0 hts gL_law_X8_thrown rfl rfl rfl vdX8_thrown ⟨Nat.le_of_ble_eq_true rfl, Nat.le_of_ble_eq_true rfl⟩) (hW.1.recv hK rfl) hW hK rfl hl.1 rfl dL_law_423 ⟨by omega, by omega⟩ (Nat.le_of_ble_eq_true rfl) ?_
    refine lv_iload (pc := 426) E.1 E.2 dL_law_426 (lv_at hl 1 rfl) ?_
    refine z_same (pc := 428) (tgt := 433) E hk8 dL_law_428 (by decide) ?_
    refine lv_iload (pc := 433) E.1 E.2 dL_law_433 (lv_at hl 1 rfl) ?_
    refine z_if_ne (pc := 435) (tgt := 450) E (by decide) dL_law_435 (by decide) (fun h => absurd rfl h) (fun _ => ?_)
    refine lv_aload_n (pc := 438) E.1 E.2 dL_law_438 rfl (lv_at hl 5 rfl) ?_
    refine z_iconst (pc := 439) E dL_law_439 ?_
    refine z_laloadE (pc := 440) E hK hA (by decide) (by decide) (show zu fq 0 (rI ((axCount σ (sx xs (i + 1))))) 0 = rI ((axCount σ (sx xs (i + 1)))) from if_pos rfl) dL_law_440 ?_
    refine lv_iload (pc := 441) E.1 E.2 dL_law_441 (lv_at hl 0 rfl) ?_
    refine z_i2lR (pc := 443) E dL_law_443 ?_
    refine z_sameL (pc := 444) (tgt := 450) E (if_pos hk8).symm dL_law_444 dL_law_445 (by decide) ?_
    refine lv_goto (pc := 450) (tgt := 2822) E.1 E.2 dL_law_450 (by decide) ?_
    refine W.widen (k := cells + 1) (n := slots + 6) (by omega) (by omega) ?_
    exact kk H locs ls ⟨⟨_, _, _, _, _, _, _, _, _, hQ, hW, hR.id rfl rfl rfl rfl⟩, ⟨_, hA⟩, ⟨_, hD⟩⟩ hS (lv_sub hl [2, 3, 4, 5, 6, 7] rfl)
  · refine z_lwc (pc := 405) (As := [.ref (qo s.heap.size 0), .int (iI (sx xs (i + 1))), .ref (s.heap.size + 193)]) (rest := []) E hml hown hts (mbL_count l hst G (qo s.heap.size) ν σ π δ (fun j => sg8 (β j)) ω (sx xs (i + 1)) hR.ok.1 (sx_b _ _) hk (s.heap.size + 193) fq) (vx_cwSW 3 hts gL_law_L_count rfl rfl rfl vdL_count.2 ⟨Nat.le_of_ble_eq_true rfl, Nat.le_of_ble_eq_true rfl⟩) ⟨hQ, hA⟩ hK hX hS (fun q h => h.elim) rfl hl.1 rfl dL_law_405 ⟨by omega, by omega⟩ (Nat.le_of_ble_eq_true rfl) (fun H locs hQA hsz hoth hS => ?_)
    obtain ⟨hQ, hA⟩ := hQA
    have hW := hW.kp (fun k hk => hoth _ (hW.lt k hk) (fun h => h))
    have hD := hD.kp (hoth _ hD.lt (fun h => h))
    have hkb : -2147483648 ≤ (kxCount (sx xs (i + 1))) ∧ (kxCount (sx xs (i + 1))) < 2147483648 := by unfold kxCount; (try unfold kxPK); (repeat' split) <;> decide
    have hkn : ¬ (kxCount (sx xs (i + 1))) = 0 := hk
    refine lv_istore (pc := 408) (lv' := [(6, .int (iI ((kxCount (sx xs (i + 1)))))), (0, .ref (b)), (1, .ref (qo s.heap.size 0)), (2, .ref (s.heap.size + 187 + 0)), (3, .ref (s.heap.size + 193)), (4, .ref (s.heap.size + 194)), (5, .int (iI (i)))]) E.1 E.2 dL_law_408 hl (by decide) rfl (fun ls hl => ?_)
    refine lv_aload_n (pc := 410) E.1 E.2 dL_law_410 rfl (lv_at hl 3 rfl) ?_
    refine lv_aload_n (pc := 411) E.1 E.2 dL_law_411 rfl (lv_at hl 1 rfl) ?_
    refine lv_iload (pc := 412) E.1 E.2 dL_law_412 (lv_at hl 6 rfl) ?_
    refine z_iconst (pc := 414) E dL_law_414 ?_
    refine z_iadd (pc := 415) E dL_law_415 ?_
    refine z_sld (pc := 416) E hx hb hbA hS ⟨by omega, by omega⟩ hL dL_law_416 ?_
    refine z_wVi (pc := 417) (As := [.int (iI (sx xs (i + 1)))]) (rest := []) E hml hown hts (mX8_count l G (fun k => s.heap.size + 187 + k) μ σ φ κ β ω (sx xs (i + 1)) hR.ok.1 (sx_b _ _)) (cwV 1 hts gL_law_X8_count rfl rfl rfl vdX8_count ⟨Nat.le_of_ble_eq_true rfl, Nat.le_of_ble_eq_true rfl⟩) (hW.1.recv hK rfl) hW hK hS (fun q h => la_8 h) rfl hl.1 rfl dL_law_417 ⟨by omega, by omega⟩ (Nat.le_of_ble_eq_true rfl) (fun H locs hW hsz hoth hS => ?_)
    have hQ := hQ.kp (fun k hk => hoth _ (hQ.lt k hk) (lb_8 hk))
    have hA := hA.kp (hoth _ hA.lt le_193)
    have hD := hD.kp (hoth _ hD.lt le_194)
    have hk8 := hk
    try simp only [if_neg hk8] at hW
    refine lv_istore (pc := 420) (lv' := [(7, .int (iI ((if (kxCount (sx xs (i + 1))) = 0 then axCount σ (sx xs (i + 1)) else 0)))), (6, .int (iI ((kxCount (sx xs (i + 1)))))), (0, .ref (b)), (1, .ref (qo s.heap.size 0)), (2, .ref (s.heap.size + 187 + 0)), (3, .ref (s.heap.size + 193)), (4, .ref (s.heap.size + 194)), (5, .int (iI (i)))]) E.1 E.2 dL_law_420 hl (by decide) rfl (fun ls hl => ?_)
    refine lv_aload_n (pc := 422) E.1 E.2 dL_law_422 rfl (lv_at hl 4 rfl) ?_
    refine z_rVi (pc := 423) (As := []) (rest := []) E hml hown hts (mX8_thrown l G (fun k => s.heap.size + 187 + k) _ _ _ _ _ _) (cwV 0 hts gL_law_X8_thrown rfl rfl rfl vdX8_thrown ⟨Nat.le_of_ble_eq_true rfl, Nat.le_of_ble_eq_true rfl⟩) (hW.1.recv hK rfl) hW hK rfl hl.1 rfl dL_law_423 ⟨by omega, by omega⟩ (Nat.le_of_ble_eq_true rfl) ?_
    refine lv_iload (pc := 426) E.1 E.2 dL_law_426 (lv_at hl 1 rfl) ?_
    refine z_same (pc := 428) (tgt := 433) E rfl dL_law_428 (by decide) ?_
    refine lv_iload (pc := 433) E.1 E.2 dL_law_433 (lv_at hl 1 rfl) ?_
    refine z_if_ne (pc := 435) (tgt := 450) E hkb dL_law_435 (by decide) (fun _ => ?_) (fun h => absurd h hkn)
    refine lv_goto (pc := 450) (tgt := 2822) E.1 E.2 dL_law_450 (by decide) ?_
    refine W.widen (k := cells + 1) (n := slots + 6) (by omega) (by omega) ?_
    exact kk H locs ls ⟨⟨_, _, _, _, _, _, _, _, _, hQ, hW, hR.id rfl rfl rfl rfl⟩, ⟨_, hA⟩, ⟨_, hD⟩⟩ hS (lv_sub hl [2, 3, 4, 5, 6, 7] rfl)
set_option maxHeartbeats 1000000 in
set_option maxRecDepth 100000 in
theorem cs_find {p : Program} {l : Launch} {e : Env} {s : State} {m : MethodId} {below : List Frame} {meth : Method} {c : Code} {G : GG} {b L : Nat} {xs : Nat → Int32} {aK aV : Nat → Nat} (X : LX p l s m c G b L xs aK aV) {n : Nat} {i : Int} {H : Heap} {locs : List Loc} {ls : Array Slot} {cells slots : Nat} {Q : State → Prop} (hn : n ≤ 600) (hi : 0 ≤ i ∧ i + 6 ≤ (L : Int)) (hH : LH G n s.heap.size H) (hS : va_S (fun q => s.heap.size ≤ q) s.heap H locs) (hl : lv_has ls 8 [(0, .ref b), (1, .ref (qo s.heap.size 0)), (2, .ref (s.heap.size + 187 + 0)), (3, .ref (s.heap.size + 193)), (4, .ref (s.heap.size + 194)), (5, .int (iI i))]) (hc : cells + 1 ≤ room_1.cells) (hsl : slots + 6 ≤ room_1.slots) (kk : ∀ (H : Heap) (locs : List Loc) (ls : Array Slot), LH G (n + 1) s.heap.size H → va_S (fun q => s.heap.size ≤ q) s.heap H locs → lv_has ls 8 [(0, .ref b), (1, .ref (qo s.heap.size 0)), (2, .ref (s.heap.size + 187 + 0)), (3, .ref (s.heap.size + 193)), (4, .ref (s.heap.size + 194)), (5, .int (iI i))] → W p l e room_1 s m #[Value.ref b] below meth c H locs (cells + 1) (slots + 6) Q (F0 m 2822 ls [])) : W p l e room_1 s m #[Value.ref b] below meth c H locs cells slots Q (F0 m 453 ls []) := by
  obtain ⟨E, hml, hown, hts, hK, hX0, hx, hb, hst, hL, hks⟩ := X
  obtain ⟨⟨ν, σ, π, δ, β, ω, μ, φ, κ, hQ, hW, hR⟩, ⟨fq, hA⟩, ⟨xq, hD⟩⟩ := hH
  have hX : KX FF0 s H := (hX0.kept (fun a ha hna => hS.2.1 a ha hna)).narrow (fun q h => h.elim)
  have hbA : ¬ (s.heap.size ≤ b) := by omega
  refine lv_aload_n (pc := 453) E.1 E.2 dL_law_453 rfl (lv_at hl 1 rfl) ?_
  refine lv_aload_n (pc := 454) E.1 E.2 dL_law_454 rfl (lv_at hl 0 rfl) ?_
  refine lv_iload (pc := 455) E.1 E.2 dL_law_455 (lv_at hl 5 rfl) ?_
  refine z_iconst (pc := 457) E dL_law_457 ?_
  refine z_iadd (pc := 458) E dL_law_458 ?_
  refine z_sld (pc := 459) E hx hb hbA hS ⟨by omega, by omega⟩ hL dL_law_459 ?_
  refine z_i2lW (pc := 460) E dL_law_460 ?_
  refine z_bipush (pc := 461) E (by decide) dL_law_461 ?_
  refine lv_lshl (pc := 463) E.1 E.2 dL_law_463 rfl ?_
  refine lv_aload_n (pc := 464) E.1 E.2 dL_law_464 rfl (lv_at hl 0 rfl) ?_
  refine lv_iload (pc := 465) E.1 E.2 dL_law_465 (lv_at hl 5 rfl) ?_
  refine z_iconst (pc := 467) E dL_law_467 ?_
  refine z_iadd (pc := 468) E dL_law_468 ?_
  refine z_sld (pc := 469) E hx hb hbA hS ⟨by omega, by omega⟩ hL dL_law_469 ?_
  refine z_i2lW (pc := 470) E dL_law_470 ?_
  refine lv_ldc2 (pc := 471) (v := iL (4294967295)) E.1 E.2 hown (show (Jvm.Cond.constantLong RL 161 (iL (4294967295))).before _ s = true from (hts _ (List.mem_of_getElem? (i := 8) rfl))) dL_law_471 ?_
  refine lv_land (pc := 474) E.1 E.2 dL_law_474 ?_
  refine z_lorJ (pc := 475) (a := sx xs (i + 1)) (b := sx xs (i + 2)) E dL_law_475 ?_
  refine z_rVi (pc := 476) (As := [.long (iL (lwJ (sx xs (i + 1)) (sx xs (i + 2))))]) (rest := []) E hml hown hts (mX7_find l G (qo s.heap.size) ν σ π δ (fun j => sg8 (β j)) ω (lwJ (sx xs (i + 1)) (sx xs (i + 2))) hR.ok.1 (lwJ_b _ _)) (cwV 1 hts gL_law_X7_find rfl rfl rfl vdX7_find ⟨Nat.le_of_ble_eq_true rfl, Nat.le_of_ble_eq_true rfl⟩) (hQ.ob.recv hK rfl) hQ hK rfl hl.1 rfl dL_law_476 ⟨by omega, by omega⟩ (Nat.le_of_ble_eq_true rfl) ?_
  refine lv_aload_n (pc := 479) E.1 E.2 dL_law_479 rfl (lv_at hl 2 rfl) ?_
  refine lv_aload_n (pc := 480) E.1 E.2 dL_law_480 rfl (lv_at hl 0 rfl) ?_
  refine lv_iload (pc := 481) E.1 E.2 dL_law_481 (lv_at hl 5 rfl) ?_
  refine z_iconst (pc := 483) E dL_law_483 ?_
  refine z_iadd (pc := 484) E dL_law_484 ?_
  refine z_sld (pc := 485) E hx hb hbA hS ⟨by omega, by omega⟩ hL dL_law_485 ?_
  refine z_i2lW (pc := 486) E dL_law_486 ?_
  refine z_bipush (pc := 487) E (by decide) dL_law_487 ?_
  refine lv_lshl (pc := 489) E.1 E.2 dL_law_489 rfl ?_
  refine lv_aload_n (pc := 490) E.1 E.2 dL_law_490 rfl (lv_at hl 0 rfl) ?_
  refine lv_iload (pc := 491) E.1 E.2 dL_law_491 (lv_at hl 5 rfl) ?_
  refine z_iconst (pc := 493) E dL_law_493 ?_
  refine z_iadd (pc := 494) E dL_law_494 ?_
  refine z_sld (pc := 495) E hx hb hbA hS ⟨by omega, by omega⟩ hL dL_law_495 ?_
  refine z_i2lW (pc := 496) E dL_law_496 ?_
  refine lv_ldc2 (pc := 497) (v := iL (4294967295)) E.1 E.2 hown (show (Jvm.Cond.constantLong RL 161 (iL (4294967295))).before _ s = true from (hts _ (List.mem_of_getElem? (i := 8) rfl))) dL_law_497 ?_
  refine lv_land (pc := 500) E.1 E.2 dL_law_500 ?_
  refine z_lorJ (pc := 501) (a := sx xs (i + 1)) (b := sx xs (i + 2)) E dL_law_501 ?_
  refine z_wVi (pc := 502) (As := [.long (iL (lwJ (sx xs (i + 1)) (sx xs (i + 2))))]) (rest := [.int (iI ((fnS σ (lwJ (sx xs (i + 1)) (sx xs (i + 2))) 0)))]) E hml hown hts (mX8_find l G (fun k => s.heap.size + 187 + k) μ σ φ κ β ω (lwJ (sx xs (i + 1)) (sx xs (i + 2))) hR.ok.1 (lwJ_b _ _)) (cwV 1 hts gL_law_X8_find rfl rfl rfl vdX8_find ⟨Nat.le_of_ble_eq_true rfl, Nat.le_of_ble_eq_true rfl⟩) (hW.1.recv hK rfl) hW hK hS (fun q h => la_8 h) rfl hl.1 rfl dL_law_502 ⟨by omega, by omega⟩ (Nat.le_of_ble_eq_true rfl) (fun H locs hW hsz hoth hS => ?_)
  have hQ := hQ.kp (fun k hk => hoth _ (hQ.lt k hk) (lb_8 hk))
  have hA := hA.kp (hoth _ hA.lt le_193)
  have hD := hD.kp (hoth _ hD.lt le_194)
  refine z_same (pc := 505) (tgt := 2822) E rfl dL_law_505 (by decide) ?_
  refine W.widen (k := cells + 1) (n := slots + 6) (by omega) (by omega) ?_
  exact kk H locs ls ⟨⟨_, _, _, _, _, _, _, _, _, hQ, hW, hR.id rfl rfl rfl rfl⟩, ⟨_, hA⟩, ⟨_, hD⟩⟩ hS (lv_sub hl [0, 1, 2, 3, 4, 5] rfl)
set_option maxHeartbeats 1000000 in
set_option maxRecDepth 100000 in
theorem cs_folder {p : Program} {l : Launch} {e : Env} {s : State} {m : MethodId} {below : List Frame} {meth : Method} {c : Code} {G : GG} {b L : Nat} {xs : Nat → Int32} {aK aV : Nat → Nat} (X : LX p l s m c G b L xs aK aV) {n : Nat} {i : Int} {H : Heap} {locs : List Loc} {ls : Array Slot} {cells slots : Nat} {Q : State → Prop} (hn : n ≤ 600) (hi : 0 ≤ i ∧ i + 6 ≤ (L : Int)) (hH : LH G n s.heap.size H) (hS : va_S (fun q => s.heap.size ≤ q) s.heap H locs) (hl : lv_has ls 8 [(0, .ref b), (1, .ref (qo s.heap.size 0)), (2, .ref (s.heap.size + 187 + 0)), (3, .ref (s.heap.size + 193)), (4, .ref (s.heap.size + 194)), (5, .int (iI i))]) (hc : cells + 1 ≤ room_1.cells) (hsl : slots + 6 ≤ room_1.slots) (kk : ∀ (H : Heap) (locs : List Loc) (ls : Array Slot), LH G (n + 1) s.heap.size H → va_S (fun q => s.heap.size ≤ q) s.heap H locs → lv_has ls 8 [(0, .ref b), (1, .ref (qo s.heap.size 0)), (2, .ref (s.heap.size + 187 + 0)), (3, .ref (s.heap.size + 193)), (4, .ref (s.heap.size + 194)), (5, .int (iI i))] → W p l e room_1 s m #[Value.ref b] below meth c H locs (cells + 1) (slots + 6) Q (F0 m 2822 ls [])) : W p l e room_1 s m #[Value.ref b] below meth c H locs cells slots Q (F0 m 510 ls []) := by
  obtain ⟨E, hml, hown, hts, hK, hX0, hx, hb, hst, hL, hks⟩ := X
  obtain ⟨⟨ν, σ, π, δ, β, ω, μ, φ, κ, hQ, hW, hR⟩, ⟨fq, hA⟩, ⟨xq, hD⟩⟩ := hH
  have hX : KX FF0 s H := (hX0.kept (fun a ha hna => hS.2.1 a ha hna)).narrow (fun q h => h.elim)
  have hbA : ¬ (s.heap.size ≤ b) := by omega
  refine lv_aload_n (pc := 510) E.1 E.2 dL_law_510 rfl (lv_at hl 1 rfl) ?_
  refine lv_aload_n (pc := 511) E.1 E.2 dL_law_511 rfl (lv_at hl 0 rfl) ?_
  refine lv_iload (pc := 512) E.1 E.2 dL_law_512 (lv_at hl 5 rfl) ?_
  refine z_iconst (pc := 514) E dL_law_514 ?_
  refine z_iadd (pc := 515) E dL_law_515 ?_
  refine z_sld (pc := 516) E hx hb hbA hS ⟨by omega, by omega⟩ hL dL_law_516 ?_
  refine lv_aload_n (pc := 517) E.1 E.2 dL_law_517 rfl (lv_at hl 0 rfl) ?_
  refine lv_iload (pc := 518) E.1 E.2 dL_law_518 (lv_at hl 5 rfl) ?_
  refine z_iconst (pc := 520) E dL_law_520 ?_
  refine z_iadd (pc := 521) E dL_law_521 ?_
  refine z_sld (pc := 522) E hx hb hbA hS ⟨by omega, by omega⟩ hL dL_law_522 ?_
  refine lv_aload_n (pc := 523) E.1 E.2 dL_law_523 rfl (lv_at hl 3 rfl) ?_
  by_cases hk : (kxFolder σ (sx xs (i + 1)) (sx xs (i + 2))) = 0
  · refine z_lwc (pc := 524) (As := [.ref (qo s.heap.size 0), .int (iI (sx xs (i + 1))), .int (iI (sx xs (i + 2))), .ref (s.heap.size + 193)]) (rest := []) E hml hown hts (mL_folder l G (qo s.heap.size) ν σ π δ (fun j => sg8 (β j)) ω (sx xs (i + 1)) (sx xs (i + 2)) hR.ok.1 (sx_b _ _) (sx_b _ _) hk (s.heap.size + 193) fq (fun k hk => by have := qo_b s.heap.size hk; omega)) (vx_cwSW 4 hts gL_law_L_folder rfl rfl rfl vdL_folder.2 ⟨Nat.le_of_ble_eq_true rfl, Nat.le_of_ble_eq_true rfl⟩) ⟨hQ, hA⟩ hK hX hS (fun q h => la_193 h) rfl hl.1 rfl dL_law_524 ⟨by omega, by omega⟩ (Nat.le_of_ble_eq_true rfl) (fun H locs hQA hsz hoth hS => ?_)
    obtain ⟨hQ, hA⟩ := hQA
    have hW := hW.kp (fun k hk => hoth _ (hW.lt k hk) (lb_193 hk))
    have hD := hD.kp (hoth _ hD.lt lc_193)
    refine lv_istore (pc := 527) (lv' := [(6, .int (iI (0))), (0, .ref (b)), (1, .ref (qo s.heap.size 0)), (2, .ref (s.heap.size + 187 + 0)), (3, .ref (s.heap.size + 193)), (4, .ref (s.heap.size + 194)), (5, .int (iI (i)))]) E.1 E.2 dL_law_527 hl (by decide) rfl (fun ls hl => ?_)
    refine lv_aload_n (pc := 529) E.1 E.2 dL_law_529 rfl (lv_at hl 3 rfl) ?_
    refine lv_aload_n (pc := 530) E.1 E.2 dL_law_530 rfl (lv_at hl 1 rfl) ?_
    refine lv_iload (pc := 531) E.1 E.2 dL_law_531 (lv_at hl 6 rfl) ?_
    refine z_iconst (pc := 533) E dL_law_533 ?_
    refine z_iadd (pc := 534) E dL_law_534 ?_
    refine z_sld (pc := 535) E hx hb hbA hS ⟨by omega, by omega⟩ hL dL_law_535 ?_
    refine lv_aload_n (pc := 536) E.1 E.2 dL_law_536 rfl (lv_at hl 1 rfl) ?_
    refine lv_iload (pc := 537) E.1 E.2 dL_law_537 (lv_at hl 6 rfl) ?_
    refine z_iconst (pc := 539) E dL_law_539 ?_
    refine z_iadd (pc := 540) E dL_law_540 ?_
    refine z_sld (pc := 541) E hx hb hbA hS ⟨by omega, by omega⟩ hL dL_law_541 ?_
    refine z_wVi (pc := 542) (As := [.int (iI (sx xs (i + 1))), .int (iI (sx xs (i + 2)))]) (rest := []) E hml hown hts (mX8_folder l G (fun k => s.heap.size + 187 + k) μ σ φ κ β ω (sx xs (i + 1)) (sx xs (i + 2)) hR.ok.1 (sx_b _ _) (sx_b _ _)) (cwV 2 hts gL_law_X8_folder rfl rfl rfl vdX8_folder ⟨Nat.le_of_ble_eq_true rfl, Nat.le_of_ble_eq_true rfl⟩) (hW.1.recv hK rfl) hW hK hS (fun q h => la_8 h) rfl hl.1 rfl dL_law_542 ⟨by omega, by omega⟩ (Nat.le_of_ble_eq_true rfl) (fun H locs hW hsz hoth hS => ?_)
    have hQ := hQ.kp (fun k hk => hoth _ (hQ.lt k hk) (lb_8 hk))
    have hA := hA.kp (hoth _ hA.lt le_193)
    have hD := hD.kp (hoth _ hD.lt le_194)
    have hk8 := hk
    try simp only [if_pos hk8] at hW
    refine lv_istore (pc := 545) (lv' := [(7, .int (iI ((if (kxFolder σ (sx xs (i + 1)) (sx xs (i + 2))) = 0 then axFolder σ (sx xs (i + 1)) (sx xs (i + 2)) else 0)))), (6, .int (iI (0))), (0, .ref (b)), (1, .ref (qo s.heap.size 0)), (2, .ref (s.heap.size + 187 + 0)), (3, .ref (s.heap.size + 193)), (4, .ref (s.heap.size + 194)), (5, .int (iI (i)))]) E.1 E.2 dL_law_545 hl (by decide) rfl (fun ls hl => ?_)
    refine lv_aload_n (pc := 547) E.1 E.2 dL_law_547 rfl (lv_at hl 4 rfl) ?_
    refine z_rVi (pc := 548) (As := []) (rest := []) E hml hown hts (mX8_thrown l G (fun k => s.heap.size + 187 + k) _ _ _ _ _ _) (cwV 0 hts gL_law_X8_thrown rfl rfl rfl vdX8_thrown ⟨Nat.le_of_ble_eq_true rfl, Nat.le_of_ble_eq_true rfl⟩) (hW.1.recv hK rfl) hW hK rfl hl.1 rfl dL_law_548 ⟨by omega, by omega⟩ (Nat.le_of_ble_eq_true rfl) ?_
    refine lv_iload (pc := 551) E.1 E.2 dL_law_551 (lv_at hl 1 rfl) ?_
    refine z_same (pc := 553) (tgt := 558) E hk8 dL_law_553 (by decide) ?_
    refine lv_iload (pc := 558) E.1 E.2 dL_law_558 (lv_at hl 1 rfl) ?_
    refine z_if_ne (pc := 560) (tgt := 575) E (by decide) dL_law_560 (by decide) (fun h => absurd rfl h) (fun _ => ?_)
    refine lv_aload_n (pc := 563) E.1 E.2 dL_law_563 rfl (lv_at hl 5 rfl) ?_
    refine z_iconst (pc := 564) E dL_law_564 ?_
    refine z_laloadE (pc := 565) E hK hA (by decide) (by decide) (show zu fq 0 (rI ((axFolder σ (sx xs (i + 1)) (sx xs (i + 2))))) 0 = rI ((axFolder σ (sx xs (i + 1)) (sx xs (i + 2)))) from if_pos rfl) dL_law_565 ?_
    refine lv_iload (pc := 566) E.1 E.2 dL_law_566 (lv_at hl 0 rfl) ?_
    refine z_i2lR (pc := 568) E dL_law_568 ?_
    refine z_sameL (pc := 569) (tgt := 575) E (if_pos hk8).symm dL_law_569 dL_law_570 (by decide) ?_
    refine lv_goto (pc := 575) (tgt := 2822) E.1 E.2 dL_law_575 (by decide) ?_
    refine W.widen (k := cells + 1) (n := slots + 6) (by omega) (by omega) ?_
    exact kk H locs ls ⟨⟨_, _, _, _, _, _, _, _, _, hQ, hW, hR.id rfl rfl rfl rfl⟩, ⟨_, hA⟩, ⟨_, hD⟩⟩ hS (lv_sub hl [2, 3, 4, 5, 6, 7] rfl)
  · refine z_lwc (pc := 524) (As := [.ref (qo s.heap.size 0), .int (iI (sx xs (i + 1))), .int (iI (sx xs (i + 2))), .ref (s.heap.size + 193)]) (rest := []) E hml hown hts (mbL_folder l hst G (qo s.heap.size) ν σ π δ (fun j => sg8 (β j)) ω (sx xs (i + 1)) (sx xs (i + 2)) hR.ok.1 (sx_b _ _) (sx_b _ _) hk (s.heap.size + 193) fq) (vx_cwSW 4 hts gL_law_L_folder rfl rfl rfl vdL_folder.2 ⟨Nat.le_of_ble_eq_true rfl, Nat.le_of_ble_eq_true rfl⟩) ⟨hQ, hA⟩ hK hX hS (fun q h => h.elim) rfl hl.1 rfl dL_law_524 ⟨by omega, by omega⟩ (Nat.le_of_ble_eq_true rfl) (fun H locs hQA hsz hoth hS => ?_)
    obtain ⟨hQ, hA⟩ := hQA
    have hW := hW.kp (fun k hk => hoth _ (hW.lt k hk) (fun h => h))
    have hD := hD.kp (hoth _ hD.lt (fun h => h))
    have hkb : -2147483648 ≤ (kxFolder σ (sx xs (i + 1)) (sx xs (i + 2))) ∧ (kxFolder σ (sx xs (i + 1)) (sx xs (i + 2))) < 2147483648 := by unfold kxFolder; (try unfold kxPK); (repeat' split) <;> decide
    have hkn : ¬ (kxFolder σ (sx xs (i + 1)) (sx xs (i + 2))) = 0 := hk
    refine lv_istore (pc := 527) (lv' := [(6, .int (iI ((kxFolder σ (sx xs (i + 1)) (sx xs (i + 2)))))), (0, .ref (b)), (1, .ref (qo s.heap.size 0)), (2, .ref (s.heap.size + 187 + 0)), (3, .ref (s.heap.size + 193)), (4, .ref (s.heap.size + 194)), (5, .int (iI (i)))]) E.1 E.2 dL_law_527 hl (by decide) rfl (fun ls hl => ?_)
    refine lv_aload_n (pc := 529) E.1 E.2 dL_law_529 rfl (lv_at hl 3 rfl) ?_
    refine lv_aload_n (pc := 530) E.1 E.2 dL_law_530 rfl (lv_at hl 1 rfl) ?_
    refine lv_iload (pc := 531) E.1 E.2 dL_law_531 (lv_at hl 6 rfl) ?_
    refine z_iconst (pc := 533) E dL_law_533 ?_
    refine z_iadd (pc := 534) E dL_law_534 ?_
    refine z_sld (pc := 535) E hx hb hbA hS ⟨by omega, by omega⟩ hL dL_law_535 ?_
    refine lv_aload_n (pc := 536) E.1 E.2 dL_law_536 rfl (lv_at hl 1 rfl) ?_
    refine lv_iload (pc := 537) E.1 E.2 dL_law_537 (lv_at hl 6 rfl) ?_
    refine z_iconst (pc := 539) E dL_law_539 ?_
    refine z_iadd (pc := 540) E dL_law_540 ?_
    refine z_sld (pc := 541) E hx hb hbA hS ⟨by omega, by omega⟩ hL dL_law_541 ?_
    refine z_wVi (pc := 542) (As := [.int (iI (sx xs (i + 1))), .int (iI (sx xs (i + 2)))]) (rest := []) E hml hown hts (mX8_folder l G (fun k => s.heap.size + 187 + k) μ σ φ κ β ω (sx xs (i + 1)) (sx xs (i + 2)) hR.ok.1 (sx_b _ _) (sx_b _ _)) (cwV 2 hts gL_law_X8_folder rfl rfl rfl vdX8_folder ⟨Nat.le_of_ble_eq_true rfl, Nat.le_of_ble_eq_true rfl⟩) (hW.1.recv hK rfl) hW hK hS (fun q h => la_8 h) rfl hl.1 rfl dL_law_542 ⟨by omega, by omega⟩ (Nat.le_of_ble_eq_true rfl) (fun H locs hW hsz hoth hS => ?_)
    have hQ := hQ.kp (fun k hk => hoth _ (hQ.lt k hk) (lb_8 hk))
    have hA := hA.kp (hoth _ hA.lt le_193)
    have hD := hD.kp (hoth _ hD.lt le_194)
    have hk8 := hk
    try simp only [if_neg hk8] at hW
    refine lv_istore (pc := 545) (lv' := [(7, .int (iI ((if (kxFolder σ (sx xs (i + 1)) (sx xs (i + 2))) = 0 then axFolder σ (sx xs (i + 1)) (sx xs (i + 2)) else 0)))), (6, .int (iI ((kxFolder σ (sx xs (i + 1)) (sx xs (i + 2)))))), (0, .ref (b)), (1, .ref (qo s.heap.size 0)), (2, .ref (s.heap.size + 187 + 0)), (3, .ref (s.heap.size + 193)), (4, .ref (s.heap.size + 194)), (5, .int (iI (i)))]) E.1 E.2 dL_law_545 hl (by decide) rfl (fun ls hl => ?_)
    refine lv_aload_n (pc := 547) E.1 E.2 dL_law_547 rfl (lv_at hl 4 rfl) ?_
    refine z_rVi (pc := 548) (As := []) (rest := []) E hml hown hts (mX8_thrown l G (fun k => s.heap.size + 187 + k) _ _ _ _ _ _) (cwV 0 hts gL_law_X8_thrown rfl rfl rfl vdX8_thrown ⟨Nat.le_of_ble_eq_true rfl, Nat.le_of_ble_eq_true rfl⟩) (hW.1.recv hK rfl) hW hK rfl hl.1 rfl dL_law_548 ⟨by omega, by omega⟩ (Nat.le_of_ble_eq_true rfl) ?_
    refine lv_iload (pc := 551) E.1 E.2 dL_law_551 (lv_at hl 1 rfl) ?_
    refine z_same (pc := 553) (tgt := 558) E rfl dL_law_553 (by decide) ?_
    refine lv_iload (pc := 558) E.1 E.2 dL_law_558 (lv_at hl 1 rfl) ?_
    refine z_if_ne (pc := 560) (tgt := 575) E hkb dL_law_560 (by decide) (fun _ => ?_) (fun h => absurd h hkn)
    refine lv_goto (pc := 575) (tgt := 2822) E.1 E.2 dL_law_575 (by decide) ?_
    refine W.widen (k := cells + 1) (n := slots + 6) (by omega) (by omega) ?_
    exact kk H locs ls ⟨⟨_, _, _, _, _, _, _, _, _, hQ, hW, hR.id rfl rfl rfl rfl⟩, ⟨_, hA⟩, ⟨_, hD⟩⟩ hS (lv_sub hl [2, 3, 4, 5, 6, 7] rfl)
set_option maxHeartbeats 1000000 in
set_option maxRecDepth 100000 in
theorem cs_walked {p : Program} {l : Launch} {e : Env} {s : State} {m : MethodId} {below : List Frame} {meth : Method} {c : Code} {G : GG} {b L : Nat} {xs : Nat → Int32} {aK aV : Nat → Nat} (X : LX p l s m c G b L xs aK aV) {n : Nat} {i : Int} {H : Heap} {locs : List Loc} {ls : Array Slot} {cells slots : Nat} {Q : State → Prop} (hn : n ≤ 600) (hi : 0 ≤ i ∧ i + 6 ≤ (L : Int)) (hH : LH G n s.heap.size H) (hS : va_S (fun q => s.heap.size ≤ q) s.heap H locs) (hl : lv_has ls 8 [(0, .ref b), (1, .ref (qo s.heap.size 0)), (2, .ref (s.heap.size + 187 + 0)), (3, .ref (s.heap.size + 193)), (4, .ref (s.heap.size + 194)), (5, .int (iI i))]) (hc : cells + 1 ≤ room_1.cells) (hsl : slots + 6 ≤ room_1.slots) (kk : ∀ (H : Heap) (locs : List Loc) (ls : Array Slot), LH G (n + 1) s.heap.size H → va_S (fun q => s.heap.size ≤ q) s.heap H locs → lv_has ls 8 [(0, .ref b), (1, .ref (qo s.heap.size 0)), (2, .ref (s.heap.size + 187 + 0)), (3, .ref (s.heap.size + 193)), (4, .ref (s.heap.size + 194)), (5, .int (iI i))] → W p l e room_1 s m #[Value.ref b] below meth c H locs (cells + 1) (slots + 6) Q (F0 m 2822 ls [])) : W p l e room_1 s m #[Value.ref b] below meth c H locs cells slots Q (F0 m 578 ls []) := by
  obtain ⟨E, hml, hown, hts, hK, hX0, hx, hb, hst, hL, hks⟩ := X
  obtain ⟨⟨ν, σ, π, δ, β, ω, μ, φ, κ, hQ, hW, hR⟩, ⟨fq, hA⟩, ⟨xq, hD⟩⟩ := hH
  have hX : KX FF0 s H := (hX0.kept (fun a ha hna => hS.2.1 a ha hna)).narrow (fun q h => h.elim)
  have hbA : ¬ (s.heap.size ≤ b) := by omega
  refine lv_aload_n (pc := 578) E.1 E.2 dL_law_578 rfl (lv_at hl 1 rfl) ?_
  refine lv_aload_n (pc := 579) E.1 E.2 dL_law_579 rfl (lv_at hl 0 rfl) ?_
  refine lv_iload (pc := 580) E.1 E.2 dL_law_580 (lv_at hl 5 rfl) ?_
  refine z_iconst (pc := 582) E dL_law_582 ?_
  refine z_iadd (pc := 583) E dL_law_583 ?_
  refine z_sld (pc := 584) E hx hb hbA hS ⟨by omega, by omega⟩ hL dL_law_584 ?_
  refine lv_aload_n (pc := 585) E.1 E.2 dL_law_585 rfl (lv_at hl 3 rfl) ?_
  by_cases hk : (kxFo σ (sx xs (i + 1))) = 0
  · refine z_lwc (pc := 586) (As := [.ref (qo s.heap.size 0), .int (iI (sx xs (i + 1))), .ref (s.heap.size + 193)]) (rest := []) E hml hown hts (mL_walked l G (qo s.heap.size) ν σ π δ (fun j => sg8 (β j)) ω (sx xs (i + 1)) hR.ok.1 (sx_b _ _) hk (s.heap.size + 193) fq (fun k hk => by have := qo_b s.heap.size hk; omega)) (vx_cwSW 3 hts gL_law_L_walked rfl rfl rfl vdL_walked.2 ⟨Nat.le_of_ble_eq_true rfl, Nat.le_of_ble_eq_true rfl⟩) ⟨hQ, hA⟩ hK hX hS (fun q h => la_193 h) rfl hl.1 rfl dL_law_586 ⟨by omega, by omega⟩ (Nat.le_of_ble_eq_true rfl) (fun H locs hQA hsz hoth hS => ?_)
    obtain ⟨hQ, hA⟩ := hQA
    have hW := hW.kp (fun k hk => hoth _ (hW.lt k hk) (lb_193 hk))
    have hD := hD.kp (hoth _ hD.lt lc_193)
    refine lv_istore (pc := 589) (lv' := [(6, .int (iI (0))), (0, .ref (b)), (1, .ref (qo s.heap.size 0)), (2, .ref (s.heap.size + 187 + 0)), (3, .ref (s.heap.size + 193)), (4, .ref (s.heap.size + 194)), (5, .int (iI (i)))]) E.1 E.2 dL_law_589 hl (by decide) rfl (fun ls hl => ?_)
    refine lv_aload_n (pc := 591) E.1 E.2 dL_law_591 rfl (lv_at hl 3 rfl) ?_
    refine lv_aload_n (pc := 592) E.1 E.2 dL_law_592 rfl (lv_at hl 1 rfl) ?_
    refine lv_iload (pc := 593) E.1 E.2 dL_law_593 (lv_at hl 6 rfl) ?_
    refine z_iconst (pc := 595) E dL_law_595 ?_
    refine z_iadd (pc := 596) E dL_law_596 ?_
    refine z_sld (pc := 597) E hx hb hbA hS ⟨by omega, by omega⟩ hL dL_law_597 ?_
    refine z_wVi (pc := 598) (As := [.int (iI (sx xs (i + 1)))]) (rest := []) E hml hown hts (mX8_walked l G (fun k => s.heap.size + 187 + k) μ σ φ κ β ω (sx xs (i + 1)) hR.ok.1 (sx_b _ _)) (cwV 1 hts gL_law_X8_walked rfl rfl rfl vdX8_walked ⟨Nat.le_of_ble_eq_true rfl, Nat.le_of_ble_eq_true rfl⟩) (hW.1.recv hK rfl) hW hK hS (fun q h => la_8 h) rfl hl.1 rfl dL_law_598 ⟨by omega, by omega⟩ (Nat.le_of_ble_eq_true rfl) (fun H locs hW hsz hoth hS => ?_)
    have hQ := hQ.kp (fun k hk => hoth _ (hQ.lt k hk) (lb_8 hk))
    have hA := hA.kp (hoth _ hA.lt le_193)
    have hD := hD.kp (hoth _ hD.lt le_194)
    have hk8 := hk
    try simp only [if_pos hk8] at hW
    refine lv_istore (pc := 601) (lv' := [(7, .int (iI ((if (kxFo σ (sx xs (i + 1))) = 0 then wk σ (sx xs (i + 1)).toNat else 0)))), (6, .int (iI (0))), (0, .ref (b)), (1, .ref (qo s.heap.size 0)), (2, .ref (s.heap.size + 187 + 0)), (3, .ref (s.heap.size + 193)), (4, .ref (s.heap.size + 194)), (5, .int (iI (i)))]) E.1 E.2 dL_law_601 hl (by decide) rfl (fun ls hl => ?_)
    refine lv_aload_n (pc := 603) E.1 E.2 dL_law_603 rfl (lv_at hl 4 rfl) ?_
    refine z_rVi (pc := 604) (As := []) (rest := []) E hml hown hts (mX8_thrown l G (fun k => s.heap.size + 187 + k) _ _ _ _ _ _) (cwV 0 hts gL_law_X8_thrown rfl rfl rfl vdX8_thrown ⟨Nat.le_of_ble_eq_true rfl, Nat.le_of_ble_eq_true rfl⟩) (hW.1.recv hK rfl) hW hK rfl hl.1 rfl dL_law_604 ⟨by omega, by omega⟩ (Nat.le_of_ble_eq_true rfl) ?_
    refine lv_iload (pc := 607) E.1 E.2 dL_law_607 (lv_at hl 1 rfl) ?_
    refine z_same (pc := 609) (tgt := 614) E hk8 dL_law_609 (by decide) ?_
    refine lv_iload (pc := 614) E.1 E.2 dL_law_614 (lv_at hl 1 rfl) ?_
    refine z_if_ne (pc := 616) (tgt := 631) E (by decide) dL_law_616 (by decide) (fun h => absurd rfl h) (fun _ => ?_)
    refine lv_aload_n (pc := 619) E.1 E.2 dL_law_619 rfl (lv_at hl 5 rfl) ?_
    refine z_iconst (pc := 620) E dL_law_620 ?_
    refine z_laloadE (pc := 621) E hK hA (by decide) (by decide) (show zu fq 0 (rI ((wk σ (sx xs (i + 1)).toNat))) 0 = rI ((wk σ (sx xs (i + 1)).toNat)) from if_pos rfl) dL_law_621 ?_
    refine lv_iload (pc := 622) E.1 E.2 dL_law_622 (lv_at hl 0 rfl) ?_
    refine z_i2lR (pc := 624) E dL_law_624 ?_
    refine z_sameL (pc := 625) (tgt := 631) E (if_pos hk8).symm dL_law_625 dL_law_626 (by decide) ?_
    refine lv_goto (pc := 631) (tgt := 2822) E.1 E.2 dL_law_631 (by decide) ?_
    refine W.widen (k := cells + 1) (n := slots + 6) (by omega) (by omega) ?_
    exact kk H locs ls ⟨⟨_, _, _, _, _, _, _, _, _, hQ, hW, hR.id rfl rfl rfl rfl⟩, ⟨_, hA⟩, ⟨_, hD⟩⟩ hS (lv_sub hl [2, 3, 4, 5, 6, 7] rfl)
  · refine z_lwc (pc := 586) (As := [.ref (qo s.heap.size 0), .int (iI (sx xs (i + 1))), .ref (s.heap.size + 193)]) (rest := []) E hml hown hts (mbL_walked l hst G (qo s.heap.size) ν σ π δ (fun j => sg8 (β j)) ω (sx xs (i + 1)) hR.ok.1 (sx_b _ _) hk (s.heap.size + 193) fq) (vx_cwSW 3 hts gL_law_L_walked rfl rfl rfl vdL_walked.2 ⟨Nat.le_of_ble_eq_true rfl, Nat.le_of_ble_eq_true rfl⟩) ⟨hQ, hA⟩ hK hX hS (fun q h => h.elim) rfl hl.1 rfl dL_law_586 ⟨by omega, by omega⟩ (Nat.le_of_ble_eq_true rfl) (fun H locs hQA hsz hoth hS => ?_)
    obtain ⟨hQ, hA⟩ := hQA
    have hW := hW.kp (fun k hk => hoth _ (hW.lt k hk) (fun h => h))
    have hD := hD.kp (hoth _ hD.lt (fun h => h))
    have hkb : -2147483648 ≤ (kxFo σ (sx xs (i + 1))) ∧ (kxFo σ (sx xs (i + 1))) < 2147483648 := by unfold kxFo; (try unfold kxPK); (repeat' split) <;> decide
    have hkn : ¬ (kxFo σ (sx xs (i + 1))) = 0 := hk
    refine lv_istore (pc := 589) (lv' := [(6, .int (iI ((kxFo σ (sx xs (i + 1)))))), (0, .ref (b)), (1, .ref (qo s.heap.size 0)), (2, .ref (s.heap.size + 187 + 0)), (3, .ref (s.heap.size + 193)), (4, .ref (s.heap.size + 194)), (5, .int (iI (i)))]) E.1 E.2 dL_law_589 hl (by decide) rfl (fun ls hl => ?_)
    refine lv_aload_n (pc := 591) E.1 E.2 dL_law_591 rfl (lv_at hl 3 rfl) ?_
    refine lv_aload_n (pc := 592) E.1 E.2 dL_law_592 rfl (lv_at hl 1 rfl) ?_
    refine lv_iload (pc := 593) E.1 E.2 dL_law_593 (lv_at hl 6 rfl) ?_
    refine z_iconst (pc := 595) E dL_law_595 ?_
    refine z_iadd (pc := 596) E dL_law_596 ?_
    refine z_sld (pc := 597) E hx hb hbA hS ⟨by omega, by omega⟩ hL dL_law_597 ?_
    refine z_wVi (pc := 598) (As := [.int (iI (sx xs (i + 1)))]) (rest := []) E hml hown hts (mX8_walked l G (fun k => s.heap.size + 187 + k) μ σ φ κ β ω (sx xs (i + 1)) hR.ok.1 (sx_b _ _)) (cwV 1 hts gL_law_X8_walked rfl rfl rfl vdX8_walked ⟨Nat.le_of_ble_eq_true rfl, Nat.le_of_ble_eq_true rfl⟩) (hW.1.recv hK rfl) hW hK hS (fun q h => la_8 h) rfl hl.1 rfl dL_law_598 ⟨by omega, by omega⟩ (Nat.le_of_ble_eq_true rfl) (fun H locs hW hsz hoth hS => ?_)
    have hQ := hQ.kp (fun k hk => hoth _ (hQ.lt k hk) (lb_8 hk))
    have hA := hA.kp (hoth _ hA.lt le_193)
    have hD := hD.kp (hoth _ hD.lt le_194)
    have hk8 := hk
    try simp only [if_neg hk8] at hW
    refine lv_istore (pc := 601) (lv' := [(7, .int (iI ((if (kxFo σ (sx xs (i + 1))) = 0 then wk σ (sx xs (i + 1)).toNat else 0)))), (6, .int (iI ((kxFo σ (sx xs (i + 1)))))), (0, .ref (b)), (1, .ref (qo s.heap.size 0)), (2, .ref (s.heap.size + 187 + 0)), (3, .ref (s.heap.size + 193)), (4, .ref (s.heap.size + 194)), (5, .int (iI (i)))]) E.1 E.2 dL_law_601 hl (by decide) rfl (fun ls hl => ?_)
    refine lv_aload_n (pc := 603) E.1 E.2 dL_law_603 rfl (lv_at hl 4 rfl) ?_
    refine z_rVi (pc := 604) (As := []) (rest := []) E hml hown hts (mX8_thrown l G (fun k => s.heap.size + 187 + k) _ _ _ _ _ _) (cwV 0 hts gL_law_X8_thrown rfl rfl rfl vdX8_thrown ⟨Nat.le_of_ble_eq_true rfl, Nat.le_of_ble_eq_true rfl⟩) (hW.1.recv hK rfl) hW hK rfl hl.1 rfl dL_law_604 ⟨by omega, by omega⟩ (Nat.le_of_ble_eq_true rfl) ?_
    refine lv_iload (pc := 607) E.1 E.2 dL_law_607 (lv_at hl 1 rfl) ?_
    refine z_same (pc := 609) (tgt := 614) E rfl dL_law_609 (by decide) ?_
    refine lv_iload (pc := 614) E.1 E.2 dL_law_614 (lv_at hl 1 rfl) ?_
    refine z_if_ne (pc := 616) (tgt := 631) E hkb dL_law_616 (by decide) (fun _ => ?_) (fun h => absurd h hkn)
    refine lv_goto (pc := 631) (tgt := 2822) E.1 E.2 dL_law_631 (by decide) ?_
    refine W.widen (k := cells + 1) (n := slots + 6) (by omega) (by omega) ?_
    exact kk H locs ls ⟨⟨_, _, _, _, _, _, _, _, _, hQ, hW, hR.id rfl rfl rfl rfl⟩, ⟨_, hA⟩, ⟨_, hD⟩⟩ hS (lv_sub hl [2, 3, 4, 5, 6, 7] rfl)
set_option maxHeartbeats 1000000 in
set_option maxRecDepth 100000 in
theorem cs_heaviest {p : Program} {l : Launch} {e : Env} {s : State} {m : MethodId} {below : List Frame} {meth : Method} {c : Code} {G : GG} {b L : Nat} {xs : Nat → Int32} {aK aV : Nat → Nat} (X : LX p l s m c G b L xs aK aV) {n : Nat} {i : Int} {H : Heap} {locs : List Loc} {ls : Array Slot} {cells slots : Nat} {Q : State → Prop} (hn : n ≤ 600) (hi : 0 ≤ i ∧ i + 6 ≤ (L : Int)) (hH : LH G n s.heap.size H) (hS : va_S (fun q => s.heap.size ≤ q) s.heap H locs) (hl : lv_has ls 8 [(0, .ref b), (1, .ref (qo s.heap.size 0)), (2, .ref (s.heap.size + 187 + 0)), (3, .ref (s.heap.size + 193)), (4, .ref (s.heap.size + 194)), (5, .int (iI i))]) (hc : cells + 1 ≤ room_1.cells) (hsl : slots + 6 ≤ room_1.slots) (kk : ∀ (H : Heap) (locs : List Loc) (ls : Array Slot), LH G (n + 1) s.heap.size H → va_S (fun q => s.heap.size ≤ q) s.heap H locs → lv_has ls 8 [(0, .ref b), (1, .ref (qo s.heap.size 0)), (2, .ref (s.heap.size + 187 + 0)), (3, .ref (s.heap.size + 193)), (4, .ref (s.heap.size + 194)), (5, .int (iI i))] → W p l e room_1 s m #[Value.ref b] below meth c H locs (cells + 1) (slots + 6) Q (F0 m 2822 ls [])) : W p l e room_1 s m #[Value.ref b] below meth c H locs cells slots Q (F0 m 634 ls []) := by
  obtain ⟨E, hml, hown, hts, hK, hX0, hx, hb, hst, hL, hks⟩ := X
  obtain ⟨⟨ν, σ, π, δ, β, ω, μ, φ, κ, hQ, hW, hR⟩, ⟨fq, hA⟩, ⟨xq, hD⟩⟩ := hH
  have hX : KX FF0 s H := (hX0.kept (fun a ha hna => hS.2.1 a ha hna)).narrow (fun q h => h.elim)
  have hbA : ¬ (s.heap.size ≤ b) := by omega
  refine lv_aload_n (pc := 634) E.1 E.2 dL_law_634 rfl (lv_at hl 1 rfl) ?_
  refine lv_aload_n (pc := 635) E.1 E.2 dL_law_635 rfl (lv_at hl 0 rfl) ?_
  refine lv_iload (pc := 636) E.1 E.2 dL_law_636 (lv_at hl 5 rfl) ?_
  refine z_iconst (pc := 638) E dL_law_638 ?_
  refine z_iadd (pc := 639) E dL_law_639 ?_
  refine z_sld (pc := 640) E hx hb hbA hS ⟨by omega, by omega⟩ hL dL_law_640 ?_
  refine lv_aload_n (pc := 641) E.1 E.2 dL_law_641 rfl (lv_at hl 3 rfl) ?_
  by_cases hk : (kxHeav σ (sx xs (i + 1))) = 0
  · refine z_lwc (pc := 642) (As := [.ref (qo s.heap.size 0), .int (iI (sx xs (i + 1))), .ref (s.heap.size + 193)]) (rest := []) E hml hown hts (mL_heaviest l G (qo s.heap.size) ν σ π δ (fun j => sg8 (β j)) ω (sx xs (i + 1)) hR.ok.1 (sx_b _ _) hk (s.heap.size + 193) fq (fun k hk => by have := qo_b s.heap.size hk; omega)) (vx_cwSW 3 hts gL_law_L_heaviest rfl rfl rfl vdL_heaviest.2 ⟨Nat.le_of_ble_eq_true rfl, Nat.le_of_ble_eq_true rfl⟩) ⟨hQ, hA⟩ hK hX hS (fun q h => la_193 h) rfl hl.1 rfl dL_law_642 ⟨by omega, by omega⟩ (Nat.le_of_ble_eq_true rfl) (fun H locs hQA hsz hoth hS => ?_)
    obtain ⟨hQ, hA⟩ := hQA
    have hW := hW.kp (fun k hk => hoth _ (hW.lt k hk) (lb_193 hk))
    have hD := hD.kp (hoth _ hD.lt lc_193)
    refine lv_istore (pc := 645) (lv' := [(6, .int (iI (0))), (0, .ref (b)), (1, .ref (qo s.heap.size 0)), (2, .ref (s.heap.size + 187 + 0)), (3, .ref (s.heap.size + 193)), (4, .ref (s.heap.size + 194)), (5, .int (iI (i)))]) E.1 E.2 dL_law_645 hl (by decide) rfl (fun ls hl => ?_)
    refine lv_aload_n (pc := 647) E.1 E.2 dL_law_647 rfl (lv_at hl 3 rfl) ?_
    refine lv_aload_n (pc := 648) E.1 E.2 dL_law_648 rfl (lv_at hl 1 rfl) ?_
    refine lv_iload (pc := 649) E.1 E.2 dL_law_649 (lv_at hl 6 rfl) ?_
    refine z_iconst (pc := 651) E dL_law_651 ?_
    refine z_iadd (pc := 652) E dL_law_652 ?_
    refine z_sld (pc := 653) E hx hb hbA hS ⟨by omega, by omega⟩ hL dL_law_653 ?_
    refine z_wVi (pc := 654) (As := [.int (iI (sx xs (i + 1)))]) (rest := []) E hml hown hts (mX8_heaviest l G (fun k => s.heap.size + 187 + k) μ σ φ κ β ω (sx xs (i + 1)) hR.ok.1 (sx_b _ _)) (cwV 1 hts gL_law_X8_heaviest rfl rfl rfl vdX8_heaviest ⟨Nat.le_of_ble_eq_true rfl, Nat.le_of_ble_eq_true rfl⟩) (hW.1.recv hK rfl) hW hK hS (fun q h => la_8 h) rfl hl.1 rfl dL_law_654 ⟨by omega, by omega⟩ (Nat.le_of_ble_eq_true rfl) (fun H locs hW hsz hoth hS => ?_)
    have hQ := hQ.kp (fun k hk => hoth _ (hQ.lt k hk) (lb_8 hk))
    have hA := hA.kp (hoth _ hA.lt le_193)
    have hD := hD.kp (hoth _ hD.lt le_194)
    have hk8 := hk
    try simp only [if_pos hk8] at hW
    refine lv_istore (pc := 657) (lv' := [(7, .int (iI ((if (kxHeav σ (sx xs (i + 1))) = 0 then hvS σ (sx xs (i + 1)) else 0)))), (6, .int (iI (0))), (0, .ref (b)), (1, .ref (qo s.heap.size 0)), (2, .ref (s.heap.size + 187 + 0)), (3, .ref (s.heap.size + 193)), (4, .ref (s.heap.size + 194)), (5, .int (iI (i)))]) E.1 E.2 dL_law_657 hl (by decide) rfl (fun ls hl => ?_)
    refine lv_aload_n (pc := 659) E.1 E.2 dL_law_659 rfl (lv_at hl 4 rfl) ?_
    refine z_rVi (pc := 660) (As := []) (rest := []) E hml hown hts (mX8_thrown l G (fun k => s.heap.size + 187 + k) _ _ _ _ _ _) (cwV 0 hts gL_law_X8_thrown rfl rfl rfl vdX8_thrown ⟨Nat.le_of_ble_eq_true rfl, Nat.le_of_ble_eq_true rfl⟩) (hW.1.recv hK rfl) hW hK rfl hl.1 rfl dL_law_660 ⟨by omega, by omega⟩ (Nat.le_of_ble_eq_true rfl) ?_
    refine lv_iload (pc := 663) E.1 E.2 dL_law_663 (lv_at hl 1 rfl) ?_
    refine z_same (pc := 665) (tgt := 670) E hk8 dL_law_665 (by decide) ?_
    refine lv_iload (pc := 670) E.1 E.2 dL_law_670 (lv_at hl 1 rfl) ?_
    refine z_if_ne (pc := 672) (tgt := 687) E (by decide) dL_law_672 (by decide) (fun h => absurd rfl h) (fun _ => ?_)
    refine lv_aload_n (pc := 675) E.1 E.2 dL_law_675 rfl (lv_at hl 5 rfl) ?_
    refine z_iconst (pc := 676) E dL_law_676 ?_
    refine z_laloadE (pc := 677) E hK hA (by decide) (by decide) (show zu fq 0 (rI ((hvS σ (sx xs (i + 1))))) 0 = rI ((hvS σ (sx xs (i + 1)))) from if_pos rfl) dL_law_677 ?_
    refine lv_iload (pc := 678) E.1 E.2 dL_law_678 (lv_at hl 0 rfl) ?_
    refine z_i2lR (pc := 680) E dL_law_680 ?_
    refine z_sameL (pc := 681) (tgt := 687) E (if_pos hk8).symm dL_law_681 dL_law_682 (by decide) ?_
    refine lv_goto (pc := 687) (tgt := 2822) E.1 E.2 dL_law_687 (by decide) ?_
    refine W.widen (k := cells + 1) (n := slots + 6) (by omega) (by omega) ?_
    exact kk H locs ls ⟨⟨_, _, _, _, _, _, _, _, _, hQ, hW, hR.id rfl rfl rfl rfl⟩, ⟨_, hA⟩, ⟨_, hD⟩⟩ hS (lv_sub hl [2, 3, 4, 5, 6, 7] rfl)
  · refine z_lwc (pc := 642) (As := [.ref (qo s.heap.size 0), .int (iI (sx xs (i + 1))), .ref (s.heap.size + 193)]) (rest := []) E hml hown hts (mbL_heaviest l hst G (qo s.heap.size) ν σ π δ (fun j => sg8 (β j)) ω (sx xs (i + 1)) hR.ok.1 (sx_b _ _) hk (s.heap.size + 193) fq) (vx_cwSW 3 hts gL_law_L_heaviest rfl rfl rfl vdL_heaviest.2 ⟨Nat.le_of_ble_eq_true rfl, Nat.le_of_ble_eq_true rfl⟩) ⟨hQ, hA⟩ hK hX hS (fun q h => h.elim) rfl hl.1 rfl dL_law_642 ⟨by omega, by omega⟩ (Nat.le_of_ble_eq_true rfl) (fun H locs hQA hsz hoth hS => ?_)
    obtain ⟨hQ, hA⟩ := hQA
    have hW := hW.kp (fun k hk => hoth _ (hW.lt k hk) (fun h => h))
    have hD := hD.kp (hoth _ hD.lt (fun h => h))
    have hkb : -2147483648 ≤ (kxHeav σ (sx xs (i + 1))) ∧ (kxHeav σ (sx xs (i + 1))) < 2147483648 := by unfold kxHeav; (try unfold kxPK); (repeat' split) <;> decide
    have hkn : ¬ (kxHeav σ (sx xs (i + 1))) = 0 := hk
    refine lv_istore (pc := 645) (lv' := [(6, .int (iI ((kxHeav σ (sx xs (i + 1)))))), (0, .ref (b)), (1, .ref (qo s.heap.size 0)), (2, .ref (s.heap.size + 187 + 0)), (3, .ref (s.heap.size + 193)), (4, .ref (s.heap.size + 194)), (5, .int (iI (i)))]) E.1 E.2 dL_law_645 hl (by decide) rfl (fun ls hl => ?_)
    refine lv_aload_n (pc := 647) E.1 E.2 dL_law_647 rfl (lv_at hl 3 rfl) ?_
    refine lv_aload_n (pc := 648) E.1 E.2 dL_law_648 rfl (lv_at hl 1 rfl) ?_
    refine lv_iload (pc := 649) E.1 E.2 dL_law_649 (lv_at hl 6 rfl) ?_
    refine z_iconst (pc := 651) E dL_law_651 ?_
    refine z_iadd (pc := 652) E dL_law_652 ?_
    refine z_sld (pc := 653) E hx hb hbA hS ⟨by omega, by omega⟩ hL dL_law_653 ?_
    refine z_wVi (pc := 654) (As := [.int (iI (sx xs (i + 1)))]) (rest := []) E hml hown hts (mX8_heaviest l G (fun k => s.heap.size + 187 + k) μ σ φ κ β ω (sx xs (i + 1)) hR.ok.1 (sx_b _ _)) (cwV 1 hts gL_law_X8_heaviest rfl rfl rfl vdX8_heaviest ⟨Nat.le_of_ble_eq_true rfl, Nat.le_of_ble_eq_true rfl⟩) (hW.1.recv hK rfl) hW hK hS (fun q h => la_8 h) rfl hl.1 rfl dL_law_654 ⟨by omega, by omega⟩ (Nat.le_of_ble_eq_true rfl) (fun H locs hW hsz hoth hS => ?_)
    have hQ := hQ.kp (fun k hk => hoth _ (hQ.lt k hk) (lb_8 hk))
    have hA := hA.kp (hoth _ hA.lt le_193)
    have hD := hD.kp (hoth _ hD.lt le_194)
    have hk8 := hk
    try simp only [if_neg hk8] at hW
    refine lv_istore (pc := 657) (lv' := [(7, .int (iI ((if (kxHeav σ (sx xs (i + 1))) = 0 then hvS σ (sx xs (i + 1)) else 0)))), (6, .int (iI ((kxHeav σ (sx xs (i + 1)))))), (0, .ref (b)), (1, .ref (qo s.heap.size 0)), (2, .ref (s.heap.size + 187 + 0)), (3, .ref (s.heap.size + 193)), (4, .ref (s.heap.size + 194)), (5, .int (iI (i)))]) E.1 E.2 dL_law_657 hl (by decide) rfl (fun ls hl => ?_)
    refine lv_aload_n (pc := 659) E.1 E.2 dL_law_659 rfl (lv_at hl 4 rfl) ?_
    refine z_rVi (pc := 660) (As := []) (rest := []) E hml hown hts (mX8_thrown l G (fun k => s.heap.size + 187 + k) _ _ _ _ _ _) (cwV 0 hts gL_law_X8_thrown rfl rfl rfl vdX8_thrown ⟨Nat.le_of_ble_eq_true rfl, Nat.le_of_ble_eq_true rfl⟩) (hW.1.recv hK rfl) hW hK rfl hl.1 rfl dL_law_660 ⟨by omega, by omega⟩ (Nat.le_of_ble_eq_true rfl) ?_
    refine lv_iload (pc := 663) E.1 E.2 dL_law_663 (lv_at hl 1 rfl) ?_
    refine z_same (pc := 665) (tgt := 670) E rfl dL_law_665 (by decide) ?_
    refine lv_iload (pc := 670) E.1 E.2 dL_law_670 (lv_at hl 1 rfl) ?_
    refine z_if_ne (pc := 672) (tgt := 687) E hkb dL_law_672 (by decide) (fun _ => ?_) (fun h => absurd h hkn)
    refine lv_goto (pc := 687) (tgt := 2822) E.1 E.2 dL_law_687 (by decide) ?_
    refine W.widen (k := cells + 1) (n := slots + 6) (by omega) (by omega) ?_
    exact kk H locs ls ⟨⟨_, _, _, _, _, _, _, _, _, hQ, hW, hR.id rfl rfl rfl rfl⟩, ⟨_, hA⟩, ⟨_, hD⟩⟩ hS (lv_sub hl [2, 3, 4, 5, 6, 7] rfl)
set_option maxHeartbeats 1000000 in
set_option maxRecDepth 100000 in
theorem cs_addFolder {p : Program} {l : Launch} {e : Env} {s : State} {m : MethodId} {below : List Frame} {meth : Method} {c : Code} {G : GG} {b L : Nat} {xs : Nat → Int32} {aK aV : Nat → Nat} (X : LX p l s m c G b L xs aK aV) {n : Nat} {i : Int} {H : Heap} {locs : List Loc} {ls : Array Slot} {cells slots : Nat} {Q : State → Prop} (hn : n ≤ 600) (hi : 0 ≤ i ∧ i + 6 ≤ (L : Int)) (hH : LH G n s.heap.size H) (hS : va_S (fun q => s.heap.size ≤ q) s.heap H locs) (hl : lv_has ls 8 [(0, .ref b), (1, .ref (qo s.heap.size 0)), (2, .ref (s.heap.size + 187 + 0)), (3, .ref (s.heap.size + 193)), (4, .ref (s.heap.size + 194)), (5, .int (iI i))]) (hc : cells + 1 ≤ room_1.cells) (hsl : slots + 6 ≤ room_1.slots) (kk : ∀ (H : Heap) (locs : List Loc) (ls : Array Slot), LH G (n + 1) s.heap.size H → va_S (fun q => s.heap.size ≤ q) s.heap H locs → lv_has ls 8 [(0, .ref b), (1, .ref (qo s.heap.size 0)), (2, .ref (s.heap.size + 187 + 0)), (3, .ref (s.heap.size + 193)), (4, .ref (s.heap.size + 194)), (5, .int (iI i))] → W p l e room_1 s m #[Value.ref b] below meth c H locs (cells + 1) (slots + 6) Q (F0 m 2822 ls [])) : W p l e room_1 s m #[Value.ref b] below meth c H locs cells slots Q (F0 m 690 ls []) := by
  obtain ⟨E, hml, hown, hts, hK, hX0, hx, hb, hst, hL, hks⟩ := X
  obtain ⟨⟨ν, σ, π, δ, β, ω, μ, φ, κ, hQ, hW, hR⟩, ⟨fq, hA⟩, ⟨xq, hD⟩⟩ := hH
  have hX : KX FF0 s H := (hX0.kept (fun a ha hna => hS.2.1 a ha hna)).narrow (fun q h => h.elim)
  have hbA : ¬ (s.heap.size ≤ b) := by omega
  refine lv_aload_n (pc := 690) E.1 E.2 dL_law_690 rfl (lv_at hl 1 rfl) ?_
  refine lv_aload_n (pc := 691) E.1 E.2 dL_law_691 rfl (lv_at hl 0 rfl) ?_
  refine lv_iload (pc := 692) E.1 E.2 dL_law_692 (lv_at hl 5 rfl) ?_
  refine z_iconst (pc := 694) E dL_law_694 ?_
  refine z_iadd (pc := 695) E dL_law_695 ?_
  refine z_sld (pc := 696) E hx hb hbA hS ⟨by omega, by omega⟩ hL dL_law_696 ?_
  refine lv_aload_n (pc := 697) E.1 E.2 dL_law_697 rfl (lv_at hl 0 rfl) ?_
  refine lv_iload (pc := 698) E.1 E.2 dL_law_698 (lv_at hl 5 rfl) ?_
  refine z_iconst (pc := 700) E dL_law_700 ?_
  refine z_iadd (pc := 701) E dL_law_701 ?_
  refine z_sld (pc := 702) E hx hb hbA hS ⟨by omega, by omega⟩ hL dL_law_702 ?_
  refine z_i2lW (pc := 703) E dL_law_703 ?_
  refine z_bipush (pc := 704) E (by decide) dL_law_704 ?_
  refine lv_lshl (pc := 706) E.1 E.2 dL_law_706 rfl ?_
  refine lv_aload_n (pc := 707) E.1 E.2 dL_law_707 rfl (lv_at hl 0 rfl) ?_
  refine lv_iload (pc := 708) E.1 E.2 dL_law_708 (lv_at hl 5 rfl) ?_
  refine z_iconst (pc := 710) E dL_law_710 ?_
  refine z_iadd (pc := 711) E dL_law_711 ?_
  refine z_sld (pc := 712) E hx hb hbA hS ⟨by omega, by omega⟩ hL dL_law_712 ?_
  refine z_i2lW (pc := 713) E dL_law_713 ?_
  refine lv_ldc2 (pc := 714) (v := iL (4294967295)) E.1 E.2 hown (show (Jvm.Cond.constantLong RL 161 (iL (4294967295))).before _ s = true from (hts _ (List.mem_of_getElem? (i := 8) rfl))) dL_law_714 ?_
  refine lv_land (pc := 717) E.1 E.2 dL_law_717 ?_
  refine z_lorJ (pc := 718) (a := sx xs (i + 2)) (b := sx xs (i + 3)) E dL_law_718 ?_
  refine lv_aload_n (pc := 719) E.1 E.2 dL_law_719 rfl (lv_at hl 3 rfl) ?_
  by_cases hk : (kxAddF σ (sx xs (i + 1)) (lwJ (sx xs (i + 2)) (sx xs (i + 3)))) = 0
  · refine z_lwc (pc := 720) (As := [.ref (qo s.heap.size 0), .int (iI (sx xs (i + 1))), .long (iL (lwJ (sx xs (i + 2)) (sx xs (i + 3)))), .ref (s.heap.size + 193)]) (rest := []) E hml hown hts (mL_addFolder l G (qo s.heap.size) ν σ π δ (fun j => sg8 (β j)) ω (sx xs (i + 1)) (lwJ (sx xs (i + 2)) (sx xs (i + 3))) hR.ok.1 (sx_b _ _) (lwJ_b _ _) hk (hR.hc hn) hR.hu (s.heap.size + 193) fq (fun k hk => by have := qo_b s.heap.size hk; omega)) (vx_cwSW 4 hts gL_law_L_addFolder rfl rfl rfl vdL_addFolder.2 ⟨Nat.le_of_ble_eq_true rfl, Nat.le_of_ble_eq_true rfl⟩) ⟨hQ, hA⟩ hK hX hS (fun q h => la_193 h) rfl hl.1 rfl dL_law_720 ⟨by omega, by omega⟩ (Nat.le_of_ble_eq_true rfl) (fun H locs hQA hsz hoth hS => ?_)
    obtain ⟨hQ, hA⟩ := hQA
    have hW := hW.kp (fun k hk => hoth _ (hW.lt k hk) (lb_193 hk))
    have hD := hD.kp (hoth _ hD.lt lc_193)
    refine lv_istore (pc := 723) (lv' := [(6, .int (iI (0))), (0, .ref (b)), (1, .ref (qo s.heap.size 0)), (2, .ref (s.heap.size + 187 + 0)), (3, .ref (s.heap.size + 193)), (4, .ref (s.heap.size + 194)), (5, .int (iI (i)))]) E.1 E.2 dL_law_723 hl (by decide) rfl (fun ls hl => ?_)
    refine lv_aload_n (pc := 725) E.1 E.2 dL_law_725 rfl (lv_at hl 3 rfl) ?_
    refine lv_aload_n (pc := 726) E.1 E.2 dL_law_726 rfl (lv_at hl 1 rfl) ?_
    refine lv_iload (pc := 727) E.1 E.2 dL_law_727 (lv_at hl 6 rfl) ?_
    refine z_iconst (pc := 729) E dL_law_729 ?_
    refine z_iadd (pc := 730) E dL_law_730 ?_
    refine z_sld (pc := 731) E hx hb hbA hS ⟨by omega, by omega⟩ hL dL_law_731 ?_
    refine lv_aload_n (pc := 732) E.1 E.2 dL_law_732 rfl (lv_at hl 1 rfl) ?_
    refine lv_iload (pc := 733) E.1 E.2 dL_law_733 (lv_at hl 6 rfl) ?_
    refine z_iconst (pc := 735) E dL_law_735 ?_
    refine z_iadd (pc := 736) E dL_law_736 ?_
    refine z_sld (pc := 737) E hx hb hbA hS ⟨by omega, by omega⟩ hL dL_law_737 ?_
    refine z_i2lW (pc := 738) E dL_law_738 ?_
    refine z_bipush (pc := 739) E (by decide) dL_law_739 ?_
    refine lv_lshl (pc := 741) E.1 E.2 dL_law_741 rfl ?_
    refine lv_aload_n (pc := 742) E.1 E.2 dL_law_742 rfl (lv_at hl 1 rfl) ?_
    refine lv_iload (pc := 743) E.1 E.2 dL_law_743 (lv_at hl 6 rfl) ?_
    refine z_iconst (pc := 745) E dL_law_745 ?_
    refine z_iadd (pc := 746) E dL_law_746 ?_
    refine z_sld (pc := 747) E hx hb hbA hS ⟨by omega, by omega⟩ hL dL_law_747 ?_
    refine z_i2lW (pc := 748) E dL_law_748 ?_
    refine lv_ldc2 (pc := 749) (v := iL (4294967295)) E.1 E.2 hown (show (Jvm.Cond.constantLong RL 161 (iL (4294967295))).before _ s = true from (hts _ (List.mem_of_getElem? (i := 8) rfl))) dL_law_749 ?_
    refine lv_land (pc := 752) E.1 E.2 dL_law_752 ?_
    refine z_lorJ (pc := 753) (a := sx xs (i + 2)) (b := sx xs (i + 3)) E dL_law_753 ?_
    refine z_wVi (pc := 754) (As := [.int (iI (sx xs (i + 1))), .long (iL (lwJ (sx xs (i + 2)) (sx xs (i + 3))))]) (rest := []) E hml hown hts (mX8_addFolder l G (fun k => s.heap.size + 187 + k) μ σ φ κ β ω (sx xs (i + 1)) (lwJ (sx xs (i + 2)) (sx xs (i + 3))) hR.ok.1 (sx_b _ _) (lwJ_b _ _) hR.m3) (cwV 2 hts gL_law_X8_addFolder rfl rfl rfl vdX8_addFolder ⟨Nat.le_of_ble_eq_true rfl, Nat.le_of_ble_eq_true rfl⟩) (hW.1.recv hK rfl) hW hK hS (fun q h => la_8 h) rfl hl.1 rfl dL_law_754 ⟨by omega, by omega⟩ (Nat.le_of_ble_eq_true rfl) (fun H locs hW hsz hoth hS => ?_)
    have hQ := hQ.kp (fun k hk => hoth _ (hQ.lt k hk) (lb_8 hk))
    have hA := hA.kp (hoth _ hA.lt le_193)
    have hD := hD.kp (hoth _ hD.lt le_194)
    have hk8 := hk
    try simp only [if_pos hk8] at hW
    refine lv_istore (pc := 757) (lv' := [(7, .int (iI ((if (kxAddF σ (sx xs (i + 1)) (lwJ (sx xs (i + 2)) (sx xs (i + 3)))) = 0 then σ 2 else 0)))), (6, .int (iI (0))), (0, .ref (b)), (1, .ref (qo s.heap.size 0)), (2, .ref (s.heap.size + 187 + 0)), (3, .ref (s.heap.size + 193)), (4, .ref (s.heap.size + 194)), (5, .int (iI (i)))]) E.1 E.2 dL_law_757 hl (by decide) rfl (fun ls hl => ?_)
    refine lv_aload_n (pc := 759) E.1 E.2 dL_law_759 rfl (lv_at hl 4 rfl) ?_
    refine z_rVi (pc := 760) (As := []) (rest := []) E hml hown hts (mX8_thrown l G (fun k => s.heap.size + 187 + k) _ _ _ _ _ _) (cwV 0 hts gL_law_X8_thrown rfl rfl rfl vdX8_thrown ⟨Nat.le_of_ble_eq_true rfl, Nat.le_of_ble_eq_true rfl⟩) (hW.1.recv hK rfl) hW hK rfl hl.1 rfl dL_law_760 ⟨by omega, by omega⟩ (Nat.le_of_ble_eq_true rfl) ?_
    refine lv_iload (pc := 763) E.1 E.2 dL_law_763 (lv_at hl 1 rfl) ?_
    refine z_same (pc := 765) (tgt := 770) E hk8 dL_law_765 (by decide) ?_
    refine lv_iload (pc := 770) E.1 E.2 dL_law_770 (lv_at hl 1 rfl) ?_
    refine z_if_ne (pc := 772) (tgt := 787) E (by decide) dL_law_772 (by decide) (fun h => absurd rfl h) (fun _ => ?_)
    refine lv_aload_n (pc := 775) E.1 E.2 dL_law_775 rfl (lv_at hl 5 rfl) ?_
    refine z_iconst (pc := 776) E dL_law_776 ?_
    refine z_laloadE (pc := 777) E hK hA (by decide) (by decide) (show zu fq 0 (rI ((σ 2))) 0 = rI ((σ 2)) from if_pos rfl) dL_law_777 ?_
    refine lv_iload (pc := 778) E.1 E.2 dL_law_778 (lv_at hl 0 rfl) ?_
    refine z_i2lR (pc := 780) E dL_law_780 ?_
    refine z_sameL (pc := 781) (tgt := 787) E (if_pos hk8).symm dL_law_781 dL_law_782 (by decide) ?_
    refine lv_goto (pc := 787) (tgt := 2822) E.1 E.2 dL_law_787 (by decide) ?_
    refine W.widen (k := cells + 1) (n := slots + 6) (by omega) (by omega) ?_
    exact kk H locs ls ⟨⟨_, _, _, _, _, _, _, _, _, hQ, hW, hR.wr (ok_AddF hR.ok hk) rfl rfl hR.e6 hR.m6 rfl hR.e14 rfl rfl⟩, ⟨_, hA⟩, ⟨_, hD⟩⟩ hS (lv_sub hl [2, 3, 4, 5, 6, 7] rfl)
  · refine z_lwc (pc := 720) (As := [.ref (qo s.heap.size 0), .int (iI (sx xs (i + 1))), .long (iL (lwJ (sx xs (i + 2)) (sx xs (i + 3)))), .ref (s.heap.size + 193)]) (rest := []) E hml hown hts (mbL_addFolder l hst G (qo s.heap.size) ν σ π δ (fun j => sg8 (β j)) ω (sx xs (i + 1)) (lwJ (sx xs (i + 2)) (sx xs (i + 3))) hR.ok.1 (sx_b _ _) (lwJ_b _ _) hk (s.heap.size + 193) fq) (vx_cwSW 4 hts gL_law_L_addFolder rfl rfl rfl vdL_addFolder.2 ⟨Nat.le_of_ble_eq_true rfl, Nat.le_of_ble_eq_true rfl⟩) ⟨hQ, hA⟩ hK hX hS (fun q h => h.elim) rfl hl.1 rfl dL_law_720 ⟨by omega, by omega⟩ (Nat.le_of_ble_eq_true rfl) (fun H locs hQA hsz hoth hS => ?_)
    obtain ⟨hQ, hA⟩ := hQA
    have hW := hW.kp (fun k hk => hoth _ (hW.lt k hk) (fun h => h))
    have hD := hD.kp (hoth _ hD.lt (fun h => h))
    have hkb : -2147483648 ≤ (kxAddF σ (sx xs (i + 1)) (lwJ (sx xs (i + 2)) (sx xs (i + 3)))) ∧ (kxAddF σ (sx xs (i + 1)) (lwJ (sx xs (i + 2)) (sx xs (i + 3)))) < 2147483648 := by unfold kxAddF; (try unfold kxPK); (repeat' split) <;> decide
    have hkn : ¬ (kxAddF σ (sx xs (i + 1)) (lwJ (sx xs (i + 2)) (sx xs (i + 3)))) = 0 := hk
    refine lv_istore (pc := 723) (lv' := [(6, .int (iI ((kxAddF σ (sx xs (i + 1)) (lwJ (sx xs (i + 2)) (sx xs (i + 3))))))), (0, .ref (b)), (1, .ref (qo s.heap.size 0)), (2, .ref (s.heap.size + 187 + 0)), (3, .ref (s.heap.size + 193)), (4, .ref (s.heap.size + 194)), (5, .int (iI (i)))]) E.1 E.2 dL_law_723 hl (by decide) rfl (fun ls hl => ?_)
    refine lv_aload_n (pc := 725) E.1 E.2 dL_law_725 rfl (lv_at hl 3 rfl) ?_
    refine lv_aload_n (pc := 726) E.1 E.2 dL_law_726 rfl (lv_at hl 1 rfl) ?_
    refine lv_iload (pc := 727) E.1 E.2 dL_law_727 (lv_at hl 6 rfl) ?_
    refine z_iconst (pc := 729) E dL_law_729 ?_
    refine z_iadd (pc := 730) E dL_law_730 ?_
    refine z_sld (pc := 731) E hx hb hbA hS ⟨by omega, by omega⟩ hL dL_law_731 ?_
    refine lv_aload_n (pc := 732) E.1 E.2 dL_law_732 rfl (lv_at hl 1 rfl) ?_
    refine lv_iload (pc := 733) E.1 E.2 dL_law_733 (lv_at hl 6 rfl) ?_
    refine z_iconst (pc := 735) E dL_law_735 ?_
    refine z_iadd (pc := 736) E dL_law_736 ?_
    refine z_sld (pc := 737) E hx hb hbA hS ⟨by omega, by omega⟩ hL dL_law_737 ?_
    refine z_i2lW (pc := 738) E dL_law_738 ?_
    refine z_bipush (pc := 739) E (by decide) dL_law_739 ?_
    refine lv_lshl (pc := 741) E.1 E.2 dL_law_741 rfl ?_
    refine lv_aload_n (pc := 742) E.1 E.2 dL_law_742 rfl (lv_at hl 1 rfl) ?_
    refine lv_iload (pc := 743) E.1 E.2 dL_law_743 (lv_at hl 6 rfl) ?_
    refine z_iconst (pc := 745) E dL_law_745 ?_
    refine z_iadd (pc := 746) E dL_law_746 ?_
    refine z_sld (pc := 747) E hx hb hbA hS ⟨by omega, by omega⟩ hL dL_law_747 ?_
    refine z_i2lW (pc := 748) E dL_law_748 ?_
    refine lv_ldc2 (pc := 749) (v := iL (4294967295)) E.1 E.2 hown (show (Jvm.Cond.constantLong RL 161 (iL (4294967295))).before _ s = true from (hts _ (List.mem_of_getElem? (i := 8) rfl))) dL_law_749 ?_
    refine lv_land (pc := 752) E.1 E.2 dL_law_752 ?_
    refine z_lorJ (pc := 753) (a := sx xs (i + 2)) (b := sx xs (i + 3)) E dL_law_753 ?_
    refine z_wVi (pc := 754) (As := [.int (iI (sx xs (i + 1))), .long (iL (lwJ (sx xs (i + 2)) (sx xs (i + 3))))]) (rest := []) E hml hown hts (mX8_addFolder l G (fun k => s.heap.size + 187 + k) μ σ φ κ β ω (sx xs (i + 1)) (lwJ (sx xs (i + 2)) (sx xs (i + 3))) hR.ok.1 (sx_b _ _) (lwJ_b _ _) hR.m3) (cwV 2 hts gL_law_X8_addFolder rfl rfl rfl vdX8_addFolder ⟨Nat.le_of_ble_eq_true rfl, Nat.le_of_ble_eq_true rfl⟩) (hW.1.recv hK rfl) hW hK hS (fun q h => la_8 h) rfl hl.1 rfl dL_law_754 ⟨by omega, by omega⟩ (Nat.le_of_ble_eq_true rfl) (fun H locs hW hsz hoth hS => ?_)
    have hQ := hQ.kp (fun k hk => hoth _ (hQ.lt k hk) (lb_8 hk))
    have hA := hA.kp (hoth _ hA.lt le_193)
    have hD := hD.kp (hoth _ hD.lt le_194)
    have hk8 := hk
    try simp only [if_neg hk8] at hW
    refine lv_istore (pc := 757) (lv' := [(7, .int (iI ((if (kxAddF σ (sx xs (i + 1)) (lwJ (sx xs (i + 2)) (sx xs (i + 3)))) = 0 then σ 2 else 0)))), (6, .int (iI ((kxAddF σ (sx xs (i + 1)) (lwJ (sx xs (i + 2)) (sx xs (i + 3))))))), (0, .ref (b)), (1, .ref (qo s.heap.size 0)), (2, .ref (s.heap.size + 187 + 0)), (3, .ref (s.heap.size + 193)), (4, .ref (s.heap.size + 194)), (5, .int (iI (i)))]) E.1 E.2 dL_law_757 hl (by decide) rfl (fun ls hl => ?_)
    refine lv_aload_n (pc := 759) E.1 E.2 dL_law_759 rfl (lv_at hl 4 rfl) ?_
    refine z_rVi (pc := 760) (As := []) (rest := []) E hml hown hts (mX8_thrown l G (fun k => s.heap.size + 187 + k) _ _ _ _ _ _) (cwV 0 hts gL_law_X8_thrown rfl rfl rfl vdX8_thrown ⟨Nat.le_of_ble_eq_true rfl, Nat.le_of_ble_eq_true rfl⟩) (hW.1.recv hK rfl) hW hK rfl hl.1 rfl dL_law_760 ⟨by omega, by omega⟩ (Nat.le_of_ble_eq_true rfl) ?_
    refine lv_iload (pc := 763) E.1 E.2 dL_law_763 (lv_at hl 1 rfl) ?_
    refine z_same (pc := 765) (tgt := 770) E rfl dL_law_765 (by decide) ?_
    refine lv_iload (pc := 770) E.1 E.2 dL_law_770 (lv_at hl 1 rfl) ?_
    refine z_if_ne (pc := 772) (tgt := 787) E hkb dL_law_772 (by decide) (fun _ => ?_) (fun h => absurd h hkn)
    refine lv_goto (pc := 787) (tgt := 2822) E.1 E.2 dL_law_787 (by decide) ?_
    refine W.widen (k := cells + 1) (n := slots + 6) (by omega) (by omega) ?_
    exact kk H locs ls ⟨⟨_, _, _, _, _, _, _, _, _, hQ, hW, hR.id rfl rfl rfl rfl⟩, ⟨_, hA⟩, ⟨_, hD⟩⟩ hS (lv_sub hl [2, 3, 4, 5, 6, 7] rfl)
set_option maxHeartbeats 1000000 in
set_option maxRecDepth 100000 in
theorem cs_removeFolder {p : Program} {l : Launch} {e : Env} {s : State} {m : MethodId} {below : List Frame} {meth : Method} {c : Code} {G : GG} {b L : Nat} {xs : Nat → Int32} {aK aV : Nat → Nat} (X : LX p l s m c G b L xs aK aV) {n : Nat} {i : Int} {H : Heap} {locs : List Loc} {ls : Array Slot} {cells slots : Nat} {Q : State → Prop} (hn : n ≤ 600) (hi : 0 ≤ i ∧ i + 6 ≤ (L : Int)) (hH : LH G n s.heap.size H) (hS : va_S (fun q => s.heap.size ≤ q) s.heap H locs) (hl : lv_has ls 8 [(0, .ref b), (1, .ref (qo s.heap.size 0)), (2, .ref (s.heap.size + 187 + 0)), (3, .ref (s.heap.size + 193)), (4, .ref (s.heap.size + 194)), (5, .int (iI i))]) (hc : cells + 1 ≤ room_1.cells) (hsl : slots + 6 ≤ room_1.slots) (kk : ∀ (H : Heap) (locs : List Loc) (ls : Array Slot), LH G (n + 1) s.heap.size H → va_S (fun q => s.heap.size ≤ q) s.heap H locs → lv_has ls 8 [(0, .ref b), (1, .ref (qo s.heap.size 0)), (2, .ref (s.heap.size + 187 + 0)), (3, .ref (s.heap.size + 193)), (4, .ref (s.heap.size + 194)), (5, .int (iI i))] → W p l e room_1 s m #[Value.ref b] below meth c H locs (cells + 1) (slots + 6) Q (F0 m 2822 ls [])) : W p l e room_1 s m #[Value.ref b] below meth c H locs cells slots Q (F0 m 790 ls []) := by
  obtain ⟨E, hml, hown, hts, hK, hX0, hx, hb, hst, hL, hks⟩ := X
  obtain ⟨⟨ν, σ, π, δ, β, ω, μ, φ, κ, hQ, hW, hR⟩, ⟨fq, hA⟩, ⟨xq, hD⟩⟩ := hH
  have hX : KX FF0 s H := (hX0.kept (fun a ha hna => hS.2.1 a ha hna)).narrow (fun q h => h.elim)
  have hbA : ¬ (s.heap.size ≤ b) := by omega
  refine lv_aload_n (pc := 790) E.1 E.2 dL_law_790 rfl (lv_at hl 1 rfl) ?_
  refine lv_aload_n (pc := 791) E.1 E.2 dL_law_791 rfl (lv_at hl 0 rfl) ?_
  refine lv_iload (pc := 792) E.1 E.2 dL_law_792 (lv_at hl 5 rfl) ?_
  refine z_iconst (pc := 794) E dL_law_794 ?_
  refine z_iadd (pc := 795) E dL_law_795 ?_
  refine z_sld (pc := 796) E hx hb hbA hS ⟨by omega, by omega⟩ hL dL_law_796 ?_
  refine lv_aload_n (pc := 797) E.1 E.2 dL_law_797 rfl (lv_at hl 3 rfl) ?_
  by_cases hk : (kxRemF σ (sx xs (i + 1))) = 0
  · refine z_lwc (pc := 798) (As := [.ref (qo s.heap.size 0), .int (iI (sx xs (i + 1))), .ref (s.heap.size + 193)]) (rest := []) E hml hown hts (mL_removeFolder l G (qo s.heap.size) ν σ π δ (fun j => sg8 (β j)) ω (sx xs (i + 1)) hR.ok.1 (sx_b _ _) hk (hR.hc hn) hR.hu (s.heap.size + 193) fq (fun k hk => by have := qo_b s.heap.size hk; omega)) (vx_cwSW 3 hts gL_law_L_removeFolder rfl rfl rfl vdL_removeFolder.2 ⟨Nat.le_of_ble_eq_true rfl, Nat.le_of_ble_eq_true rfl⟩) ⟨hQ, hA⟩ hK hX hS (fun q h => la_193 h) rfl hl.1 rfl dL_law_798 ⟨by omega, by omega⟩ (Nat.le_of_ble_eq_true rfl) (fun H locs hQA hsz hoth hS => ?_)
    obtain ⟨hQ, hA⟩ := hQA
    have hW := hW.kp (fun k hk => hoth _ (hW.lt k hk) (lb_193 hk))
    have hD := hD.kp (hoth _ hD.lt lc_193)
    refine lv_istore (pc := 801) (lv' := [(6, .int (iI (0))), (0, .ref (b)), (1, .ref (qo s.heap.size 0)), (2, .ref (s.heap.size + 187 + 0)), (3, .ref (s.heap.size + 193)), (4, .ref (s.heap.size + 194)), (5, .int (iI (i)))]) E.1 E.2 dL_law_801 hl (by decide) rfl (fun ls hl => ?_)
    refine lv_aload_n (pc := 803) E.1 E.2 dL_law_803 rfl (lv_at hl 3 rfl) ?_
    refine lv_aload_n (pc := 804) E.1 E.2 dL_law_804 rfl (lv_at hl 1 rfl) ?_
    refine lv_iload (pc := 805) E.1 E.2 dL_law_805 (lv_at hl 6 rfl) ?_
    refine z_iconst (pc := 807) E dL_law_807 ?_
    refine z_iadd (pc := 808) E dL_law_808 ?_
    refine z_sld (pc := 809) E hx hb hbA hS ⟨by omega, by omega⟩ hL dL_law_809 ?_
    refine z_wVi (pc := 810) (As := [.int (iI (sx xs (i + 1)))]) (rest := []) E hml hown hts (mX8_removeFolder l G (fun k => s.heap.size + 187 + k) μ σ φ κ β ω (sx xs (i + 1)) hR.ok.1 (sx_b _ _) hR.m3) (cwV 1 hts gL_law_X8_removeFolder rfl rfl rfl vdX8_removeFolder ⟨Nat.le_of_ble_eq_true rfl, Nat.le_of_ble_eq_true rfl⟩) (hW.1.recv hK rfl) hW hK hS (fun q h => la_8 h) rfl hl.1 rfl dL_law_810 ⟨by omega, by omega⟩ (Nat.le_of_ble_eq_true rfl) (fun H locs hW hsz hoth hS => ?_)
    have hQ := hQ.kp (fun k hk => hoth _ (hQ.lt k hk) (lb_8 hk))
    have hA := hA.kp (hoth _ hA.lt le_193)
    have hD := hD.kp (hoth _ hD.lt le_194)
    have hk8 := hk
    try simp only [if_pos hk8] at hW
    refine lv_istore (pc := 813) (lv' := [(7, .int (iI ((if (kxRemF σ (sx xs (i + 1))) = 0 then σ 2 - 1 else 0)))), (6, .int (iI (0))), (0, .ref (b)), (1, .ref (qo s.heap.size 0)), (2, .ref (s.heap.size + 187 + 0)), (3, .ref (s.heap.size + 193)), (4, .ref (s.heap.size + 194)), (5, .int (iI (i)))]) E.1 E.2 dL_law_813 hl (by decide) rfl (fun ls hl => ?_)
    refine lv_aload_n (pc := 815) E.1 E.2 dL_law_815 rfl (lv_at hl 4 rfl) ?_
    refine z_rVi (pc := 816) (As := []) (rest := []) E hml hown hts (mX8_thrown l G (fun k => s.heap.size + 187 + k) _ _ _ _ _ _) (cwV 0 hts gL_law_X8_thrown rfl rfl rfl vdX8_thrown ⟨Nat.le_of_ble_eq_true rfl, Nat.le_of_ble_eq_true rfl⟩) (hW.1.recv hK rfl) hW hK rfl hl.1 rfl dL_law_816 ⟨by omega, by omega⟩ (Nat.le_of_ble_eq_true rfl) ?_
    refine lv_iload (pc := 819) E.1 E.2 dL_law_819 (lv_at hl 1 rfl) ?_
    refine z_same (pc := 821) (tgt := 826) E hk8 dL_law_821 (by decide) ?_
    refine lv_iload (pc := 826) E.1 E.2 dL_law_826 (lv_at hl 1 rfl) ?_
    refine z_if_ne (pc := 828) (tgt := 843) E (by decide) dL_law_828 (by decide) (fun h => absurd rfl h) (fun _ => ?_)
    refine lv_aload_n (pc := 831) E.1 E.2 dL_law_831 rfl (lv_at hl 5 rfl) ?_
    refine z_iconst (pc := 832) E dL_law_832 ?_
    refine z_laloadE (pc := 833) E hK hA (by decide) (by decide) (show zu fq 0 (rI ((σ 2 - 1))) 0 = rI ((σ 2 - 1)) from if_pos rfl) dL_law_833 ?_
    refine lv_iload (pc := 834) E.1 E.2 dL_law_834 (lv_at hl 0 rfl) ?_
    refine z_i2lR (pc := 836) E dL_law_836 ?_
    refine z_sameL (pc := 837) (tgt := 843) E (if_pos hk8).symm dL_law_837 dL_law_838 (by decide) ?_
    refine lv_goto (pc := 843) (tgt := 2822) E.1 E.2 dL_law_843 (by decide) ?_
    refine W.widen (k := cells + 1) (n := slots + 6) (by omega) (by omega) ?_
    exact kk H locs ls ⟨⟨_, _, _, _, _, _, _, _, _, hQ, hW, hR.wr (ok_RemF hR.ok hk) rfl rfl hR.e6 hR.m6 rfl hR.e14 rfl rfl⟩, ⟨_, hA⟩, ⟨_, hD⟩⟩ hS (lv_sub hl [2, 3, 4, 5, 6, 7] rfl)
  · refine z_lwc (pc := 798) (As := [.ref (qo s.heap.size 0), .int (iI (sx xs (i + 1))), .ref (s.heap.size + 193)]) (rest := []) E hml hown hts (mbL_removeFolder l hst G (qo s.heap.size) ν σ π δ (fun j => sg8 (β j)) ω (sx xs (i + 1)) hR.ok.1 (sx_b _ _) hk (s.heap.size + 193) fq) (vx_cwSW 3 hts gL_law_L_removeFolder rfl rfl rfl vdL_removeFolder.2 ⟨Nat.le_of_ble_eq_true rfl, Nat.le_of_ble_eq_true rfl⟩) ⟨hQ, hA⟩ hK hX hS (fun q h => h.elim) rfl hl.1 rfl dL_law_798 ⟨by omega, by omega⟩ (Nat.le_of_ble_eq_true rfl) (fun H locs hQA hsz hoth hS => ?_)
    obtain ⟨hQ, hA⟩ := hQA
    have hW := hW.kp (fun k hk => hoth _ (hW.lt k hk) (fun h => h))
    have hD := hD.kp (hoth _ hD.lt (fun h => h))
    have hkb : -2147483648 ≤ (kxRemF σ (sx xs (i + 1))) ∧ (kxRemF σ (sx xs (i + 1))) < 2147483648 := by unfold kxRemF; (try unfold kxPK); (repeat' split) <;> decide
    have hkn : ¬ (kxRemF σ (sx xs (i + 1))) = 0 := hk
    refine lv_istore (pc := 801) (lv' := [(6, .int (iI ((kxRemF σ (sx xs (i + 1)))))), (0, .ref (b)), (1, .ref (qo s.heap.size 0)), (2, .ref (s.heap.size + 187 + 0)), (3, .ref (s.heap.size + 193)), (4, .ref (s.heap.size + 194)), (5, .int (iI (i)))]) E.1 E.2 dL_law_801 hl (by decide) rfl (fun ls hl => ?_)
    refine lv_aload_n (pc := 803) E.1 E.2 dL_law_803 rfl (lv_at hl 3 rfl) ?_
    refine lv_aload_n (pc := 804) E.1 E.2 dL_law_804 rfl (lv_at hl 1 rfl) ?_
    refine lv_iload (pc := 805) E.1 E.2 dL_law_805 (lv_at hl 6 rfl) ?_
    refine z_iconst (pc := 807) E dL_law_807 ?_
    refine z_iadd (pc := 808) E dL_law_808 ?_
    refine z_sld (pc := 809) E hx hb hbA hS ⟨by omega, by omega⟩ hL dL_law_809 ?_
    refine z_wVi (pc := 810) (As := [.int (iI (sx xs (i + 1)))]) (rest := []) E hml hown hts (mX8_removeFolder l G (fun k => s.heap.size + 187 + k) μ σ φ κ β ω (sx xs (i + 1)) hR.ok.1 (sx_b _ _) hR.m3) (cwV 1 hts gL_law_X8_removeFolder rfl rfl rfl vdX8_removeFolder ⟨Nat.le_of_ble_eq_true rfl, Nat.le_of_ble_eq_true rfl⟩) (hW.1.recv hK rfl) hW hK hS (fun q h => la_8 h) rfl hl.1 rfl dL_law_810 ⟨by omega, by omega⟩ (Nat.le_of_ble_eq_true rfl) (fun H locs hW hsz hoth hS => ?_)
    have hQ := hQ.kp (fun k hk => hoth _ (hQ.lt k hk) (lb_8 hk))
    have hA := hA.kp (hoth _ hA.lt le_193)
    have hD := hD.kp (hoth _ hD.lt le_194)
    have hk8 := hk
    try simp only [if_neg hk8] at hW
    refine lv_istore (pc := 813) (lv' := [(7, .int (iI ((if (kxRemF σ (sx xs (i + 1))) = 0 then σ 2 - 1 else 0)))), (6, .int (iI ((kxRemF σ (sx xs (i + 1)))))), (0, .ref (b)), (1, .ref (qo s.heap.size 0)), (2, .ref (s.heap.size + 187 + 0)), (3, .ref (s.heap.size + 193)), (4, .ref (s.heap.size + 194)), (5, .int (iI (i)))]) E.1 E.2 dL_law_813 hl (by decide) rfl (fun ls hl => ?_)
    refine lv_aload_n (pc := 815) E.1 E.2 dL_law_815 rfl (lv_at hl 4 rfl) ?_
    refine z_rVi (pc := 816) (As := []) (rest := []) E hml hown hts (mX8_thrown l G (fun k => s.heap.size + 187 + k) _ _ _ _ _ _) (cwV 0 hts gL_law_X8_thrown rfl rfl rfl vdX8_thrown ⟨Nat.le_of_ble_eq_true rfl, Nat.le_of_ble_eq_true rfl⟩) (hW.1.recv hK rfl) hW hK rfl hl.1 rfl dL_law_816 ⟨by omega, by omega⟩ (Nat.le_of_ble_eq_true rfl) ?_
    refine lv_iload (pc := 819) E.1 E.2 dL_law_819 (lv_at hl 1 rfl) ?_
    refine z_same (pc := 821) (tgt := 826) E rfl dL_law_821 (by decide) ?_
    refine lv_iload (pc := 826) E.1 E.2 dL_law_826 (lv_at hl 1 rfl) ?_
    refine z_if_ne (pc := 828) (tgt := 843) E hkb dL_law_828 (by decide) (fun _ => ?_) (fun h => absurd h hkn)
    refine lv_goto (pc := 843) (tgt := 2822) E.1 E.2 dL_law_843 (by decide) ?_
    refine W.widen (k := cells + 1) (n := slots + 6) (by omega) (by omega) ?_
    exact kk H locs ls ⟨⟨_, _, _, _, _, _, _, _, _, hQ, hW, hR.id rfl rfl rfl rfl⟩, ⟨_, hA⟩, ⟨_, hD⟩⟩ hS (lv_sub hl [2, 3, 4, 5, 6, 7] rfl)
set_option maxHeartbeats 1000000 in
set_option maxRecDepth 100000 in
theorem cs_tagReason {p : Program} {l : Launch} {e : Env} {s : State} {m : MethodId} {below : List Frame} {meth : Method} {c : Code} {G : GG} {b L : Nat} {xs : Nat → Int32} {aK aV : Nat → Nat} (X : LX p l s m c G b L xs aK aV) {n : Nat} {i : Int} {H : Heap} {locs : List Loc} {ls : Array Slot} {cells slots : Nat} {Q : State → Prop} (hn : n ≤ 600) (hi : 0 ≤ i ∧ i + 6 ≤ (L : Int)) (hH : LH G n s.heap.size H) (hS : va_S (fun q => s.heap.size ≤ q) s.heap H locs) (hl : lv_has ls 8 [(0, .ref b), (1, .ref (qo s.heap.size 0)), (2, .ref (s.heap.size + 187 + 0)), (3, .ref (s.heap.size + 193)), (4, .ref (s.heap.size + 194)), (5, .int (iI i))]) (hc : cells + 1 ≤ room_1.cells) (hsl : slots + 6 ≤ room_1.slots) (kk : ∀ (H : Heap) (locs : List Loc) (ls : Array Slot), LH G (n + 1) s.heap.size H → va_S (fun q => s.heap.size ≤ q) s.heap H locs → lv_has ls 8 [(0, .ref b), (1, .ref (qo s.heap.size 0)), (2, .ref (s.heap.size + 187 + 0)), (3, .ref (s.heap.size + 193)), (4, .ref (s.heap.size + 194)), (5, .int (iI i))] → W p l e room_1 s m #[Value.ref b] below meth c H locs (cells + 1) (slots + 6) Q (F0 m 2822 ls [])) : W p l e room_1 s m #[Value.ref b] below meth c H locs cells slots Q (F0 m 846 ls []) := by
  obtain ⟨E, hml, hown, hts, hK, hX0, hx, hb, hst, hL, hks⟩ := X
  obtain ⟨⟨ν, σ, π, δ, β, ω, μ, φ, κ, hQ, hW, hR⟩, ⟨fq, hA⟩, ⟨xq, hD⟩⟩ := hH
  have hX : KX FF0 s H := (hX0.kept (fun a ha hna => hS.2.1 a ha hna)).narrow (fun q h => h.elim)
  have hbA : ¬ (s.heap.size ≤ b) := by omega
  refine lv_aload_n (pc := 846) E.1 E.2 dL_law_846 rfl (lv_at hl 1 rfl) ?_
  refine lv_aload_n (pc := 847) E.1 E.2 dL_law_847 rfl (lv_at hl 0 rfl) ?_
  refine lv_iload (pc := 848) E.1 E.2 dL_law_848 (lv_at hl 5 rfl) ?_
  refine z_iconst (pc := 850) E dL_law_850 ?_
  refine z_iadd (pc := 851) E dL_law_851 ?_
  refine z_sld (pc := 852) E hx hb hbA hS ⟨by omega, by omega⟩ hL dL_law_852 ?_
  refine lv_aload_n (pc := 853) E.1 E.2 dL_law_853 rfl (lv_at hl 0 rfl) ?_
  refine lv_iload (pc := 854) E.1 E.2 dL_law_854 (lv_at hl 5 rfl) ?_
  refine z_iconst (pc := 856) E dL_law_856 ?_
  refine z_iadd (pc := 857) E dL_law_857 ?_
  refine z_sld (pc := 858) E hx hb hbA hS ⟨by omega, by omega⟩ hL dL_law_858 ?_
  refine lv_aload_n (pc := 859) E.1 E.2 dL_law_859 rfl (lv_at hl 3 rfl) ?_
  by_cases hk : (kxTagR σ (sx xs (i + 1)) (sx xs (i + 2))) = 0
  · refine z_lwc (pc := 860) (As := [.ref (qo s.heap.size 0), .int (iI (sx xs (i + 1))), .int (iI (sx xs (i + 2))), .ref (s.heap.size + 193)]) (rest := []) E hml hown hts (mL_tagReason l G (qo s.heap.size) ν σ π δ (fun j => sg8 (β j)) ω (sx xs (i + 1)) (sx xs (i + 2)) hR.ok.1 (sx_b _ _) (sx_b _ _) hk (s.heap.size + 193) fq (fun k hk => by have := qo_b s.heap.size hk; omega)) (vx_cwSW 4 hts gL_law_L_tagReason rfl rfl rfl vdL_tagReason.2 ⟨Nat.le_of_ble_eq_true rfl, Nat.le_of_ble_eq_true rfl⟩) ⟨hQ, hA⟩ hK hX hS (fun q h => la_193 h) rfl hl.1 rfl dL_law_860 ⟨by omega, by omega⟩ (Nat.le_of_ble_eq_true rfl) (fun H locs hQA hsz hoth hS => ?_)
    obtain ⟨hQ, hA⟩ := hQA
    have hW := hW.kp (fun k hk => hoth _ (hW.lt k hk) (lb_193 hk))
    have hD := hD.kp (hoth _ hD.lt lc_193)
    refine lv_istore (pc := 863) (lv' := [(6, .int (iI (0))), (0, .ref (b)), (1, .ref (qo s.heap.size 0)), (2, .ref (s.heap.size + 187 + 0)), (3, .ref (s.heap.size + 193)), (4, .ref (s.heap.size + 194)), (5, .int (iI (i)))]) E.1 E.2 dL_law_863 hl (by decide) rfl (fun ls hl => ?_)
    refine lv_aload_n (pc := 865) E.1 E.2 dL_law_865 rfl (lv_at hl 3 rfl) ?_
    refine lv_aload_n (pc := 866) E.1 E.2 dL_law_866 rfl (lv_at hl 1 rfl) ?_
    refine lv_iload (pc := 867) E.1 E.2 dL_law_867 (lv_at hl 6 rfl) ?_
    refine z_iconst (pc := 869) E dL_law_869 ?_
    refine z_iadd (pc := 870) E dL_law_870 ?_
    refine z_sld (pc := 871) E hx hb hbA hS ⟨by omega, by omega⟩ hL dL_law_871 ?_
    refine lv_aload_n (pc := 872) E.1 E.2 dL_law_872 rfl (lv_at hl 1 rfl) ?_
    refine lv_iload (pc := 873) E.1 E.2 dL_law_873 (lv_at hl 6 rfl) ?_
    refine z_iconst (pc := 875) E dL_law_875 ?_
    refine z_iadd (pc := 876) E dL_law_876 ?_
    refine z_sld (pc := 877) E hx hb hbA hS ⟨by omega, by omega⟩ hL dL_law_877 ?_
    refine z_wVi (pc := 878) (As := [.int (iI (sx xs (i + 1))), .int (iI (sx xs (i + 2)))]) (rest := []) E hml hown hts (mX8_tagReason l G (fun k => s.heap.size + 187 + k) μ σ φ κ β ω (sx xs (i + 1)) (sx xs (i + 2)) hR.ok.1 (sx_b _ _) (sx_b _ _)) (cwV 2 hts gL_law_X8_tagReason rfl rfl rfl vdX8_tagReason ⟨Nat.le_of_ble_eq_true rfl, Nat.le_of_ble_eq_true rfl⟩) (hW.1.recv hK rfl) hW hK hS (fun q h => la_8 h) rfl hl.1 rfl dL_law_878 ⟨by omega, by omega⟩ (Nat.le_of_ble_eq_true rfl) (fun H locs hW hsz hoth hS => ?_)
    have hQ := hQ.kp (fun k hk => hoth _ (hQ.lt k hk) (lb_8 hk))
    have hA := hA.kp (hoth _ hA.lt le_193)
    have hD := hD.kp (hoth _ hD.lt le_194)
    have hk8 := hk
    try simp only [if_pos hk8] at hW
    refine lv_istore (pc := 881) (lv' := [(7, .int (iI ((if (kxTagR σ (sx xs (i + 1)) (sx xs (i + 2))) = 0 then rtS σ (sx xs (i + 1)) (sx xs (i + 2)) else 0)))), (6, .int (iI (0))), (0, .ref (b)), (1, .ref (qo s.heap.size 0)), (2, .ref (s.heap.size + 187 + 0)), (3, .ref (s.heap.size + 193)), (4, .ref (s.heap.size + 194)), (5, .int (iI (i)))]) E.1 E.2 dL_law_881 hl (by decide) rfl (fun ls hl => ?_)
    refine lv_aload_n (pc := 883) E.1 E.2 dL_law_883 rfl (lv_at hl 4 rfl) ?_
    refine z_rVi (pc := 884) (As := []) (rest := []) E hml hown hts (mX8_thrown l G (fun k => s.heap.size + 187 + k) _ _ _ _ _ _) (cwV 0 hts gL_law_X8_thrown rfl rfl rfl vdX8_thrown ⟨Nat.le_of_ble_eq_true rfl, Nat.le_of_ble_eq_true rfl⟩) (hW.1.recv hK rfl) hW hK rfl hl.1 rfl dL_law_884 ⟨by omega, by omega⟩ (Nat.le_of_ble_eq_true rfl) ?_
    refine lv_iload (pc := 887) E.1 E.2 dL_law_887 (lv_at hl 1 rfl) ?_
    refine z_same (pc := 889) (tgt := 894) E hk8 dL_law_889 (by decide) ?_
    refine lv_iload (pc := 894) E.1 E.2 dL_law_894 (lv_at hl 1 rfl) ?_
    refine z_if_ne (pc := 896) (tgt := 911) E (by decide) dL_law_896 (by decide) (fun h => absurd rfl h) (fun _ => ?_)
    refine lv_aload_n (pc := 899) E.1 E.2 dL_law_899 rfl (lv_at hl 5 rfl) ?_
    refine z_iconst (pc := 900) E dL_law_900 ?_
    refine z_laloadE (pc := 901) E hK hA (by decide) (by decide) (show zu fq 0 (rI ((rtS σ (sx xs (i + 1)) (sx xs (i + 2))))) 0 = rI ((rtS σ (sx xs (i + 1)) (sx xs (i + 2)))) from if_pos rfl) dL_law_901 ?_
    refine lv_iload (pc := 902) E.1 E.2 dL_law_902 (lv_at hl 0 rfl) ?_
    refine z_i2lR (pc := 904) E dL_law_904 ?_
    refine z_sameL (pc := 905) (tgt := 911) E (if_pos hk8).symm dL_law_905 dL_law_906 (by decide) ?_
    refine lv_goto (pc := 911) (tgt := 2822) E.1 E.2 dL_law_911 (by decide) ?_
    refine W.widen (k := cells + 1) (n := slots + 6) (by omega) (by omega) ?_
    exact kk H locs ls ⟨⟨_, _, _, _, _, _, _, _, _, hQ, hW, hR.id rfl rfl rfl rfl⟩, ⟨_, hA⟩, ⟨_, hD⟩⟩ hS (lv_sub hl [2, 3, 4, 5, 6, 7] rfl)
  · refine z_lwc (pc := 860) (As := [.ref (qo s.heap.size 0), .int (iI (sx xs (i + 1))), .int (iI (sx xs (i + 2))), .ref (s.heap.size + 193)]) (rest := []) E hml hown hts (mbL_tagReason l hst G (qo s.heap.size) ν σ π δ (fun j => sg8 (β j)) ω (sx xs (i + 1)) (sx xs (i + 2)) hR.ok.1 (sx_b _ _) (sx_b _ _) hk (s.heap.size + 193) fq) (vx_cwSW 4 hts gL_law_L_tagReason rfl rfl rfl vdL_tagReason.2 ⟨Nat.le_of_ble_eq_true rfl, Nat.le_of_ble_eq_true rfl⟩) ⟨hQ, hA⟩ hK hX hS (fun q h => h.elim) rfl hl.1 rfl dL_law_860 ⟨by omega, by omega⟩ (Nat.le_of_ble_eq_true rfl) (fun H locs hQA hsz hoth hS => ?_)
    obtain ⟨hQ, hA⟩ := hQA
    have hW := hW.kp (fun k hk => hoth _ (hW.lt k hk) (fun h => h))
    have hD := hD.kp (hoth _ hD.lt (fun h => h))
    have hkb : -2147483648 ≤ (kxTagR σ (sx xs (i + 1)) (sx xs (i + 2))) ∧ (kxTagR σ (sx xs (i + 1)) (sx xs (i + 2))) < 2147483648 := by unfold kxTagR; (try unfold kxPK); (repeat' split) <;> decide
    have hkn : ¬ (kxTagR σ (sx xs (i + 1)) (sx xs (i + 2))) = 0 := hk
    refine lv_istore (pc := 863) (lv' := [(6, .int (iI ((kxTagR σ (sx xs (i + 1)) (sx xs (i + 2)))))), (0, .ref (b)), (1, .ref (qo s.heap.size 0)), (2, .ref (s.heap.size + 187 + 0)), (3, .ref (s.heap.size + 193)), (4, .ref (s.heap.size + 194)), (5, .int (iI (i)))]) E.1 E.2 dL_law_863 hl (by decide) rfl (fun ls hl => ?_)
    refine lv_aload_n (pc := 865) E.1 E.2 dL_law_865 rfl (lv_at hl 3 rfl) ?_
    refine lv_aload_n (pc := 866) E.1 E.2 dL_law_866 rfl (lv_at hl 1 rfl) ?_
    refine lv_iload (pc := 867) E.1 E.2 dL_law_867 (lv_at hl 6 rfl) ?_
    refine z_iconst (pc := 869) E dL_law_869 ?_
    refine z_iadd (pc := 870) E dL_law_870 ?_
    refine z_sld (pc := 871) E hx hb hbA hS ⟨by omega, by omega⟩ hL dL_law_871 ?_
    refine lv_aload_n (pc := 872) E.1 E.2 dL_law_872 rfl (lv_at hl 1 rfl) ?_
    refine lv_iload (pc := 873) E.1 E.2 dL_law_873 (lv_at hl 6 rfl) ?_
    refine z_iconst (pc := 875) E dL_law_875 ?_
    refine z_iadd (pc := 876) E dL_law_876 ?_
    refine z_sld (pc := 877) E hx hb hbA hS ⟨by omega, by omega⟩ hL dL_law_877 ?_
    refine z_wVi (pc := 878) (As := [.int (iI (sx xs (i + 1))), .int (iI (sx xs (i + 2)))]) (rest := []) E hml hown hts (mX8_tagReason l G (fun k => s.heap.size + 187 + k) μ σ φ κ β ω (sx xs (i + 1)) (sx xs (i + 2)) hR.ok.1 (sx_b _ _) (sx_b _ _)) (cwV 2 hts gL_law_X8_tagReason rfl rfl rfl vdX8_tagReason ⟨Nat.le_of_ble_eq_true rfl, Nat.le_of_ble_eq_true rfl⟩) (hW.1.recv hK rfl) hW hK hS (fun q h => la_8 h) rfl hl.1 rfl dL_law_878 ⟨by omega, by omega⟩ (Nat.le_of_ble_eq_true rfl) (fun H locs hW hsz hoth hS => ?_)
    have hQ := hQ.kp (fun k hk => hoth _ (hQ.lt k hk) (lb_8 hk))
    have hA := hA.kp (hoth _ hA.lt le_193)
    have hD := hD.kp (hoth _ hD.lt le_194)
    have hk8 := hk
    try simp only [if_neg hk8] at hW
    refine lv_istore (pc := 881) (lv' := [(7, .int (iI ((if (kxTagR σ (sx xs (i + 1)) (sx xs (i + 2))) = 0 then rtS σ (sx xs (i + 1)) (sx xs (i + 2)) else 0)))), (6, .int (iI ((kxTagR σ (sx xs (i + 1)) (sx xs (i + 2)))))), (0, .ref (b)), (1, .ref (qo s.heap.size 0)), (2, .ref (s.heap.size + 187 + 0)), (3, .ref (s.heap.size + 193)), (4, .ref (s.heap.size + 194)), (5, .int (iI (i)))]) E.1 E.2 dL_law_881 hl (by decide) rfl (fun ls hl => ?_)
    refine lv_aload_n (pc := 883) E.1 E.2 dL_law_883 rfl (lv_at hl 4 rfl) ?_
    refine z_rVi (pc := 884) (As := []) (rest := []) E hml hown hts (mX8_thrown l G (fun k => s.heap.size + 187 + k) _ _ _ _ _ _) (cwV 0 hts gL_law_X8_thrown rfl rfl rfl vdX8_thrown ⟨Nat.le_of_ble_eq_true rfl, Nat.le_of_ble_eq_true rfl⟩) (hW.1.recv hK rfl) hW hK rfl hl.1 rfl dL_law_884 ⟨by omega, by omega⟩ (Nat.le_of_ble_eq_true rfl) ?_
    refine lv_iload (pc := 887) E.1 E.2 dL_law_887 (lv_at hl 1 rfl) ?_
    refine z_same (pc := 889) (tgt := 894) E rfl dL_law_889 (by decide) ?_
    refine lv_iload (pc := 894) E.1 E.2 dL_law_894 (lv_at hl 1 rfl) ?_
    refine z_if_ne (pc := 896) (tgt := 911) E hkb dL_law_896 (by decide) (fun _ => ?_) (fun h => absurd h hkn)
    refine lv_goto (pc := 911) (tgt := 2822) E.1 E.2 dL_law_911 (by decide) ?_
    refine W.widen (k := cells + 1) (n := slots + 6) (by omega) (by omega) ?_
    exact kk H locs ls ⟨⟨_, _, _, _, _, _, _, _, _, hQ, hW, hR.id rfl rfl rfl rfl⟩, ⟨_, hA⟩, ⟨_, hD⟩⟩ hS (lv_sub hl [2, 3, 4, 5, 6, 7] rfl)
