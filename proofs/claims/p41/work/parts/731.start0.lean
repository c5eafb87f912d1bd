section
/-! THE START IN NUMBERS -/
def m0 : MW := fun k j => if k = 58 then (if j = 1 ∨ j = 7 then 1 else if j = 5 ∨ j = 6 then -1 else if 8 ≤ j ∧ j < 16 then 5 else 0) else if k = 43 ∧ j = 6 then -1 else if (k = 37 ∨ k = 40) ∧ j = 0 then 1 else if (k = 1 ∨ k = 10 ∨ k = 19 ∨ k = 28) ∧ j = 8 then 1 else if (k = 2 ∨ k = 11 ∨ k = 20 ∨ k = 29) ∧ j < 8 then 5 else 0
set_option maxRecDepth 100000 in
set_option maxHeartbeats 40000000 in
theorem H_0 : hX0 ++ hM0 = H m0 (fun _ => 0) 0 := by rfl
theorem mz_7 : ∀ j, j < 8 → ∀ i, i < 8 → 1 ≤ j → vr (m0 58) j i = vw m0 0 j i := by decide +kernel
set_option maxRecDepth 20000 in
theorem Rel_0 : Rel2 m0 m0 (fun _ => 0) 0 0 := by
  refine ⟨by decide, by decide, ⟨by decide, fun i hi => absurd hi (Nat.not_lt_zero i)⟩, ⟨⟨⟨0, by decide, rfl⟩, ⟨1, by decide, by decide, rfl⟩, fun i hi => ?_⟩, ⟨0, by decide, rfl⟩, ⟨fun j h1 h8 i hi => mz_7 j h8 i hi h1, rfl, rfl, rfl⟩, rfl, ⟨⟨0, by decide, rfl⟩, rfl⟩, ⟨⟨0, by decide, rfl⟩, rfl⟩, fun j hj => ⟨⟨0, by decide, rfl⟩, ?_⟩, fun j hj => ?_, ⟨Or.inl (by decide), Or.inl ⟨rfl, by decide⟩⟩, ⟨Or.inl (by decide), Or.inl ⟨rfl, by decide⟩⟩⟩, ⟨0, by decide, rfl, rfl, rfl, fun h => absurd rfl h⟩, fun s hs => ?_, fun e h1 h2 => rfl, ⟨0, by decide, rfl, rfl, fun j hj => absurd hj (Nat.not_lt_zero j)⟩⟩
  · have h1 : vw m0 0 1 i = nI 5 := by
      show m0 2 i = nI 5
      unfold m0
      rw [if_neg (by decide), if_neg (by omega), if_neg (by omega), if_neg (by omega), if_pos ⟨by decide, hi⟩]
      rfl
    have hz : ∀ k, 3 ≤ k → k < 9 → m0 k i = 0 := fun k h3 h9 => by
      unfold m0
      rw [if_neg (by omega), if_neg (by omega), if_neg (by omega), if_neg (by omega), if_neg (by omega)]
    exact ⟨⟨5, by decide, h1⟩, ⟨0, by decide, hz 3 (by decide) (by decide)⟩, ⟨0, by decide, hz 4 (by decide) (by decide)⟩, ⟨0, by decide, hz 5 (by decide) (by decide)⟩, ⟨0, by decide, hz 6 (by decide) (by decide)⟩, ⟨0, by decide, hz 7 (by decide) (by decide)⟩, Or.inl (hz 8 (by decide) (by decide))⟩
  · unfold m0
    rw [if_pos rfl, if_neg (by omega), if_neg (by omega), if_neg (by omega)]
    rfl
  · unfold m0
    rw [if_pos rfl, if_neg (by omega), if_neg (by omega), if_neg (by omega)]
    rfl
  · have hz : ∀ k, 48 ≤ k → k < 69 → k ≠ 58 → ∀ j, m0 k j = 0 := fun k h1 h2 h3 j => by
      unfold m0
      rw [if_neg h3, if_neg (by omega), if_neg (by omega), if_neg (by omega), if_neg (by omega)]
    refine ⟨0, 0, Or.inl rfl, by decide, hz _ (by omega) (by omega) (by omega) _, hz _ (by omega) (by omega) (by omega) _, hz _ (by omega) (by omega) (by omega) _, hz _ (by omega) (by omega) (by omega) _, fun j hj => ⟨0, ?_, ?_⟩⟩
    · rw [hz _ (by omega) (by omega) (by omega)]
      rfl
    · rw [hz _ (by omega) (by omega) (by omega)]
      rfl
end
section
/-! THE LAW: a round of its loop -/
section
variable {xs : List Int32} {Q : QT} {m : MW} {ln : Nat → Nat} {N q mc ms : Nat}
theorem la {a pc p1 p2 p3 p4 p5 : Nat} {c : _} {v : Int32} {st : List Value} {h : AH} (r1 : smI 190 pc = some (.aload_n 0, p1, 0, 0, 0, 0)) (r2 : smI 190 p1 = some (.iload_n 3, p2, 0, 0, 0, 0)) (r3 : smI 190 p2 = some (.iconst c, p3, 0, 0, 0, v)) (hv : v = nI a) (r4 : smI 190 p3 = some (.iadd, p4, 0, 0, 0, 0)) (r5 : smI 190 p4 = some (.iaload, p5, 0, 0, 0, 0)) (hl : xs.length ≤ 3072) (ha : 6 * q + a < xs.length) (g : gw xs (WP xs 1299) 190 Q p5 [some (.ref 0), some (.ref 32), some (.ref 89), some (.int (nI (6 * q)))] (.int (xs.getD (6 * q + a) 0) :: st) h mc ms) : gw xs (WP xs 1299) 190 Q pc [some (.ref 0), some (.ref 32), some (.ref 89), some (.int (nI (6 * q)))] st h mc ms := by
  refine g_aload_n r1 rfl ?_
  refine g_iload_n r2 rfl ?_
  refine g_iconst r3 ?_
  refine g_iadd (u := nI (6 * q + a)) r4 (by rw [hv]; exact nI_add _ _) ?_
  refine g_iald (x := xs.getD (6 * q + a) 0) r5 (show smC xs h 0 = some (.inl (0, xs)) from rfl) (vp_in_nI ha (by omega)) (by rw [nI_clamp (by omega)]) ?_
  exact g
theorem h_cvm {d y : Nat} {pc : Nat} {L : LoS} {st rest args : List Value} {nx a b n ci : Nat} {v : Int32} {p k : Nat} {fs : List Nat} (mc2 ms2 : Nat) (hr : smI y pc = some (.invokevirtual n, nx, 20, a, b, v)) (hn : mCn a = ci) (hb : b ≤ st.length) (ht : (st.take b).reverse = args) (hd : st.drop b = .ref p :: rest) (hp : 32 + k = p) (hc : TmAt ln N k (.inr (ci, fs))) (hcat : catS rest ≤ 8) (h1 : mc2 ≤ mc) (h2 : ms2 ≤ ms) (g : WP xs d a mc2 ms2 (.ref p :: args) (H m ln N) (fun r h2 => gw xs (WP xs d) y Q nx L (r.toList ++ rest) h2 (mc - mc2) (ms - ms2))) : gw xs (WP xs d) y Q pc L st (H m ln N) mc ms := gs hr (by
  subst hn
  subst ht
  refine ⟨hb, ?_⟩
  rw [hd]
  dsimp only [pR, cO]
  rw [(smC_H hp hc.1).trans (congrArg some (tmO hc))]
  dsimp only
  rw [if_pos rfl]
  exact cl mc2 ms2 hcat h1 h2 g)
set_option maxRecDepth 20000 in
set_option maxHeartbeats 4000000 in
theorem lk_0 (R : Rel2 m m ln N q) (hq : 6 * q + 6 ≤ xs.length) (hl : xs.length ≤ 3072) (hmc : 3 ≤ mc) (hms : 102 ≤ ms) (hcont : ∀ (m2 : MW) (ln2 : Nat → Nat) (N2 mc2 ms2 : Nat), mc ≤ mc2 + 3 → ms ≤ ms2 + 102 → Rel2 m2 m2 ln2 N2 (q + 1) → gw xs (WP xs 1299) 190 Q 1428 [some (.ref 0), some (.ref 32), some (.ref 89), some (.int (nI (6 * q)))] [] (H m2 ln2 N2) mc2 ms2) : gw xs (WP xs 1299) 190 Q 208 [some (.ref 0), some (.ref 32), some (.ref 89), some (.int (nI (6 * q)))] [] (H m ln N) mc ms := by
  refine g_aload_n m190_208 rfl ?_
  refine la (a := 1) m190_209 m190_210 m190_211 rfl m190_212 m190_213 hl (by omega) ?_
  refine la (a := 2) m190_214 m190_215 m190_216 rfl m190_217 m190_218 hl (by omega) ?_
  refine h_cv (k := 0) (p := 32) (args := [.int (xs.getD (6 * q + 1) 0), .int (xs.getD (6 * q + 2) 0)]) (rest := []) m190_219 cn_56 (Nat.le_of_ble_eq_true rfl) rfl rfl rfl (t_0 _ _) (Nat.le_of_ble_eq_true rfl) ?_
  refine WP_m xs 1299 _ _ _ _ _ _ _ (fun r h1 hr1 => ?_) (p_fills R (by omega))
  obtain ⟨z, m1, ln1, N1, rfl, rfl, g2⟩ := hr1
  refine gwr ?_
  refine g_pop m190_222 rfl ?_
  refine g_aload_n m190_223 rfl ?_
  refine la (a := 1) m190_224 m190_225 m190_226 rfl m190_227 m190_228 hl (by omega) ?_
  refine la (a := 2) m190_229 m190_230 m190_231 rfl m190_232 m190_233 hl (by omega) ?_
  refine h_cv (k := 57) (p := 89) (args := [.int (xs.getD (6 * q + 1) 0), .int (xs.getD (6 * q + 2) 0)]) (rest := []) m190_234 cn_115 (Nat.le_of_ble_eq_true rfl) rfl rfl rfl (t_57 _ _) (Nat.le_of_ble_eq_true rfl) ?_
  refine WP_m xs 1299 _ _ _ _ _ _ _ (fun r h1 hr1 => ?_) g2
  obtain ⟨z2, m2, rfl, ez, rfl, R2⟩ := hr1
  refine gwr ?_
  refine g_pop m190_237 rfl ?_
  refine g_goto m190_238 ?_
  exact hcont _ _ _ _ _ (by omega) (by omega) R2
set_option maxRecDepth 20000 in
set_option maxHeartbeats 4000000 in
theorem lk_1 (R : Rel2 m m ln N q) (hq : 6 * q + 6 ≤ xs.length) (hl : xs.length ≤ 3072) (hmc : 3 ≤ mc) (hms : 102 ≤ ms) (hcont : ∀ (m2 : MW) (ln2 : Nat → Nat) (N2 mc2 ms2 : Nat), mc ≤ mc2 + 3 → ms ≤ ms2 + 102 → Rel2 m2 m2 ln2 N2 (q + 1) → gw xs (WP xs 1299) 190 Q 1428 [some (.ref 0), some (.ref 32), some (.ref 89), some (.int (nI (6 * q)))] [] (H m2 ln2 N2) mc2 ms2) : gw xs (WP xs 1299) 190 Q 241 [some (.ref 0), some (.ref 32), some (.ref 89), some (.int (nI (6 * q)))] [] (H m ln N) mc ms := by
  refine g_aload_n m190_241 rfl ?_
  refine la (a := 1) m190_242 m190_243 m190_244 rfl m190_245 m190_246 hl (by omega) ?_
  refine h_cv (k := 0) (p := 32) (args := [.int (xs.getD (6 * q + 1) 0)]) (rest := []) m190_247 cn_57 (Nat.le_of_ble_eq_true rfl) rfl rfl rfl (t_0 _ _) (Nat.le_of_ble_eq_true rfl) ?_
  refine WP_m xs 1299 _ _ _ _ _ _ _ (fun r h1 hr1 => ?_) (p_filling R (by omega))
  obtain ⟨z, m1, ln1, N1, rfl, rfl, g2⟩ := hr1
  refine gwr ?_
  refine g_pop m190_250 rfl ?_
  refine g_aload_n m190_251 rfl ?_
  refine la (a := 1) m190_252 m190_253 m190_254 rfl m190_255 m190_256 hl (by omega) ?_
  refine h_cv (k := 57) (p := 89) (args := [.int (xs.getD (6 * q + 1) 0)]) (rest := []) m190_257 cn_116 (Nat.le_of_ble_eq_true rfl) rfl rfl rfl (t_57 _ _) (Nat.le_of_ble_eq_true rfl) ?_
  refine WP_m xs 1299 _ _ _ _ _ _ _ (fun r h1 hr1 => ?_) g2
  obtain ⟨z2, m2, rfl, ez, rfl, R2⟩ := hr1
  refine gwr ?_
  refine g_pop m190_260 rfl ?_
  refine g_goto m190_261 ?_
  exact hcont _ _ _ _ _ (by omega) (by omega) R2
set_option maxRecDepth 20000 in
set_option maxHeartbeats 4000000 in
theorem lk_2 (R : Rel2 m m ln N q) (hq : 6 * q + 6 ≤ xs.length) (hl : xs.length ≤ 3072) (hmc : 3 ≤ mc) (hms : 102 ≤ ms) (hcont : ∀ (m2 : MW) (ln2 : Nat → Nat) (N2 mc2 ms2 : Nat), mc ≤ mc2 + 3 → ms ≤ ms2 + 102 → Rel2 m2 m2 ln2 N2 (q + 1) → gw xs (WP xs 1299) 190 Q 1428 [some (.ref 0), some (.ref 32), some (.ref 89), some (.int (nI (6 * q)))] [] (H m2 ln2 N2) mc2 ms2) : gw xs (WP xs 1299) 190 Q 264 [some (.ref 0), some (.ref 32), some (.ref 89), some (.int (nI (6 * q)))] [] (H m ln N) mc ms := by
  refine g_aload_n m190_264 rfl ?_
  refine la (a := 1) m190_265 m190_266 m190_267 rfl m190_268 m190_269 hl (by omega) ?_
  refine h_cv (k := 0) (p := 32) (args := [.int (xs.getD (6 * q + 1) 0)]) (rest := []) m190_270 cn_58 (Nat.le_of_ble_eq_true rfl) rfl rfl rfl (t_0 _ _) (Nat.le_of_ble_eq_true rfl) ?_
  refine WP_m xs 1299 _ _ _ _ _ _ _ (fun r h1 hr1 => ?_) (p_waiters R (by omega))
  obtain ⟨z, m1, ln1, N1, rfl, rfl, g2⟩ := hr1
  refine gwr ?_
  refine g_pop m190_273 rfl ?_
  refine g_aload_n m190_274 rfl ?_
  refine la (a := 1) m190_275 m190_276 m190_277 rfl m190_278 m190_279 hl (by omega) ?_
  refine h_cv (k := 57) (p := 89) (args := [.int (xs.getD (6 * q + 1) 0)]) (rest := []) m190_280 cn_117 (Nat.le_of_ble_eq_true rfl) rfl rfl rfl (t_57 _ _) (Nat.le_of_ble_eq_true rfl) ?_
  refine WP_m xs 1299 _ _ _ _ _ _ _ (fun r h1 hr1 => ?_) g2
  obtain ⟨z2, m2, rfl, ez, rfl, R2⟩ := hr1
  refine gwr ?_
  refine g_pop m190_283 rfl ?_
  refine g_goto m190_284 ?_
  exact hcont _ _ _ _ _ (by omega) (by omega) R2
set_option maxRecDepth 20000 in
set_option maxHeartbeats 4000000 in
theorem lk_3 (R : Rel2 m m ln N q) (hq : 6 * q + 6 ≤ xs.length) (hl : xs.length ≤ 3072) (hmc : 3 ≤ mc) (hms : 102 ≤ ms) (hcont : ∀ (m2 : MW) (ln2 : Nat → Nat) (N2 mc2 ms2 : Nat), mc ≤ mc2 + 3 → ms ≤ ms2 + 102 → Rel2 m2 m2 ln2 N2 (q + 1) → gw xs (WP xs 1299) 190 Q 1428 [some (.ref 0), some (.ref 32), some (.ref 89), some (.int (nI (6 * q)))] [] (H m2 ln2 N2) mc2 ms2) : gw xs (WP xs 1299) 190 Q 287 [some (.ref 0), some (.ref 32), some (.ref 89), some (.int (nI (6 * q)))] [] (H m ln N) mc ms := by
  refine g_aload_n m190_287 rfl ?_
  refine la (a := 1) m190_288 m190_289 m190_290 rfl m190_291 m190_292 hl (by omega) ?_
  refine la (a := 2) m190_293 m190_294 m190_295 rfl m190_296 m190_297 hl (by omega) ?_
  refine la (a := 3) m190_298 m190_299 m190_300 rfl m190_301 m190_302 hl (by omega) ?_
  refine h_cv (k := 0) (p := 32) (args := [.int (xs.getD (6 * q + 1) 0), .int (xs.getD (6 * q + 2) 0), .int (xs.getD (6 * q + 3) 0)]) (rest := []) m190_303 cn_59 (Nat.le_of_ble_eq_true rfl) rfl rfl rfl (t_0 _ _) (Nat.le_of_ble_eq_true rfl) ?_
  refine WP_m xs 1299 _ _ _ _ _ _ _ (fun r h1 hr1 => ?_) (p_diner R (by omega))
  obtain ⟨z, m1, ln1, N1, rfl, rfl, g2⟩ := hr1
  refine gwr ?_
  refine g_pop m190_306 rfl ?_
  refine g_aload_n m190_307 rfl ?_
  refine la (a := 1) m190_308 m190_309 m190_310 rfl m190_311 m190_312 hl (by omega) ?_
  refine la (a := 2) m190_313 m190_314 m190_315 rfl m190_316 m190_317 hl (by omega) ?_
  refine la (a := 3) m190_318 m190_319 m190_320 rfl m190_321 m190_322 hl (by omega) ?_
  refine h_cv (k := 57) (p := 89) (args := [.int (xs.getD (6 * q + 1) 0), .int (xs.getD (6 * q + 2) 0), .int (xs.getD (6 * q + 3) 0)]) (rest := []) m190_323 cn_118 (Nat.le_of_ble_eq_true rfl) rfl rfl rfl (t_57 _ _) (Nat.le_of_ble_eq_true rfl) ?_
  refine WP_m xs 1299 _ _ _ _ _ _ _ (fun r h1 hr1 => ?_) g2
  obtain ⟨z2, m2, rfl, ez, rfl, R2⟩ := hr1
  refine gwr ?_
  refine g_pop m190_326 rfl ?_
  refine g_goto m190_327 ?_
  exact hcont _ _ _ _ _ (by omega) (by omega) R2
set_option maxRecDepth 20000 in
set_option maxHeartbeats 4000000 in
theorem lk_4 (R : Rel2 m m ln N q) (hq : 6 * q + 6 ≤ xs.length) (hl : xs.length ≤ 3072) (hmc : 3 ≤ mc) (hms : 102 ≤ ms) (hcont : ∀ (m2 : MW) (ln2 : Nat → Nat) (N2 mc2 ms2 : Nat), mc ≤ mc2 + 3 → ms ≤ ms2 + 102 → Rel2 m2 m2 ln2 N2 (q + 1) → gw xs (WP xs 1299) 190 Q 1428 [some (.ref 0), some (.ref 32), some (.ref 89), some (.int (nI (6 * q)))] [] (H m2 ln2 N2) mc2 ms2) : gw xs (WP xs 1299) 190 Q 330 [some (.ref 0), some (.ref 32), some (.ref 89), some (.int (nI (6 * q)))] [] (H m ln N) mc ms := by
  refine g_aload_n m190_330 rfl ?_
  refine la (a := 1) m190_331 m190_332 m190_333 rfl m190_334 m190_335 hl (by omega) ?_
  refine la (a := 2) m190_336 m190_337 m190_338 rfl m190_339 m190_340 hl (by omega) ?_
  refine h_cv (k := 0) (p := 32) (args := [.int (xs.getD (6 * q + 1) 0), .int (xs.getD (6 * q + 2) 0)]) (rest := []) m190_341 cn_61 (Nat.le_of_ble_eq_true rfl) rfl rfl rfl (t_0 _ _) (Nat.le_of_ble_eq_true rfl) ?_
  refine WP_m xs 1299 _ _ _ _ _ _ _ (fun r h1 hr1 => ?_) (p_ofDiner R (by omega))
  obtain ⟨z, m1, ln1, N1, rfl, rfl, g2⟩ := hr1
  refine gwr ?_
  refine g_pop m190_344 rfl ?_
  refine g_aload_n m190_345 rfl ?_
  refine la (a := 1) m190_346 m190_347 m190_348 rfl m190_349 m190_350 hl (by omega) ?_
  refine la (a := 2) m190_351 m190_352 m190_353 rfl m190_354 m190_355 hl (by omega) ?_
  refine h_cv (k := 57) (p := 89) (args := [.int (xs.getD (6 * q + 1) 0), .int (xs.getD (6 * q + 2) 0)]) (rest := []) m190_356 cn_133 (Nat.le_of_ble_eq_true rfl) rfl rfl rfl (t_57 _ _) (Nat.le_of_ble_eq_true rfl) ?_
  refine WP_m xs 1299 _ _ _ _ _ _ _ (fun r h1 hr1 => ?_) g2
  obtain ⟨z2, m2, rfl, ez, rfl, R2⟩ := hr1
  refine gwr ?_
  refine g_pop m190_359 rfl ?_
  refine g_goto m190_360 ?_
  exact hcont _ _ _ _ _ (by omega) (by omega) R2
set_option maxRecDepth 20000 in
set_option maxHeartbeats 4000000 in
theorem lk_5 (R : Rel2 m m ln N q) (hq : 6 * q + 6 ≤ xs.length) (hl : xs.length ≤ 3072) (hmc : 3 ≤ mc) (hms : 102 ≤ ms) (hcont : ∀ (m2 : MW) (ln2 : Nat → Nat) (N2 mc2 ms2 : Nat), mc ≤ mc2 + 3 → ms ≤ ms2 + 102 → Rel2 m2 m2 ln2 N2 (q + 1) → gw xs (WP xs 1299) 190 Q 1428 [some (.ref 0), some (.ref 32), some (.ref 89), some (.int (nI (6 * q)))] [] (H m2 ln2 N2) mc2 ms2) : gw xs (WP xs 1299) 190 Q 363 [some (.ref 0), some (.ref 32), some (.ref 89), some (.int (nI (6 * q)))] [] (H m ln N) mc ms := by
  refine g_aload_n m190_363 rfl ?_
  refine la (a := 1) m190_364 m190_365 m190_366 rfl m190_367 m190_368 hl (by omega) ?_
  refine la (a := 2) m190_369 m190_370 m190_371 rfl m190_372 m190_373 hl (by omega) ?_
  refine la (a := 3) m190_374 m190_375 m190_376 rfl m190_377 m190_378 hl (by omega) ?_
  refine h_cv (k := 0) (p := 32) (args := [.int (xs.getD (6 * q + 1) 0), .int (xs.getD (6 * q + 2) 0), .int (xs.getD (6 * q + 3) 0)]) (rest := []) m190_379 cn_63 (Nat.le_of_ble_eq_true rfl) rfl rfl rfl (t_0 _ _) (Nat.le_of_ble_eq_true rfl) ?_
  refine WP_m xs 1299 _ _ _ _ _ _ _ (fun r h1 hr1 => ?_) (p_change R (by omega))
  obtain ⟨z, m1, ln1, N1, rfl, rfl, g2⟩ := hr1
  refine gwr ?_
  refine g_pop m190_382 rfl ?_
  refine g_aload_n m190_383 rfl ?_
  refine la (a := 1) m190_384 m190_385 m190_386 rfl m190_387 m190_388 hl (by omega) ?_
  refine la (a := 2) m190_389 m190_390 m190_391 rfl m190_392 m190_393 hl (by omega) ?_
  refine la (a := 3) m190_394 m190_395 m190_396 rfl m190_397 m190_398 hl (by omega) ?_
  refine h_cv (k := 57) (p := 89) (args := [.int (xs.getD (6 * q + 1) 0), .int (xs.getD (6 * q + 2) 0), .int (xs.getD (6 * q + 3) 0)]) (rest := []) m190_399 cn_134 (Nat.le_of_ble_eq_true rfl) rfl rfl rfl (t_57 _ _) (Nat.le_of_ble_eq_true rfl) ?_
  refine WP_m xs 1299 _ _ _ _ _ _ _ (fun r h1 hr1 => ?_) g2
  obtain ⟨z2, m2, rfl, ez, rfl, R2⟩ := hr1
  refine gwr ?_
  refine g_pop m190_402 rfl ?_
  refine g_goto m190_403 ?_
  exact hcont _ _ _ _ _ (by omega) (by omega) R2
set_option maxRecDepth 20000 in
set_option maxHeartbeats 4000000 in
theorem lk_6 (R : Rel2 m m ln N q) (hq : 6 * q + 6 ≤ xs.length) (hl : xs.length ≤ 3072) (hmc : 3 ≤ mc) (hms : 102 ≤ ms) (hcont : ∀ (m2 : MW) (ln2 : Nat → Nat) (N2 mc2 ms2 : Nat), mc ≤ mc2 + 3 → ms ≤ ms2 + 102 → Rel2 m2 m2 ln2 N2 (q + 1) → gw xs (WP xs 1299) 190 Q 1428 [some (.ref 0), some (.ref 32), some (.ref 89), some (.int (nI (6 * q)))] [] (H m2 ln2 N2) mc2 ms2) : gw xs (WP xs 1299) 190 Q 406 [some (.ref 0), some (.ref 32), some (.ref 89), some (.int (nI (6 * q)))] [] (H m ln N) mc ms := by
  refine g_aload_n m190_406 rfl ?_
  refine la (a := 1) m190_407 m190_408 m190_409 rfl m190_410 m190_411 hl (by omega) ?_
  refine la (a := 2) m190_412 m190_413 m190_414 rfl m190_415 m190_416 hl (by omega) ?_
  refine h_cv (k := 0) (p := 32) (args := [.int (xs.getD (6 * q + 1) 0), .int (xs.getD (6 * q + 2) 0)]) (rest := []) m190_417 cn_64 (Nat.le_of_ble_eq_true rfl) rfl rfl rfl (t_0 _ _) (Nat.le_of_ble_eq_true rfl) ?_
  refine WP_m xs 1299 _ _ _ _ _ _ _ (fun r h1 hr1 => ?_) (p_become R (by omega))
  obtain ⟨z, m1, ln1, N1, rfl, rfl, g2⟩ := hr1
  refine gwr ?_
  refine g_pop m190_420 rfl ?_
  refine g_aload_n m190_421 rfl ?_
  refine la (a := 1) m190_422 m190_423 m190_424 rfl m190_425 m190_426 hl (by omega) ?_
  refine la (a := 2) m190_427 m190_428 m190_429 rfl m190_430 m190_431 hl (by omega) ?_
  refine h_cv (k := 57) (p := 89) (args := [.int (xs.getD (6 * q + 1) 0), .int (xs.getD (6 * q + 2) 0)]) (rest := []) m190_432 cn_135 (Nat.le_of_ble_eq_true rfl) rfl rfl rfl (t_57 _ _) (Nat.le_of_ble_eq_true rfl) ?_
  refine WP_m xs 1299 _ _ _ _ _ _ _ (fun r h1 hr1 => ?_) g2
  obtain ⟨z2, m2, rfl, ez, rfl, R2⟩ := hr1
  refine gwr ?_
  refine g_pop m190_435 rfl ?_
  refine g_goto m190_436 ?_
  exact hcont _ _ _ _ _ (by omega) (by omega) R2
set_option maxRecDepth 20000 in
set_option maxHeartbeats 4000000 in
theorem lk_7 (R : Rel2 m m ln N q) (hq : 6 * q + 6 ≤ xs.length) (hl : xs.length ≤ 3072) (hmc : 3 ≤ mc) (hms : 102 ≤ ms) (hcont : ∀ (m2 : MW) (ln2 : Nat → Nat) (N2 mc2 ms2 : Nat), mc ≤ mc2 + 3 → ms ≤ ms2 + 102 → Rel2 m2 m2 ln2 N2 (q + 1) → gw xs (WP xs 1299) 190 Q 1428 [some (.ref 0), some (.ref 32), some (.ref 89), some (.int (nI (6 * q)))] [] (H m2 ln2 N2) mc2 ms2) : gw xs (WP xs 1299) 190 Q 439 [some (.ref 0), some (.ref 32), some (.ref 89), some (.int (nI (6 * q)))] [] (H m ln N) mc ms := by
  refine g_aload_n m190_439 rfl ?_
  refine la (a := 1) m190_440 m190_441 m190_442 rfl m190_443 m190_444 hl (by omega) ?_
  refine la (a := 2) m190_445 m190_446 m190_447 rfl m190_448 m190_449 hl (by omega) ?_
  refine h_cv (k := 0) (p := 32) (args := [.int (xs.getD (6 * q + 1) 0), .int (xs.getD (6 * q + 2) 0)]) (rest := []) m190_450 cn_66 (Nat.le_of_ble_eq_true rfl) rfl rfl rfl (t_0 _ _) (Nat.le_of_ble_eq_true rfl) ?_
  refine WP_m xs 1299 _ _ _ _ _ _ _ (fun r h1 hr1 => ?_) (p_as R (by omega))
  obtain ⟨z, m1, ln1, N1, rfl, rfl, g2⟩ := hr1
  refine gwr ?_
  refine g_pop m190_453 rfl ?_
  refine g_aload_n m190_454 rfl ?_
  refine la (a := 1) m190_455 m190_456 m190_457 rfl m190_458 m190_459 hl (by omega) ?_
  refine la (a := 2) m190_460 m190_461 m190_462 rfl m190_463 m190_464 hl (by omega) ?_
  refine h_cv (k := 57) (p := 89) (args := [.int (xs.getD (6 * q + 1) 0), .int (xs.getD (6 * q + 2) 0)]) (rest := []) m190_465 cn_137 (Nat.le_of_ble_eq_true rfl) rfl rfl rfl (t_57 _ _) (Nat.le_of_ble_eq_true rfl) ?_
  refine WP_m xs 1299 _ _ _ _ _ _ _ (fun r h1 hr1 => ?_) g2
  obtain ⟨z2, m2, rfl, ez, rfl, R2⟩ := hr1
  refine gwr ?_
  refine g_pop m190_468 rfl ?_
  refine g_goto m190_469 ?_
  exact hcont _ _ _ _ _ (by omega) (by omega) R2
set_option maxRecDepth 20000 in
set_option maxHeartbeats 4000000 in
theorem lk_8 (R : Rel2 m m ln N q) (hq : 6 * q + 6 ≤ xs.length) (hl : xs.length ≤ 3072) (hmc : 3 ≤ mc) (hms : 102 ≤ ms) (hcont : ∀ (m2 : MW) (ln2 : Nat → Nat) (N2 mc2 ms2 : Nat), mc ≤ mc2 + 3 → ms ≤ ms2 + 102 → Rel2 m2 m2 ln2 N2 (q + 1) → gw xs (WP xs 1299) 190 Q 1428 [some (.ref 0), some (.ref 32), some (.ref 89), some (.int (nI (6 * q)))] [] (H m2 ln2 N2) mc2 ms2) : gw xs (WP xs 1299) 190 Q 472 [some (.ref 0), some (.ref 32), some (.ref 89), some (.int (nI (6 * q)))] [] (H m ln N) mc ms := by
  refine g_aload_n m190_472 rfl ?_
  refine la (a := 1) m190_473 m190_474 m190_475 rfl m190_476 m190_477 hl (by omega) ?_
  refine g_i2l m190_478 ?_
  refine g_bipush m190_479 ?_
  refine g_lshl m190_481 ?_
  refine la (a := 2) m190_482 m190_483 m190_484 rfl m190_485 m190_486 hl (by omega) ?_
  refine g_i2l m190_487 ?_
  refine g_ldc2 m190_488 ?_
  refine g_land m190_491 ?_
  refine g_lor m190_492 ?_
  refine la (a := 3) m190_493 m190_494 m190_495 rfl m190_496 m190_497 hl (by omega) ?_
  refine h_cv (k := 0) (p := 32) (args := [.long _, .int (xs.getD (6 * q + 3) 0)]) (rest := []) m190_498 cn_67 (Nat.le_of_ble_eq_true rfl) rfl rfl rfl (t_0 _ _) (Nat.le_of_ble_eq_true rfl) ?_
  refine WP_m xs 1299 _ _ _ _ _ _ _ (fun r h1 hr1 => ?_) (p_feed R (by omega))
  obtain ⟨z, m1, ln1, N1, rfl, rfl, g2⟩ := hr1
  refine gwr ?_
  refine g_pop m190_501 rfl ?_
  refine g_aload_n m190_502 rfl ?_
  refine la (a := 1) m190_503 m190_504 m190_505 rfl m190_506 m190_507 hl (by omega) ?_
  refine g_i2l m190_508 ?_
  refine g_bipush m190_509 ?_
  refine g_lshl m190_511 ?_
  refine la (a := 2) m190_512 m190_513 m190_514 rfl m190_515 m190_516 hl (by omega) ?_
  refine g_i2l m190_517 ?_
  refine g_ldc2 m190_518 ?_
  refine g_land m190_521 ?_
  refine g_lor m190_522 ?_
  refine la (a := 3) m190_523 m190_524 m190_525 rfl m190_526 m190_527 hl (by omega) ?_
  refine h_cv (k := 57) (p := 89) (args := [.long _, .int (xs.getD (6 * q + 3) 0)]) (rest := []) m190_528 cn_139 (Nat.le_of_ble_eq_true rfl) rfl rfl rfl (t_57 _ _) (Nat.le_of_ble_eq_true rfl) ?_
  refine WP_m xs 1299 _ _ _ _ _ _ _ (fun r h1 hr1 => ?_) g2
  obtain ⟨z2, m2, rfl, ez, rfl, R2⟩ := hr1
  refine gwr ?_
  refine g_pop m190_531 rfl ?_
  refine g_goto m190_532 ?_
  exact hcont _ _ _ _ _ (by omega) (by omega) R2
set_option maxRecDepth 20000 in
set_option maxHeartbeats 4000000 in
theorem lk_9 (R : Rel2 m m ln N q) (hq : 6 * q + 6 ≤ xs.length) (hl : xs.length ≤ 3072) (hmc : 3 ≤ mc) (hms : 102 ≤ ms) (hcont : ∀ (m2 : MW) (ln2 : Nat → Nat) (N2 mc2 ms2 : Nat), mc ≤ mc2 + 3 → ms ≤ ms2 + 102 → Rel2 m2 m2 ln2 N2 (q + 1) → gw xs (WP xs 1299) 190 Q 1428 [some (.ref 0), some (.ref 32), some (.ref 89), some (.int (nI (6 * q)))] [] (H m2 ln2 N2) mc2 ms2) : gw xs (WP xs 1299) 190 Q 535 [some (.ref 0), some (.ref 32), some (.ref 89), some (.int (nI (6 * q)))] [] (H m ln N) mc ms := by
  refine g_aload_n m190_535 rfl ?_
  refine la (a := 1) m190_536 m190_537 m190_538 rfl m190_539 m190_540 hl (by omega) ?_
  refine h_cvm 3 102 (k := 0) (p := 32) (args := [.int (xs.getD (6 * q + 1) 0)]) (rest := []) m190_541 cn_68 (Nat.le_of_ble_eq_true rfl) rfl rfl rfl (t_0 _ _) (Nat.le_of_ble_eq_true rfl) hmc hms ?_
  refine WP_m xs 1299 _ _ _ _ _ _ _ (fun r h1 hr1 => ?_) (p_text R (by omega))
  obtain ⟨z, m1, ln1, N1, rfl, rfl, g2⟩ := hr1
  refine gwr ?_
  refine g_pop m190_544 rfl ?_
  refine g_aload_n m190_545 rfl ?_
  refine la (a := 1) m190_546 m190_547 m190_548 rfl m190_549 m190_550 hl (by omega) ?_
  refine h_cv (k := 57) (p := 89) (args := [.int (xs.getD (6 * q + 1) 0)]) (rest := []) m190_551 cn_140 (Nat.le_of_ble_eq_true rfl) rfl rfl rfl (t_57 _ _) (Nat.le_of_ble_eq_true rfl) ?_
  refine WP_m xs 1299 _ _ _ _ _ _ _ (fun r h1 hr1 => ?_) g2
  obtain ⟨z2, m2, rfl, ez, rfl, R2⟩ := hr1
  refine gwr ?_
  refine g_pop m190_554 rfl ?_
  refine g_goto m190_555 ?_
  exact hcont _ _ _ _ _ (by omega) (by omega) R2
set_option maxRecDepth 20000 in
set_option maxHeartbeats 4000000 in
theorem lk_10 (R : Rel2 m m ln N q) (hq : 6 * q + 6 ≤ xs.length) (hl : xs.length ≤ 3072) (hmc : 3 ≤ mc) (hms : 102 ≤ ms) (hcont : ∀ (m2 : MW) (ln2 : Nat → Nat) (N2 mc2 ms2 : Nat), mc ≤ mc2 + 3 → ms ≤ ms2 + 102 → Rel2 m2 m2 ln2 N2 (q + 1) → gw xs (WP xs 1299) 190 Q 1428 [some (.ref 0), some (.ref 32), some (.ref 89), some (.int (nI (6 * q)))] [] (H m2 ln2 N2) mc2 ms2) : gw xs (WP xs 1299) 190 Q 558 [some (.ref 0), some (.ref 32), some (.ref 89), some (.int (nI (6 * q)))] [] (H m ln N) mc ms := by
  refine g_aload_n m190_558 rfl ?_
  refine la (a := 1) m190_559 m190_560 m190_561 rfl m190_562 m190_563 hl (by omega) ?_
  refine la (a := 2) m190_564 m190_565 m190_566 rfl m190_567 m190_568 hl (by omega) ?_
  refine la (a := 3) m190_569 m190_570 m190_571 rfl m190_572 m190_573 hl (by omega) ?_
  refine la (a := 4) m190_574 m190_575 m190_576 rfl m190_577 m190_578 hl (by omega) ?_
  refine h_cv (k := 0) (p := 32) (args := [.int (xs.getD (6 * q + 1) 0), .int (xs.getD (6 * q + 2) 0), .int (xs.getD (6 * q + 3) 0), .int (xs.getD (6 * q + 4) 0)]) (rest := []) m190_579 cn_69 (Nat.le_of_ble_eq_true rfl) rfl rfl rfl (t_0 _ _) (Nat.le_of_ble_eq_true rfl) ?_
  refine WP_m xs 1299 _ _ _ _ _ _ _ (fun r h1 hr1 => ?_) (p_law R (by omega))
  obtain ⟨z, m1, ln1, N1, rfl, rfl, g2⟩ := hr1
  refine gwr ?_
  refine g_pop m190_582 rfl ?_
  refine g_aload_n m190_583 rfl ?_
  refine la (a := 1) m190_584 m190_585 m190_586 rfl m190_587 m190_588 hl (by omega) ?_
  refine la (a := 2) m190_589 m190_590 m190_591 rfl m190_592 m190_593 hl (by omega) ?_
  refine la (a := 3) m190_594 m190_595 m190_596 rfl m190_597 m190_598 hl (by omega) ?_
  refine la (a := 4) m190_599 m190_600 m190_601 rfl m190_602 m190_603 hl (by omega) ?_
  refine h_cv (k := 57) (p := 89) (args := [.int (xs.getD (6 * q + 1) 0), .int (xs.getD (6 * q + 2) 0), .int (xs.getD (6 * q + 3) 0), .int (xs.getD (6 * q + 4) 0)]) (rest := []) m190_604 cn_138 (Nat.le_of_ble_eq_true rfl) rfl rfl rfl (t_57 _ _) (Nat.le_of_ble_eq_true rfl) ?_
  refine WP_m xs 1299 _ _ _ _ _ _ _ (fun r h1 hr1 => ?_) g2
  obtain ⟨z2, m2, rfl, ez, rfl, R2⟩ := hr1
  refine gwr ?_
  refine g_pop m190_607 rfl ?_
  refine g_goto m190_608 ?_
  exact hcont _ _ _ _ _ (by omega) (by omega) R2
set_option maxRecDepth 20000 in
set_option maxHeartbeats 4000000 in
theorem lk_11 (R : Rel2 m m ln N q) (hq : 6 * q + 6 ≤ xs.length) (hl : xs.length ≤ 3072) (hmc : 3 ≤ mc) (hms : 102 ≤ ms) (hcont : ∀ (m2 : MW) (ln2 : Nat → Nat) (N2 mc2 ms2 : Nat), mc ≤ mc2 + 3 → ms ≤ ms2 + 102 → Rel2 m2 m2 ln2 N2 (q + 1) → gw xs (WP xs 1299) 190 Q 1428 [some (.ref 0), some (.ref 32), some (.ref 89), some (.int (nI (6 * q)))] [] (H m2 ln2 N2) mc2 ms2) : gw xs (WP xs 1299) 190 Q 611 [some (.ref 0), some (.ref 32), some (.ref 89), some (.int (nI (6 * q)))] [] (H m ln N) mc ms := by
  refine g_aload_n m190_611 rfl ?_
  refine la (a := 1) m190_612 m190_613 m190_614 rfl m190_615 m190_616 hl (by omega) ?_
  refine h_cv (k := 0) (p := 32) (args := [.int (xs.getD (6 * q + 1) 0)]) (rest := []) m190_617 cn_70 (Nat.le_of_ble_eq_true rfl) rfl rfl rfl (t_0 _ _) (Nat.le_of_ble_eq_true rfl) ?_
  refine WP_m xs 1299 _ _ _ _ _ _ _ (fun r h1 hr1 => ?_) (p_steps R (by omega))
  obtain ⟨z, m1, ln1, N1, rfl, rfl, g2⟩ := hr1
  refine gwr ?_
  refine g_pop m190_620 rfl ?_
  refine g_aload_n m190_621 rfl ?_
  refine la (a := 1) m190_622 m190_623 m190_624 rfl m190_625 m190_626 hl (by omega) ?_
  refine h_cv (k := 57) (p := 89) (args := [.int (xs.getD (6 * q + 1) 0)]) (rest := []) m190_627 cn_148 (Nat.le_of_ble_eq_true rfl) rfl rfl rfl (t_57 _ _) (Nat.le_of_ble_eq_true rfl) ?_
  refine WP_m xs 1299 _ _ _ _ _ _ _ (fun r h1 hr1 => ?_) g2
  obtain ⟨z2, m2, rfl, ez, rfl, R2⟩ := hr1
  refine gwr ?_
  refine g_pop m190_630 rfl ?_
  refine g_goto m190_631 ?_
  exact hcont _ _ _ _ _ (by omega) (by omega) R2
set_option maxRecDepth 20000 in
set_option maxHeartbeats 4000000 in
theorem lk_12 (R : Rel2 m m ln N q) (hq : 6 * q + 6 ≤ xs.length) (hl : xs.length ≤ 3072) (hmc : 3 ≤ mc) (hms : 102 ≤ ms) (hcont : ∀ (m2 : MW) (ln2 : Nat → Nat) (N2 mc2 ms2 : Nat), mc ≤ mc2 + 3 → ms ≤ ms2 + 102 → Rel2 m2 m2 ln2 N2 (q + 1) → gw xs (WP xs 1299) 190 Q 1428 [some (.ref 0), some (.ref 32), some (.ref 89), some (.int (nI (6 * q)))] [] (H m2 ln2 N2) mc2 ms2) : gw xs (WP xs 1299) 190 Q 634 [some (.ref 0), some (.ref 32), some (.ref 89), some (.int (nI (6 * q)))] [] (H m ln N) mc ms := by
  refine g_aload_n m190_634 rfl ?_
  refine la (a := 1) m190_635 m190_636 m190_637 rfl m190_638 m190_639 hl (by omega) ?_
  refine h_cv (k := 0) (p := 32) (args := [.int (xs.getD (6 * q + 1) 0)]) (rest := []) m190_640 cn_72 (Nat.le_of_ble_eq_true rfl) rfl rfl rfl (t_0 _ _) (Nat.le_of_ble_eq_true rfl) ?_
  refine WP_m xs 1299 _ _ _ _ _ _ _ (fun r h1 hr1 => ?_) (p_loose R (by omega))
  obtain ⟨z, m1, ln1, N1, rfl, rfl, g2⟩ := hr1
  refine gwr ?_
  refine g_pop m190_643 rfl ?_
  refine g_aload_n m190_644 rfl ?_
  refine la (a := 1) m190_645 m190_646 m190_647 rfl m190_648 m190_649 hl (by omega) ?_
  refine h_cv (k := 57) (p := 89) (args := [.int (xs.getD (6 * q + 1) 0)]) (rest := []) m190_650 cn_150 (Nat.le_of_ble_eq_true rfl) rfl rfl rfl (t_57 _ _) (Nat.le_of_ble_eq_true rfl) ?_
  refine WP_m xs 1299 _ _ _ _ _ _ _ (fun r h1 hr1 => ?_) g2
  obtain ⟨z2, m2, rfl, ez, rfl, R2⟩ := hr1
  refine gwr ?_
  refine g_pop m190_653 rfl ?_
  refine g_goto m190_654 ?_
  exact hcont _ _ _ _ _ (by omega) (by omega) R2
set_option maxRecDepth 20000 in
set_option maxHeartbeats 4000000 in
theorem lk_13 (R : Rel2 m m ln N q) (hq : 6 * q + 6 ≤ xs.length) (hl : xs.length ≤ 3072) (hmc : 3 ≤ mc) (hms : 102 ≤ ms) (hcont : ∀ (m2 : MW) (ln2 : Nat → Nat) (N2 mc2 ms2 : Nat), mc ≤ mc2 + 3 → ms ≤ ms2 + 102 → Rel2 m2 m2 ln2 N2 (q + 1) → gw xs (WP xs 1299) 190 Q 1428 [some (.ref 0), some (.ref 32), some (.ref 89), some (.int (nI (6 * q)))] [] (H m2 ln2 N2) mc2 ms2) : gw xs (WP xs 1299) 190 Q 657 [some (.ref 0), some (.ref 32), some (.ref 89), some (.int (nI (6 * q)))] [] (H m ln N) mc ms := by
  refine g_aload_n m190_657 rfl ?_
  refine h_cv (k := 0) (p := 32) (args := []) (rest := []) m190_658 cn_73 (Nat.le_of_ble_eq_true rfl) rfl rfl rfl (t_0 _ _) (Nat.le_of_ble_eq_true rfl) ?_
  refine WP_m xs 1299 _ _ _ _ _ _ _ (fun r h1 hr1 => ?_) (p_next R (by omega))
  obtain ⟨z, m1, ln1, N1, rfl, rfl, g2⟩ := hr1
  refine gwr ?_
  refine g_pop m190_661 rfl ?_
  refine g_aload_n m190_662 rfl ?_
  refine h_cv (k := 57) (p := 89) (args := []) (rest := []) m190_663 cn_151 (Nat.le_of_ble_eq_true rfl) rfl rfl rfl (t_57 _ _) (Nat.le_of_ble_eq_true rfl) ?_
  refine WP_m xs 1299 _ _ _ _ _ _ _ (fun r h1 hr1 => ?_) g2
  obtain ⟨z2, m2, rfl, ez, rfl, R2⟩ := hr1
  refine gwr ?_
  refine g_pop m190_666 rfl ?_
  refine g_goto m190_667 ?_
  exact hcont _ _ _ _ _ (by omega) (by omega) R2
set_option maxRecDepth 20000 in
set_option maxHeartbeats 4000000 in
theorem lk_14 (R : Rel2 m m ln N q) (hq : 6 * q + 6 ≤ xs.length) (hl : xs.length ≤ 3072) (hmc : 3 ≤ mc) (hms : 102 ≤ ms) (hcont : ∀ (m2 : MW) (ln2 : Nat → Nat) (N2 mc2 ms2 : Nat), mc ≤ mc2 + 3 → ms ≤ ms2 + 102 → Rel2 m2 m2 ln2 N2 (q + 1) → gw xs (WP xs 1299) 190 Q 1428 [some (.ref 0), some (.ref 32), some (.ref 89), some (.int (nI (6 * q)))] [] (H m2 ln2 N2) mc2 ms2) : gw xs (WP xs 1299) 190 Q 670 [some (.ref 0), some (.ref 32), some (.ref 89), some (.int (nI (6 * q)))] [] (H m ln N) mc ms := by
  refine g_aload_n m190_670 rfl ?_
  refine la (a := 1) m190_671 m190_672 m190_673 rfl m190_674 m190_675 hl (by omega) ?_
  refine la (a := 2) m190_676 m190_677 m190_678 rfl m190_679 m190_680 hl (by omega) ?_
  refine la (a := 3) m190_681 m190_682 m190_683 rfl m190_684 m190_685 hl (by omega) ?_
  refine h_cv (k := 0) (p := 32) (args := [.int (xs.getD (6 * q + 1) 0), .int (xs.getD (6 * q + 2) 0), .int (xs.getD (6 * q + 3) 0)]) (rest := []) m190_686 cn_75 (Nat.le_of_ble_eq_true rfl) rfl rfl rfl (t_0 _ _) (Nat.le_of_ble_eq_true rfl) ?_
  refine WP_m xs 1299 _ _ _ _ _ _ _ (fun r h1 hr1 => ?_) (p_then R (by omega))
  obtain ⟨z, m1, ln1, N1, rfl, rfl, g2⟩ := hr1
  refine gwr ?_
  refine g_pop m190_689 rfl ?_
  refine g_aload_n m190_690 rfl ?_
  refine la (a := 1) m190_691 m190_692 m190_693 rfl m190_694 m190_695 hl (by omega) ?_
  refine la (a := 2) m190_696 m190_697 m190_698 rfl m190_699 m190_700 hl (by omega) ?_
  refine la (a := 3) m190_701 m190_702 m190_703 rfl m190_704 m190_705 hl (by omega) ?_
  refine h_cv (k := 57) (p := 89) (args := [.int (xs.getD (6 * q + 1) 0), .int (xs.getD (6 * q + 2) 0), .int (xs.getD (6 * q + 3) 0)]) (rest := []) m190_706 cn_152 (Nat.le_of_ble_eq_true rfl) rfl rfl rfl (t_57 _ _) (Nat.le_of_ble_eq_true rfl) ?_
  refine WP_m xs 1299 _ _ _ _ _ _ _ (fun r h1 hr1 => ?_) g2
  obtain ⟨z2, m2, rfl, ez, rfl, R2⟩ := hr1
  refine gwr ?_
  refine g_pop m190_709 rfl ?_
  refine g_goto m190_710 ?_
  exact hcont _ _ _ _ _ (by omega) (by omega) R2
set_option maxRecDepth 20000 in
set_option maxHeartbeats 4000000 in
theorem lk_15 (R : Rel2 m m ln N q) (hq : 6 * q + 6 ≤ xs.length) (hl : xs.length ≤ 3072) (hmc : 3 ≤ mc) (hms : 102 ≤ ms) (hcont : ∀ (m2 : MW) (ln2 : Nat → Nat) (N2 mc2 ms2 : Nat), mc ≤ mc2 + 3 → ms ≤ ms2 + 102 → Rel2 m2 m2 ln2 N2 (q + 1) → gw xs (WP xs 1299) 190 Q 1428 [some (.ref 0), some (.ref 32), some (.ref 89), some (.int (nI (6 * q)))] [] (H m2 ln2 N2) mc2 ms2) : gw xs (WP xs 1299) 190 Q 713 [some (.ref 0), some (.ref 32), some (.ref 89), some (.int (nI (6 * q)))] [] (H m ln N) mc ms := by
  refine g_aload_n m190_713 rfl ?_
  refine la (a := 1) m190_714 m190_715 m190_716 rfl m190_717 m190_718 hl (by omega) ?_
  refine h_cv (k := 0) (p := 32) (args := [.int (xs.getD (6 * q + 1) 0)]) (rest := []) m190_719 cn_76 (Nat.le_of_ble_eq_true rfl) rfl rfl rfl (t_0 _ _) (Nat.le_of_ble_eq_true rfl) ?_
  refine WP_m xs 1299 _ _ _ _ _ _ _ (fun r h1 hr1 => ?_) (p_first R (by omega))
  obtain ⟨z, m1, ln1, N1, rfl, rfl, g2⟩ := hr1
  refine gwr ?_
  refine g_pop m190_722 rfl ?_
  refine g_aload_n m190_723 rfl ?_
  refine la (a := 1) m190_724 m190_725 m190_726 rfl m190_727 m190_728 hl (by omega) ?_
  refine h_cv (k := 57) (p := 89) (args := [.int (xs.getD (6 * q + 1) 0)]) (rest := []) m190_729 cn_153 (Nat.le_of_ble_eq_true rfl) rfl rfl rfl (t_57 _ _) (Nat.le_of_ble_eq_true rfl) ?_
  refine WP_m xs 1299 _ _ _ _ _ _ _ (fun r h1 hr1 => ?_) g2
  obtain ⟨z2, m2, rfl, ez, rfl, R2⟩ := hr1
  refine gwr ?_
  refine g_pop m190_732 rfl ?_
  refine g_goto m190_733 ?_
  exact hcont _ _ _ _ _ (by omega) (by omega) R2
set_option maxRecDepth 20000 in
set_option maxHeartbeats 4000000 in
theorem lk_16 (R : Rel2 m m ln N q) (hq : 6 * q + 6 ≤ xs.length) (hl : xs.length ≤ 3072) (hmc : 3 ≤ mc) (hms : 102 ≤ ms) (hcont : ∀ (m2 : MW) (ln2 : Nat → Nat) (N2 mc2 ms2 : Nat), mc ≤ mc2 + 3 → ms ≤ ms2 + 102 → Rel2 m2 m2 ln2 N2 (q + 1) → gw xs (WP xs 1299) 190 Q 1428 [some (.ref 0), some (.ref 32), some (.ref 89), some (.int (nI (6 * q)))] [] (H m2 ln2 N2) mc2 ms2) : gw xs (WP xs 1299) 190 Q 736 [some (.ref 0), some (.ref 32), some (.ref 89), some (.int (nI (6 * q)))] [] (H m ln N) mc ms := by
  refine g_aload_n m190_736 rfl ?_
  refine h_cv (k := 0) (p := 32) (args := []) (rest := []) m190_737 cn_77 (Nat.le_of_ble_eq_true rfl) rfl rfl rfl (t_0 _ _) (Nat.le_of_ble_eq_true rfl) ?_
  refine WP_m xs 1299 _ _ _ _ _ _ _ (fun r h1 hr1 => ?_) (p_never R (by omega))
  obtain ⟨z, m1, ln1, N1, rfl, rfl, g2⟩ := hr1
  refine gwr ?_
  refine g_pop m190_740 rfl ?_
  refine g_aload_n m190_741 rfl ?_
  refine h_cv (k := 57) (p := 89) (args := []) (rest := []) m190_742 cn_156 (Nat.le_of_ble_eq_true rfl) rfl rfl rfl (t_57 _ _) (Nat.le_of_ble_eq_true rfl) ?_
  refine WP_m xs 1299 _ _ _ _ _ _ _ (fun r h1 hr1 => ?_) g2
  obtain ⟨z2, m2, rfl, ez, rfl, R2⟩ := hr1
  refine gwr ?_
  refine g_pop m190_745 rfl ?_
  refine g_goto m190_746 ?_
  exact hcont _ _ _ _ _ (by omega) (by omega) R2
set_option maxRecDepth 20000 in
set_option maxHeartbeats 4000000 in
theorem lk_17 (R : Rel2 m m ln N q) (hq : 6 * q + 6 ≤ xs.length) (hl : xs.length ≤ 3072) (hmc : 3 ≤ mc) (hms : 102 ≤ ms) (hcont : ∀ (m2 : MW) (ln2 : Nat → Nat) (N2 mc2 ms2 : Nat), mc ≤ mc2 + 3 → ms ≤ ms2 + 102 → Rel2 m2 m2 ln2 N2 (q + 1) → gw xs (WP xs 1299) 190 Q 1428 [some (.ref 0), some (.ref 32), some (.ref 89), some (.int (nI (6 * q)))] [] (H m2 ln2 N2) mc2 ms2) : gw xs (WP xs 1299) 190 Q 749 [some (.ref 0), some (.ref 32), some (.ref 89), some (.int (nI (6 * q)))] [] (H m ln N) mc ms := by
  refine g_aload_n m190_749 rfl ?_
  refine la (a := 1) m190_750 m190_751 m190_752 rfl m190_753 m190_754 hl (by omega) ?_
  refine la (a := 2) m190_755 m190_756 m190_757 rfl m190_758 m190_759 hl (by omega) ?_
  refine h_cv (k := 0) (p := 32) (args := [.int (xs.getD (6 * q + 1) 0), .int (xs.getD (6 * q + 2) 0)]) (rest := []) m190_760 cn_78 (Nat.le_of_ble_eq_true rfl) rfl rfl rfl (t_0 _ _) (Nat.le_of_ble_eq_true rfl) ?_
  refine WP_m xs 1299 _ _ _ _ _ _ _ (fun r h1 hr1 => ?_) (p_sham R (by omega))
  obtain ⟨z, m1, ln1, N1, rfl, rfl, g2⟩ := hr1
  refine gwr ?_
  refine g_pop m190_763 rfl ?_
  refine g_aload_n m190_764 rfl ?_
  refine la (a := 1) m190_765 m190_766 m190_767 rfl m190_768 m190_769 hl (by omega) ?_
  refine la (a := 2) m190_770 m190_771 m190_772 rfl m190_773 m190_774 hl (by omega) ?_
  refine h_cv (k := 57) (p := 89) (args := [.int (xs.getD (6 * q + 1) 0), .int (xs.getD (6 * q + 2) 0)]) (rest := []) m190_775 cn_158 (Nat.le_of_ble_eq_true rfl) rfl rfl rfl (t_57 _ _) (Nat.le_of_ble_eq_true rfl) ?_
  refine WP_m xs 1299 _ _ _ _ _ _ _ (fun r h1 hr1 => ?_) g2
  obtain ⟨z2, m2, rfl, ez, rfl, R2⟩ := hr1
  refine gwr ?_
  refine g_pop m190_778 rfl ?_
  refine g_goto m190_779 ?_
  exact hcont _ _ _ _ _ (by omega) (by omega) R2
set_option maxRecDepth 20000 in
set_option maxHeartbeats 4000000 in
theorem lk_18 (R : Rel2 m m ln N q) (hq : 6 * q + 6 ≤ xs.length) (hl : xs.length ≤ 3072) (hmc : 3 ≤ mc) (hms : 102 ≤ ms) (hcont : ∀ (m2 : MW) (ln2 : Nat → Nat) (N2 mc2 ms2 : Nat), mc ≤ mc2 + 3 → ms ≤ ms2 + 102 → Rel2 m2 m2 ln2 N2 (q + 1) → gw xs (WP xs 1299) 190 Q 1428 [some (.ref 0), some (.ref 32), some (.ref 89), some (.int (nI (6 * q)))] [] (H m2 ln2 N2) mc2 ms2) : gw xs (WP xs 1299) 190 Q 782 [some (.ref 0), some (.ref 32), some (.ref 89), some (.int (nI (6 * q)))] [] (H m ln N) mc ms := by
  refine g_aload_n m190_782 rfl ?_
  refine la (a := 1) m190_783 m190_784 m190_785 rfl m190_786 m190_787 hl (by omega) ?_
  refine la (a := 2) m190_788 m190_789 m190_790 rfl m190_791 m190_792 hl (by omega) ?_
  refine h_cv (k := 0) (p := 32) (args := [.int (xs.getD (6 * q + 1) 0), .int (xs.getD (6 * q + 2) 0)]) (rest := []) m190_793 cn_80 (Nat.le_of_ble_eq_true rfl) rfl rfl rfl (t_0 _ _) (Nat.le_of_ble_eq_true rfl) ?_
  refine WP_m xs 1299 _ _ _ _ _ _ _ (fun r h1 hr1 => ?_) (p_alike R (by omega))
  obtain ⟨z, m1, ln1, N1, rfl, rfl, g2⟩ := hr1
  refine gwr ?_
  refine g_pop m190_796 rfl ?_
  refine g_aload_n m190_797 rfl ?_
  refine la (a := 1) m190_798 m190_799 m190_800 rfl m190_801 m190_802 hl (by omega) ?_
  refine la (a := 2) m190_803 m190_804 m190_805 rfl m190_806 m190_807 hl (by omega) ?_
  refine h_cv (k := 57) (p := 89) (args := [.int (xs.getD (6 * q + 1) 0), .int (xs.getD (6 * q + 2) 0)]) (rest := []) m190_808 cn_159 (Nat.le_of_ble_eq_true rfl) rfl rfl rfl (t_57 _ _) (Nat.le_of_ble_eq_true rfl) ?_
  refine WP_m xs 1299 _ _ _ _ _ _ _ (fun r h1 hr1 => ?_) g2
  obtain ⟨z2, m2, rfl, ez, rfl, R2⟩ := hr1
  refine gwr ?_
  refine g_pop m190_811 rfl ?_
  refine g_goto m190_812 ?_
  exact hcont _ _ _ _ _ (by omega) (by omega) R2
set_option maxRecDepth 20000 in
set_option maxHeartbeats 4000000 in
theorem lk_19 (R : Rel2 m m ln N q) (hq : 6 * q + 6 ≤ xs.length) (hl : xs.length ≤ 3072) (hmc : 3 ≤ mc) (hms : 102 ≤ ms) (hcont : ∀ (m2 : MW) (ln2 : Nat → Nat) (N2 mc2 ms2 : Nat), mc ≤ mc2 + 3 → ms ≤ ms2 + 102 → Rel2 m2 m2 ln2 N2 (q + 1) → gw xs (WP xs 1299) 190 Q 1428 [some (.ref 0), some (.ref 32), some (.ref 89), some (.int (nI (6 * q)))] [] (H m2 ln2 N2) mc2 ms2) : gw xs (WP xs 1299) 190 Q 815 [some (.ref 0), some (.ref 32), some (.ref 89), some (.int (nI (6 * q)))] [] (H m ln N) mc ms := by
  refine g_aload_n m190_815 rfl ?_
  refine la (a := 1) m190_816 m190_817 m190_818 rfl m190_819 m190_820 hl (by omega) ?_
  refine la (a := 2) m190_821 m190_822 m190_823 rfl m190_824 m190_825 hl (by omega) ?_
  refine h_cv (k := 0) (p := 32) (args := [.int (xs.getD (6 * q + 1) 0), .int (xs.getD (6 * q + 2) 0)]) (rest := []) m190_826 cn_82 (Nat.le_of_ble_eq_true rfl) rfl rfl rfl (t_0 _ _) (Nat.le_of_ble_eq_true rfl) ?_
  refine WP_m xs 1299 _ _ _ _ _ _ _ (fun r h1 hr1 => ?_) (p_whose R (by omega))
  obtain ⟨z, m1, ln1, N1, rfl, rfl, g2⟩ := hr1
  refine gwr ?_
  refine g_pop m190_829 rfl ?_
  refine g_aload_n m190_830 rfl ?_
  refine la (a := 1) m190_831 m190_832 m190_833 rfl m190_834 m190_835 hl (by omega) ?_
  refine la (a := 2) m190_836 m190_837 m190_838 rfl m190_839 m190_840 hl (by omega) ?_
  refine h_cv (k := 57) (p := 89) (args := [.int (xs.getD (6 * q + 1) 0), .int (xs.getD (6 * q + 2) 0)]) (rest := []) m190_841 cn_162 (Nat.le_of_ble_eq_true rfl) rfl rfl rfl (t_57 _ _) (Nat.le_of_ble_eq_true rfl) ?_
  refine WP_m xs 1299 _ _ _ _ _ _ _ (fun r h1 hr1 => ?_) g2
  obtain ⟨z2, m2, rfl, ez, rfl, R2⟩ := hr1
  refine gwr ?_
  refine g_pop m190_844 rfl ?_
  refine g_goto m190_845 ?_
  exact hcont _ _ _ _ _ (by omega) (by omega) R2
set_option maxRecDepth 20000 in
set_option maxHeartbeats 4000000 in
theorem lk_20 (R : Rel2 m m ln N q) (hq : 6 * q + 6 ≤ xs.length) (hl : xs.length ≤ 3072) (hmc : 3 ≤ mc) (hms : 102 ≤ ms) (hcont : ∀ (m2 : MW) (ln2 : Nat → Nat) (N2 mc2 ms2 : Nat), mc ≤ mc2 + 3 → ms ≤ ms2 + 102 → Rel2 m2 m2 ln2 N2 (q + 1) → gw xs (WP xs 1299) 190 Q 1428 [some (.ref 0), some (.ref 32), some (.ref 89), some (.int (nI (6 * q)))] [] (H m2 ln2 N2) mc2 ms2) : gw xs (WP xs 1299) 190 Q 848 [some (.ref 0), some (.ref 32), some (.ref 89), some (.int (nI (6 * q)))] [] (H m ln N) mc ms := by
  refine g_aload_n m190_848 rfl ?_
  refine la (a := 1) m190_849 m190_850 m190_851 rfl m190_852 m190_853 hl (by omega) ?_
  refine h_cv (k := 0) (p := 32) (args := [.int (xs.getD (6 * q + 1) 0)]) (rest := []) m190_854 cn_83 (Nat.le_of_ble_eq_true rfl) rfl rfl rfl (t_0 _ _) (Nat.le_of_ble_eq_true rfl) ?_
  refine WP_m xs 1299 _ _ _ _ _ _ _ (fun r h1 hr1 => ?_) (p_rank R (by omega))
  obtain ⟨z, m1, ln1, N1, rfl, rfl, g2⟩ := hr1
  refine gwr ?_
  refine g_pop m190_857 rfl ?_
  refine g_aload_n m190_858 rfl ?_
  refine la (a := 1) m190_859 m190_860 m190_861 rfl m190_862 m190_863 hl (by omega) ?_
  refine h_cv (k := 57) (p := 89) (args := [.int (xs.getD (6 * q + 1) 0)]) (rest := []) m190_864 cn_163 (Nat.le_of_ble_eq_true rfl) rfl rfl rfl (t_57 _ _) (Nat.le_of_ble_eq_true rfl) ?_
  refine WP_m xs 1299 _ _ _ _ _ _ _ (fun r h1 hr1 => ?_) g2
  obtain ⟨z2, m2, rfl, ez, rfl, R2⟩ := hr1
  refine gwr ?_
  refine g_pop m190_867 rfl ?_
  refine g_goto m190_868 ?_
  exact hcont _ _ _ _ _ (by omega) (by omega) R2
set_option maxRecDepth 20000 in
set_option maxHeartbeats 4000000 in
theorem lk_21 (R : Rel2 m m ln N q) (hq : 6 * q + 6 ≤ xs.length) (hl : xs.length ≤ 3072) (hmc : 3 ≤ mc) (hms : 102 ≤ ms) (hcont : ∀ (m2 : MW) (ln2 : Nat → Nat) (N2 mc2 ms2 : Nat), mc ≤ mc2 + 3 → ms ≤ ms2 + 102 → Rel2 m2 m2 ln2 N2 (q + 1) → gw xs (WP xs 1299) 190 Q 1428 [some (.ref 0), some (.ref 32), some (.ref 89), some (.int (nI (6 * q)))] [] (H m2 ln2 N2) mc2 ms2) : gw xs (WP xs 1299) 190 Q 871 [some (.ref 0), some (.ref 32), some (.ref 89), some (.int (nI (6 * q)))] [] (H m ln N) mc ms := by
  refine g_aload_n m190_871 rfl ?_
  refine la (a := 1) m190_872 m190_873 m190_874 rfl m190_875 m190_876 hl (by omega) ?_
  refine la (a := 2) m190_877 m190_878 m190_879 rfl m190_880 m190_881 hl (by omega) ?_
  refine h_cv (k := 0) (p := 32) (args := [.int (xs.getD (6 * q + 1) 0), .int (xs.getD (6 * q + 2) 0)]) (rest := []) m190_882 cn_84 (Nat.le_of_ble_eq_true rfl) rfl rfl rfl (t_0 _ _) (Nat.le_of_ble_eq_true rfl) ?_
  refine WP_m xs 1299 _ _ _ _ _ _ _ (fun r h1 hr1 => ?_) (p_harm R (by omega))
  obtain ⟨z, m1, ln1, N1, rfl, rfl, g2⟩ := hr1
  refine gwr ?_
  refine g_pop m190_885 rfl ?_
  refine g_aload_n m190_886 rfl ?_
  refine la (a := 1) m190_887 m190_888 m190_889 rfl m190_890 m190_891 hl (by omega) ?_
  refine la (a := 2) m190_892 m190_893 m190_894 rfl m190_895 m190_896 hl (by omega) ?_
  refine h_cv (k := 57) (p := 89) (args := [.int (xs.getD (6 * q + 1) 0), .int (xs.getD (6 * q + 2) 0)]) (rest := []) m190_897 cn_164 (Nat.le_of_ble_eq_true rfl) rfl rfl rfl (t_57 _ _) (Nat.le_of_ble_eq_true rfl) ?_
  refine WP_m xs 1299 _ _ _ _ _ _ _ (fun r h1 hr1 => ?_) g2
  obtain ⟨z2, m2, rfl, ez, rfl, R2⟩ := hr1
  refine gwr ?_
  refine g_pop m190_900 rfl ?_
  refine g_goto m190_901 ?_
  exact hcont _ _ _ _ _ (by omega) (by omega) R2
set_option maxRecDepth 20000 in
set_option maxHeartbeats 4000000 in
theorem lk_22 (R : Rel2 m m ln N q) (hq : 6 * q + 6 ≤ xs.length) (hl : xs.length ≤ 3072) (hmc : 3 ≤ mc) (hms : 102 ≤ ms) (hcont : ∀ (m2 : MW) (ln2 : Nat → Nat) (N2 mc2 ms2 : Nat), mc ≤ mc2 + 3 → ms ≤ ms2 + 102 → Rel2 m2 m2 ln2 N2 (q + 1) → gw xs (WP xs 1299) 190 Q 1428 [some (.ref 0), some (.ref 32), some (.ref 89), some (.int (nI (6 * q)))] [] (H m2 ln2 N2) mc2 ms2) : gw xs (WP xs 1299) 190 Q 904 [some (.ref 0), some (.ref 32), some (.ref 89), some (.int (nI (6 * q)))] [] (H m ln N) mc ms := by
  refine g_aload_n m190_904 rfl ?_
  refine la (a := 1) m190_905 m190_906 m190_907 rfl m190_908 m190_909 hl (by omega) ?_
  refine la (a := 2) m190_910 m190_911 m190_912 rfl m190_913 m190_914 hl (by omega) ?_
  refine h_cv (k := 0) (p := 32) (args := [.int (xs.getD (6 * q + 1) 0), .int (xs.getD (6 * q + 2) 0)]) (rest := []) m190_915 cn_85 (Nat.le_of_ble_eq_true rfl) rfl rfl rfl (t_0 _ _) (Nat.le_of_ble_eq_true rfl) ?_
  refine WP_m xs 1299 _ _ _ _ _ _ _ (fun r h1 hr1 => ?_) (p_cramps R (by omega))
  obtain ⟨z, m1, ln1, N1, rfl, rfl, g2⟩ := hr1
  refine gwr ?_
  refine g_pop m190_918 rfl ?_
  refine g_aload_n m190_919 rfl ?_
  refine la (a := 1) m190_920 m190_921 m190_922 rfl m190_923 m190_924 hl (by omega) ?_
  refine la (a := 2) m190_925 m190_926 m190_927 rfl m190_928 m190_929 hl (by omega) ?_
  refine h_cv (k := 57) (p := 89) (args := [.int (xs.getD (6 * q + 1) 0), .int (xs.getD (6 * q + 2) 0)]) (rest := []) m190_930 cn_165 (Nat.le_of_ble_eq_true rfl) rfl rfl rfl (t_57 _ _) (Nat.le_of_ble_eq_true rfl) ?_
  refine WP_m xs 1299 _ _ _ _ _ _ _ (fun r h1 hr1 => ?_) g2
  obtain ⟨z2, m2, rfl, ez, rfl, R2⟩ := hr1
  refine gwr ?_
  refine g_pop m190_933 rfl ?_
  refine g_goto m190_934 ?_
  exact hcont _ _ _ _ _ (by omega) (by omega) R2
set_option maxRecDepth 20000 in
set_option maxHeartbeats 4000000 in
theorem lk_23 (R : Rel2 m m ln N q) (hq : 6 * q + 6 ≤ xs.length) (hl : xs.length ≤ 3072) (hmc : 3 ≤ mc) (hms : 102 ≤ ms) (hcont : ∀ (m2 : MW) (ln2 : Nat → Nat) (N2 mc2 ms2 : Nat), mc ≤ mc2 + 3 → ms ≤ ms2 + 102 → Rel2 m2 m2 ln2 N2 (q + 1) → gw xs (WP xs 1299) 190 Q 1428 [some (.ref 0), some (.ref 32), some (.ref 89), some (.int (nI (6 * q)))] [] (H m2 ln2 N2) mc2 ms2) : gw xs (WP xs 1299) 190 Q 937 [some (.ref 0), some (.ref 32), some (.ref 89), some (.int (nI (6 * q)))] [] (H m ln N) mc ms := by
  refine g_aload_n m190_937 rfl ?_
  refine la (a := 1) m190_938 m190_939 m190_940 rfl m190_941 m190_942 hl (by omega) ?_
  refine la (a := 2) m190_943 m190_944 m190_945 rfl m190_946 m190_947 hl (by omega) ?_
  refine h_cv (k := 0) (p := 32) (args := [.int (xs.getD (6 * q + 1) 0), .int (xs.getD (6 * q + 2) 0)]) (rest := []) m190_948 cn_86 (Nat.le_of_ble_eq_true rfl) rfl rfl rfl (t_0 _ _) (Nat.le_of_ble_eq_true rfl) ?_
  refine WP_m xs 1299 _ _ _ _ _ _ _ (fun r h1 hr1 => ?_) (p_enough R (by omega))
  obtain ⟨z, m1, ln1, N1, rfl, rfl, g2⟩ := hr1
  refine gwr ?_
  refine g_pop m190_951 rfl ?_
  refine g_aload_n m190_952 rfl ?_
  refine la (a := 1) m190_953 m190_954 m190_955 rfl m190_956 m190_957 hl (by omega) ?_
  refine la (a := 2) m190_958 m190_959 m190_960 rfl m190_961 m190_962 hl (by omega) ?_
  refine h_cv (k := 57) (p := 89) (args := [.int (xs.getD (6 * q + 1) 0), .int (xs.getD (6 * q + 2) 0)]) (rest := []) m190_963 cn_166 (Nat.le_of_ble_eq_true rfl) rfl rfl rfl (t_57 _ _) (Nat.le_of_ble_eq_true rfl) ?_
  refine WP_m xs 1299 _ _ _ _ _ _ _ (fun r h1 hr1 => ?_) g2
  obtain ⟨z2, m2, rfl, ez, rfl, R2⟩ := hr1
  refine gwr ?_
  refine g_pop m190_966 rfl ?_
  refine g_goto m190_967 ?_
  exact hcont _ _ _ _ _ (by omega) (by omega) R2
set_option maxRecDepth 20000 in
set_option maxHeartbeats 4000000 in
theorem lk_24 (R : Rel2 m m ln N q) (hq : 6 * q + 6 ≤ xs.length) (hl : xs.length ≤ 3072) (hmc : 3 ≤ mc) (hms : 102 ≤ ms) (hcont : ∀ (m2 : MW) (ln2 : Nat → Nat) (N2 mc2 ms2 : Nat), mc ≤ mc2 + 3 → ms ≤ ms2 + 102 → Rel2 m2 m2 ln2 N2 (q + 1) → gw xs (WP xs 1299) 190 Q 1428 [some (.ref 0), some (.ref 32), some (.ref 89), some (.int (nI (6 * q)))] [] (H m2 ln2 N2) mc2 ms2) : gw xs (WP xs 1299) 190 Q 970 [some (.ref 0), some (.ref 32), some (.ref 89), some (.int (nI (6 * q)))] [] (H m ln N) mc ms := by
  refine g_aload_n m190_970 rfl ?_
  refine la (a := 1) m190_971 m190_972 m190_973 rfl m190_974 m190_975 hl (by omega) ?_
  refine h_cv (k := 0) (p := 32) (args := [.int (xs.getD (6 * q + 1) 0)]) (rest := []) m190_976 cn_87 (Nat.le_of_ble_eq_true rfl) rfl rfl rfl (t_0 _ _) (Nat.le_of_ble_eq_true rfl) ?_
  refine WP_m xs 1299 _ _ _ _ _ _ _ (fun r h1 hr1 => ?_) (p_meals R (by omega))
  obtain ⟨z, m1, ln1, N1, rfl, rfl, g2⟩ := hr1
  refine gwr ?_
  refine g_pop m190_979 rfl ?_
  refine g_aload_n m190_980 rfl ?_
  refine la (a := 1) m190_981 m190_982 m190_983 rfl m190_984 m190_985 hl (by omega) ?_
  refine h_cv (k := 57) (p := 89) (args := [.int (xs.getD (6 * q + 1) 0)]) (rest := []) m190_986 cn_167 (Nat.le_of_ble_eq_true rfl) rfl rfl rfl (t_57 _ _) (Nat.le_of_ble_eq_true rfl) ?_
  refine WP_m xs 1299 _ _ _ _ _ _ _ (fun r h1 hr1 => ?_) g2
  obtain ⟨z2, m2, rfl, ez, rfl, R2⟩ := hr1
  refine gwr ?_
  refine g_pop m190_989 rfl ?_
  refine g_goto m190_990 ?_
  exact hcont _ _ _ _ _ (by omega) (by omega) R2
set_option maxRecDepth 20000 in
set_option maxHeartbeats 4000000 in
theorem lk_25 (R : Rel2 m m ln N q) (hq : 6 * q + 6 ≤ xs.length) (hl : xs.length ≤ 3072) (hmc : 3 ≤ mc) (hms : 102 ≤ ms) (hcont : ∀ (m2 : MW) (ln2 : Nat → Nat) (N2 mc2 ms2 : Nat), mc ≤ mc2 + 3 → ms ≤ ms2 + 102 → Rel2 m2 m2 ln2 N2 (q + 1) → gw xs (WP xs 1299) 190 Q 1428 [some (.ref 0), some (.ref 32), some (.ref 89), some (.int (nI (6 * q)))] [] (H m2 ln2 N2) mc2 ms2) : gw xs (WP xs 1299) 190 Q 993 [some (.ref 0), some (.ref 32), some (.ref 89), some (.int (nI (6 * q)))] [] (H m ln N) mc ms := by
  refine g_aload_n m190_993 rfl ?_
  refine la (a := 1) m190_994 m190_995 m190_996 rfl m190_997 m190_998 hl (by omega) ?_
  refine la (a := 2) m190_999 m190_1000 m190_1001 rfl m190_1002 m190_1003 hl (by omega) ?_
  refine la (a := 3) m190_1004 m190_1005 m190_1006 rfl m190_1007 m190_1008 hl (by omega) ?_
  refine h_cv (k := 0) (p := 32) (args := [.int (xs.getD (6 * q + 1) 0), .int (xs.getD (6 * q + 2) 0), .int (xs.getD (6 * q + 3) 0)]) (rest := []) m190_1009 cn_89 (Nat.le_of_ble_eq_true rfl) rfl rfl rfl (t_0 _ _) (Nat.le_of_ble_eq_true rfl) ?_
  refine WP_m xs 1299 _ _ _ _ _ _ _ (fun r h1 hr1 => ?_) (p_odds R (by omega))
  obtain ⟨z, m1, ln1, N1, rfl, rfl, g2⟩ := hr1
  refine gwr ?_
  refine g_pop m190_1012 rfl ?_
  refine g_aload_n m190_1013 rfl ?_
  refine la (a := 1) m190_1014 m190_1015 m190_1016 rfl m190_1017 m190_1018 hl (by omega) ?_
  refine la (a := 2) m190_1019 m190_1020 m190_1021 rfl m190_1022 m190_1023 hl (by omega) ?_
  refine la (a := 3) m190_1024 m190_1025 m190_1026 rfl m190_1027 m190_1028 hl (by omega) ?_
  refine h_cv (k := 57) (p := 89) (args := [.int (xs.getD (6 * q + 1) 0), .int (xs.getD (6 * q + 2) 0), .int (xs.getD (6 * q + 3) 0)]) (rest := []) m190_1029 cn_169 (Nat.le_of_ble_eq_true rfl) rfl rfl rfl (t_57 _ _) (Nat.le_of_ble_eq_true rfl) ?_
  refine WP_m xs 1299 _ _ _ _ _ _ _ (fun r h1 hr1 => ?_) g2
  obtain ⟨z2, m2, rfl, ez, rfl, R2⟩ := hr1
  refine gwr ?_
  refine g_pop m190_1032 rfl ?_
  refine g_goto m190_1033 ?_
  exact hcont _ _ _ _ _ (by omega) (by omega) R2
set_option maxRecDepth 20000 in
set_option maxHeartbeats 4000000 in
theorem lk_26 (R : Rel2 m m ln N q) (hq : 6 * q + 6 ≤ xs.length) (hl : xs.length ≤ 3072) (hmc : 3 ≤ mc) (hms : 102 ≤ ms) (hcont : ∀ (m2 : MW) (ln2 : Nat → Nat) (N2 mc2 ms2 : Nat), mc ≤ mc2 + 3 → ms ≤ ms2 + 102 → Rel2 m2 m2 ln2 N2 (q + 1) → gw xs (WP xs 1299) 190 Q 1428 [some (.ref 0), some (.ref 32), some (.ref 89), some (.int (nI (6 * q)))] [] (H m2 ln2 N2) mc2 ms2) : gw xs (WP xs 1299) 190 Q 1036 [some (.ref 0), some (.ref 32), some (.ref 89), some (.int (nI (6 * q)))] [] (H m ln N) mc ms := by
  refine g_aload_n m190_1036 rfl ?_
  refine la (a := 1) m190_1037 m190_1038 m190_1039 rfl m190_1040 m190_1041 hl (by omega) ?_
  refine h_cv (k := 0) (p := 32) (args := [.int (xs.getD (6 * q + 1) 0)]) (rest := []) m190_1042 cn_90 (Nat.le_of_ble_eq_true rfl) rfl rfl rfl (t_0 _ _) (Nat.le_of_ble_eq_true rfl) ?_
  refine WP_m xs 1299 _ _ _ _ _ _ _ (fun r h1 hr1 => ?_) (p_seed R (by omega))
  obtain ⟨z, m1, ln1, N1, rfl, rfl, g2⟩ := hr1
  refine gwr ?_
  refine g_pop m190_1045 rfl ?_
  refine g_aload_n m190_1046 rfl ?_
  refine la (a := 1) m190_1047 m190_1048 m190_1049 rfl m190_1050 m190_1051 hl (by omega) ?_
  refine h_cv (k := 57) (p := 89) (args := [.int (xs.getD (6 * q + 1) 0)]) (rest := []) m190_1052 cn_170 (Nat.le_of_ble_eq_true rfl) rfl rfl rfl (t_57 _ _) (Nat.le_of_ble_eq_true rfl) ?_
  refine WP_m xs 1299 _ _ _ _ _ _ _ (fun r h1 hr1 => ?_) g2
  obtain ⟨z2, m2, rfl, ez, rfl, R2⟩ := hr1
  refine gwr ?_
  refine g_pop m190_1055 rfl ?_
  refine g_goto m190_1056 ?_
  exact hcont _ _ _ _ _ (by omega) (by omega) R2
set_option maxRecDepth 20000 in
set_option maxHeartbeats 4000000 in
theorem lk_27 (R : Rel2 m m ln N q) (hq : 6 * q + 6 ≤ xs.length) (hl : xs.length ≤ 3072) (hmc : 3 ≤ mc) (hms : 102 ≤ ms) (hcont : ∀ (m2 : MW) (ln2 : Nat → Nat) (N2 mc2 ms2 : Nat), mc ≤ mc2 + 3 → ms ≤ ms2 + 102 → Rel2 m2 m2 ln2 N2 (q + 1) → gw xs (WP xs 1299) 190 Q 1428 [some (.ref 0), some (.ref 32), some (.ref 89), some (.int (nI (6 * q)))] [] (H m2 ln2 N2) mc2 ms2) : gw xs (WP xs 1299) 190 Q 1059 [some (.ref 0), some (.ref 32), some (.ref 89), some (.int (nI (6 * q)))] [] (H m ln N) mc ms := by
  refine g_aload_n m190_1059 rfl ?_
  refine la (a := 1) m190_1060 m190_1061 m190_1062 rfl m190_1063 m190_1064 hl (by omega) ?_
  refine la (a := 2) m190_1065 m190_1066 m190_1067 rfl m190_1068 m190_1069 hl (by omega) ?_
  refine la (a := 3) m190_1070 m190_1071 m190_1072 rfl m190_1073 m190_1074 hl (by omega) ?_
  refine h_cv (k := 0) (p := 32) (args := [.int (xs.getD (6 * q + 1) 0), .int (xs.getD (6 * q + 2) 0), .int (xs.getD (6 * q + 3) 0)]) (rest := []) m190_1075 cn_93 (Nat.le_of_ble_eq_true rfl) rfl rfl rfl (t_0 _ _) (Nat.le_of_ble_eq_true rfl) ?_
  refine WP_m xs 1299 _ _ _ _ _ _ _ (fun r h1 hr1 => ?_) (p_voice R (by omega))
  obtain ⟨z, m1, ln1, N1, rfl, rfl, g2⟩ := hr1
  refine gwr ?_
  refine g_pop m190_1078 rfl ?_
  refine g_aload_n m190_1079 rfl ?_
  refine la (a := 1) m190_1080 m190_1081 m190_1082 rfl m190_1083 m190_1084 hl (by omega) ?_
  refine la (a := 2) m190_1085 m190_1086 m190_1087 rfl m190_1088 m190_1089 hl (by omega) ?_
  refine la (a := 3) m190_1090 m190_1091 m190_1092 rfl m190_1093 m190_1094 hl (by omega) ?_
  refine h_cv (k := 57) (p := 89) (args := [.int (xs.getD (6 * q + 1) 0), .int (xs.getD (6 * q + 2) 0), .int (xs.getD (6 * q + 3) 0)]) (rest := []) m190_1095 cn_176 (Nat.le_of_ble_eq_true rfl) rfl rfl rfl (t_57 _ _) (Nat.le_of_ble_eq_true rfl) ?_
  refine WP_m xs 1299 _ _ _ _ _ _ _ (fun r h1 hr1 => ?_) g2
  obtain ⟨z2, m2, rfl, ez, rfl, R2⟩ := hr1
  refine gwr ?_
  refine g_pop m190_1098 rfl ?_
  refine g_goto m190_1099 ?_
  exact hcont _ _ _ _ _ (by omega) (by omega) R2
set_option maxRecDepth 20000 in
set_option maxHeartbeats 4000000 in
theorem lk_28 (R : Rel2 m m ln N q) (hq : 6 * q + 6 ≤ xs.length) (hl : xs.length ≤ 3072) (hmc : 3 ≤ mc) (hms : 102 ≤ ms) (hcont : ∀ (m2 : MW) (ln2 : Nat → Nat) (N2 mc2 ms2 : Nat), mc ≤ mc2 + 3 → ms ≤ ms2 + 102 → Rel2 m2 m2 ln2 N2 (q + 1) → gw xs (WP xs 1299) 190 Q 1428 [some (.ref 0), some (.ref 32), some (.ref 89), some (.int (nI (6 * q)))] [] (H m2 ln2 N2) mc2 ms2) : gw xs (WP xs 1299) 190 Q 1102 [some (.ref 0), some (.ref 32), some (.ref 89), some (.int (nI (6 * q)))] [] (H m ln N) mc ms := by
  refine g_aload_n m190_1102 rfl ?_
  refine la (a := 1) m190_1103 m190_1104 m190_1105 rfl m190_1106 m190_1107 hl (by omega) ?_
  refine h_cv (k := 0) (p := 32) (args := [.int (xs.getD (6 * q + 1) 0)]) (rest := []) m190_1108 cn_94 (Nat.le_of_ble_eq_true rfl) rfl rfl rfl (t_0 _ _) (Nat.le_of_ble_eq_true rfl) ?_
  refine WP_m xs 1299 _ _ _ _ _ _ _ (fun r h1 hr1 => ?_) (p_trace R (by omega))
  obtain ⟨z, m1, ln1, N1, rfl, rfl, g2⟩ := hr1
  refine gwr ?_
  refine g_pop m190_1111 rfl ?_
  refine g_aload_n m190_1112 rfl ?_
  refine la (a := 1) m190_1113 m190_1114 m190_1115 rfl m190_1116 m190_1117 hl (by omega) ?_
  refine h_cv (k := 57) (p := 89) (args := [.int (xs.getD (6 * q + 1) 0)]) (rest := []) m190_1118 cn_177 (Nat.le_of_ble_eq_true rfl) rfl rfl rfl (t_57 _ _) (Nat.le_of_ble_eq_true rfl) ?_
  refine WP_m xs 1299 _ _ _ _ _ _ _ (fun r h1 hr1 => ?_) g2
  obtain ⟨z2, m2, rfl, ez, rfl, R2⟩ := hr1
  refine gwr ?_
  refine g_pop m190_1121 rfl ?_
  refine g_goto m190_1122 ?_
  exact hcont _ _ _ _ _ (by omega) (by omega) R2
set_option maxRecDepth 20000 in
set_option maxHeartbeats 4000000 in
theorem lk_29 (R : Rel2 m m ln N q) (hq : 6 * q + 6 ≤ xs.length) (hl : xs.length ≤ 3072) (hmc : 3 ≤ mc) (hms : 102 ≤ ms) (hcont : ∀ (m2 : MW) (ln2 : Nat → Nat) (N2 mc2 ms2 : Nat), mc ≤ mc2 + 3 → ms ≤ ms2 + 102 → Rel2 m2 m2 ln2 N2 (q + 1) → gw xs (WP xs 1299) 190 Q 1428 [some (.ref 0), some (.ref 32), some (.ref 89), some (.int (nI (6 * q)))] [] (H m2 ln2 N2) mc2 ms2) : gw xs (WP xs 1299) 190 Q 1125 [some (.ref 0), some (.ref 32), some (.ref 89), some (.int (nI (6 * q)))] [] (H m ln N) mc ms := by
  refine g_aload_n m190_1125 rfl ?_
  refine la (a := 1) m190_1126 m190_1127 m190_1128 rfl m190_1129 m190_1130 hl (by omega) ?_
  refine la (a := 2) m190_1131 m190_1132 m190_1133 rfl m190_1134 m190_1135 hl (by omega) ?_
  refine la (a := 3) m190_1136 m190_1137 m190_1138 rfl m190_1139 m190_1140 hl (by omega) ?_
  refine h_cv (k := 0) (p := 32) (args := [.int (xs.getD (6 * q + 1) 0), .int (xs.getD (6 * q + 2) 0), .int (xs.getD (6 * q + 3) 0)]) (rest := []) m190_1141 cn_95 (Nat.le_of_ble_eq_true rfl) rfl rfl rfl (t_0 _ _) (Nat.le_of_ble_eq_true rfl) ?_
  refine WP_m xs 1299 _ _ _ _ _ _ _ (fun r h1 hr1 => ?_) (p_sheet R (by omega))
  obtain ⟨z, m1, ln1, N1, rfl, rfl, g2⟩ := hr1
  refine gwr ?_
  refine g_pop m190_1144 rfl ?_
  refine g_aload_n m190_1145 rfl ?_
  refine la (a := 1) m190_1146 m190_1147 m190_1148 rfl m190_1149 m190_1150 hl (by omega) ?_
  refine la (a := 2) m190_1151 m190_1152 m190_1153 rfl m190_1154 m190_1155 hl (by omega) ?_
  refine la (a := 3) m190_1156 m190_1157 m190_1158 rfl m190_1159 m190_1160 hl (by omega) ?_
  refine h_cv (k := 57) (p := 89) (args := [.int (xs.getD (6 * q + 1) 0), .int (xs.getD (6 * q + 2) 0), .int (xs.getD (6 * q + 3) 0)]) (rest := []) m190_1161 cn_179 (Nat.le_of_ble_eq_true rfl) rfl rfl rfl (t_57 _ _) (Nat.le_of_ble_eq_true rfl) ?_
  refine WP_m xs 1299 _ _ _ _ _ _ _ (fun r h1 hr1 => ?_) g2
  obtain ⟨z2, m2, rfl, ez, rfl, R2⟩ := hr1
  refine gwr ?_
  refine g_pop m190_1164 rfl ?_
  refine g_goto m190_1165 ?_
  exact hcont _ _ _ _ _ (by omega) (by omega) R2
set_option maxRecDepth 20000 in
set_option maxHeartbeats 4000000 in
theorem lk_30 (R : Rel2 m m ln N q) (hq : 6 * q + 6 ≤ xs.length) (hl : xs.length ≤ 3072) (hmc : 3 ≤ mc) (hms : 102 ≤ ms) (hcont : ∀ (m2 : MW) (ln2 : Nat → Nat) (N2 mc2 ms2 : Nat), mc ≤ mc2 + 3 → ms ≤ ms2 + 102 → Rel2 m2 m2 ln2 N2 (q + 1) → gw xs (WP xs 1299) 190 Q 1428 [some (.ref 0), some (.ref 32), some (.ref 89), some (.int (nI (6 * q)))] [] (H m2 ln2 N2) mc2 ms2) : gw xs (WP xs 1299) 190 Q 1168 [some (.ref 0), some (.ref 32), some (.ref 89), some (.int (nI (6 * q)))] [] (H m ln N) mc ms := by
  refine g_aload_n m190_1168 rfl ?_
  refine la (a := 1) m190_1169 m190_1170 m190_1171 rfl m190_1172 m190_1173 hl (by omega) ?_
  refine la (a := 2) m190_1174 m190_1175 m190_1176 rfl m190_1177 m190_1178 hl (by omega) ?_
  refine la (a := 3) m190_1179 m190_1180 m190_1181 rfl m190_1182 m190_1183 hl (by omega) ?_
  refine h_cv (k := 0) (p := 32) (args := [.int (xs.getD (6 * q + 1) 0), .int (xs.getD (6 * q + 2) 0), .int (xs.getD (6 * q + 3) 0)]) (rest := []) m190_1184 cn_96 (Nat.le_of_ble_eq_true rfl) rfl rfl rfl (t_0 _ _) (Nat.le_of_ble_eq_true rfl) ?_
  refine WP_m xs 1299 _ _ _ _ _ _ _ (fun r h1 hr1 => ?_) (p_put R (by omega))
  obtain ⟨z, m1, ln1, N1, rfl, rfl, g2⟩ := hr1
  refine gwr ?_
  refine g_pop m190_1187 rfl ?_
  refine g_aload_n m190_1188 rfl ?_
  refine la (a := 1) m190_1189 m190_1190 m190_1191 rfl m190_1192 m190_1193 hl (by omega) ?_
  refine la (a := 2) m190_1194 m190_1195 m190_1196 rfl m190_1197 m190_1198 hl (by omega) ?_
  refine la (a := 3) m190_1199 m190_1200 m190_1201 rfl m190_1202 m190_1203 hl (by omega) ?_
  refine h_cv (k := 57) (p := 89) (args := [.int (xs.getD (6 * q + 1) 0), .int (xs.getD (6 * q + 2) 0), .int (xs.getD (6 * q + 3) 0)]) (rest := []) m190_1204 cn_180 (Nat.le_of_ble_eq_true rfl) rfl rfl rfl (t_57 _ _) (Nat.le_of_ble_eq_true rfl) ?_
  refine WP_m xs 1299 _ _ _ _ _ _ _ (fun r h1 hr1 => ?_) g2
  obtain ⟨z2, m2, rfl, ez, rfl, R2⟩ := hr1
  refine gwr ?_
  refine g_pop m190_1207 rfl ?_
  refine g_goto m190_1208 ?_
  exact hcont _ _ _ _ _ (by omega) (by omega) R2
set_option maxRecDepth 20000 in
set_option maxHeartbeats 4000000 in
theorem lk_31 (R : Rel2 m m ln N q) (hq : 6 * q + 6 ≤ xs.length) (hl : xs.length ≤ 3072) (hmc : 3 ≤ mc) (hms : 102 ≤ ms) (hcont : ∀ (m2 : MW) (ln2 : Nat → Nat) (N2 mc2 ms2 : Nat), mc ≤ mc2 + 3 → ms ≤ ms2 + 102 → Rel2 m2 m2 ln2 N2 (q + 1) → gw xs (WP xs 1299) 190 Q 1428 [some (.ref 0), some (.ref 32), some (.ref 89), some (.int (nI (6 * q)))] [] (H m2 ln2 N2) mc2 ms2) : gw xs (WP xs 1299) 190 Q 1211 [some (.ref 0), some (.ref 32), some (.ref 89), some (.int (nI (6 * q)))] [] (H m ln N) mc ms := by
  refine g_aload_n m190_1211 rfl ?_
  refine la (a := 1) m190_1212 m190_1213 m190_1214 rfl m190_1215 m190_1216 hl (by omega) ?_
  refine la (a := 2) m190_1217 m190_1218 m190_1219 rfl m190_1220 m190_1221 hl (by omega) ?_
  refine la (a := 3) m190_1222 m190_1223 m190_1224 rfl m190_1225 m190_1226 hl (by omega) ?_
  refine la (a := 4) m190_1227 m190_1228 m190_1229 rfl m190_1230 m190_1231 hl (by omega) ?_
  refine la (a := 5) m190_1232 m190_1233 m190_1234 rfl m190_1235 m190_1236 hl (by omega) ?_
  refine h_cv (k := 0) (p := 32) (args := [.int (xs.getD (6 * q + 1) 0), .int (xs.getD (6 * q + 2) 0), .int (xs.getD (6 * q + 3) 0), .int (xs.getD (6 * q + 4) 0), .int (xs.getD (6 * q + 5) 0)]) (rest := []) m190_1237 cn_97 (Nat.le_of_ble_eq_true rfl) rfl rfl rfl (t_0 _ _) (Nat.le_of_ble_eq_true rfl) ?_
  refine WP_m xs 1299 _ _ _ _ _ _ _ (fun r h1 hr1 => ?_) (p_move R (by omega))
  obtain ⟨z, m1, ln1, N1, rfl, rfl, g2⟩ := hr1
  refine gwr ?_
  refine g_pop m190_1240 rfl ?_
  refine g_aload_n m190_1241 rfl ?_
  refine la (a := 1) m190_1242 m190_1243 m190_1244 rfl m190_1245 m190_1246 hl (by omega) ?_
  refine la (a := 2) m190_1247 m190_1248 m190_1249 rfl m190_1250 m190_1251 hl (by omega) ?_
  refine la (a := 3) m190_1252 m190_1253 m190_1254 rfl m190_1255 m190_1256 hl (by omega) ?_
  refine la (a := 4) m190_1257 m190_1258 m190_1259 rfl m190_1260 m190_1261 hl (by omega) ?_
  refine la (a := 5) m190_1262 m190_1263 m190_1264 rfl m190_1265 m190_1266 hl (by omega) ?_
  refine h_cv (k := 57) (p := 89) (args := [.int (xs.getD (6 * q + 1) 0), .int (xs.getD (6 * q + 2) 0), .int (xs.getD (6 * q + 3) 0), .int (xs.getD (6 * q + 4) 0), .int (xs.getD (6 * q + 5) 0)]) (rest := []) m190_1267 cn_181 (Nat.le_of_ble_eq_true rfl) rfl rfl rfl (t_57 _ _) (Nat.le_of_ble_eq_true rfl) ?_
  refine WP_m xs 1299 _ _ _ _ _ _ _ (fun r h1 hr1 => ?_) g2
  obtain ⟨z2, m2, rfl, ez, rfl, R2⟩ := hr1
  refine gwr ?_
  refine g_pop m190_1270 rfl ?_
  refine g_goto m190_1271 ?_
  exact hcont _ _ _ _ _ (by omega) (by omega) R2
set_option maxRecDepth 20000 in
set_option maxHeartbeats 4000000 in
theorem lk_32 (R : Rel2 m m ln N q) (hq : 6 * q + 6 ≤ xs.length) (hl : xs.length ≤ 3072) (hmc : 3 ≤ mc) (hms : 102 ≤ ms) (hcont : ∀ (m2 : MW) (ln2 : Nat → Nat) (N2 mc2 ms2 : Nat), mc ≤ mc2 + 3 → ms ≤ ms2 + 102 → Rel2 m2 m2 ln2 N2 (q + 1) → gw xs (WP xs 1299) 190 Q 1428 [some (.ref 0), some (.ref 32), some (.ref 89), some (.int (nI (6 * q)))] [] (H m2 ln2 N2) mc2 ms2) : gw xs (WP xs 1299) 190 Q 1274 [some (.ref 0), some (.ref 32), some (.ref 89), some (.int (nI (6 * q)))] [] (H m ln N) mc ms := by
  refine g_aload_n m190_1274 rfl ?_
  refine la (a := 1) m190_1275 m190_1276 m190_1277 rfl m190_1278 m190_1279 hl (by omega) ?_
  refine h_cv (k := 0) (p := 32) (args := [.int (xs.getD (6 * q + 1) 0)]) (rest := []) m190_1280 cn_98 (Nat.le_of_ble_eq_true rfl) rfl rfl rfl (t_0 _ _) (Nat.le_of_ble_eq_true rfl) ?_
  refine WP_m xs 1299 _ _ _ _ _ _ _ (fun r h1 hr1 => ?_) (p_shams R (by omega))
  obtain ⟨z, m1, ln1, N1, rfl, rfl, g2⟩ := hr1
  refine gwr ?_
  refine g_pop m190_1283 rfl ?_
  refine g_aload_n m190_1284 rfl ?_
  refine la (a := 1) m190_1285 m190_1286 m190_1287 rfl m190_1288 m190_1289 hl (by omega) ?_
  refine h_cv (k := 57) (p := 89) (args := [.int (xs.getD (6 * q + 1) 0)]) (rest := []) m190_1290 cn_182 (Nat.le_of_ble_eq_true rfl) rfl rfl rfl (t_57 _ _) (Nat.le_of_ble_eq_true rfl) ?_
  refine WP_m xs 1299 _ _ _ _ _ _ _ (fun r h1 hr1 => ?_) g2
  obtain ⟨z2, m2, rfl, ez, rfl, R2⟩ := hr1
  refine gwr ?_
  refine g_pop m190_1293 rfl ?_
  refine g_goto m190_1294 ?_
  exact hcont _ _ _ _ _ (by omega) (by omega) R2
set_option maxRecDepth 20000 in
set_option maxHeartbeats 4000000 in
theorem lk_33 (R : Rel2 m m ln N q) (hq : 6 * q + 6 ≤ xs.length) (hl : xs.length ≤ 3072) (hmc : 3 ≤ mc) (hms : 102 ≤ ms) (hcont : ∀ (m2 : MW) (ln2 : Nat → Nat) (N2 mc2 ms2 : Nat), mc ≤ mc2 + 3 → ms ≤ ms2 + 102 → Rel2 m2 m2 ln2 N2 (q + 1) → gw xs (WP xs 1299) 190 Q 1428 [some (.ref 0), some (.ref 32), some (.ref 89), some (.int (nI (6 * q)))] [] (H m2 ln2 N2) mc2 ms2) : gw xs (WP xs 1299) 190 Q 1297 [some (.ref 0), some (.ref 32), some (.ref 89), some (.int (nI (6 * q)))] [] (H m ln N) mc ms := by
  refine g_aload_n m190_1297 rfl ?_
  refine la (a := 1) m190_1298 m190_1299 m190_1300 rfl m190_1301 m190_1302 hl (by omega) ?_
  refine h_cv (k := 0) (p := 32) (args := [.int (xs.getD (6 * q + 1) 0)]) (rest := []) m190_1303 cn_99 (Nat.le_of_ble_eq_true rfl) rfl rfl rfl (t_0 _ _) (Nat.le_of_ble_eq_true rfl) ?_
  refine WP_m xs 1299 _ _ _ _ _ _ _ (fun r h1 hr1 => ?_) (p_judge R (by omega))
  obtain ⟨z, m1, ln1, N1, rfl, rfl, g2⟩ := hr1
  refine gwr ?_
  refine g_pop m190_1306 rfl ?_
  refine g_aload_n m190_1307 rfl ?_
  refine la (a := 1) m190_1308 m190_1309 m190_1310 rfl m190_1311 m190_1312 hl (by omega) ?_
  refine h_cv (k := 57) (p := 89) (args := [.int (xs.getD (6 * q + 1) 0)]) (rest := []) m190_1313 cn_183 (Nat.le_of_ble_eq_true rfl) rfl rfl rfl (t_57 _ _) (Nat.le_of_ble_eq_true rfl) ?_
  refine WP_m xs 1299 _ _ _ _ _ _ _ (fun r h1 hr1 => ?_) g2
  obtain ⟨z2, m2, rfl, ez, rfl, R2⟩ := hr1
  refine gwr ?_
  refine g_pop m190_1316 rfl ?_
  refine g_goto m190_1317 ?_
  exact hcont _ _ _ _ _ (by omega) (by omega) R2
set_option maxRecDepth 20000 in
set_option maxHeartbeats 4000000 in
theorem lk_34 (R : Rel2 m m ln N q) (hq : 6 * q + 6 ≤ xs.length) (hl : xs.length ≤ 3072) (hmc : 3 ≤ mc) (hms : 102 ≤ ms) (hcont : ∀ (m2 : MW) (ln2 : Nat → Nat) (N2 mc2 ms2 : Nat), mc ≤ mc2 + 3 → ms ≤ ms2 + 102 → Rel2 m2 m2 ln2 N2 (q + 1) → gw xs (WP xs 1299) 190 Q 1428 [some (.ref 0), some (.ref 32), some (.ref 89), some (.int (nI (6 * q)))] [] (H m2 ln2 N2) mc2 ms2) : gw xs (WP xs 1299) 190 Q 1320 [some (.ref 0), some (.ref 32), some (.ref 89), some (.int (nI (6 * q)))] [] (H m ln N) mc ms := by
  refine g_aload_n m190_1320 rfl ?_
  refine h_cv (k := 0) (p := 32) (args := []) (rest := []) m190_1321 cn_100 (Nat.le_of_ble_eq_true rfl) rfl rfl rfl (t_0 _ _) (Nat.le_of_ble_eq_true rfl) ?_
  refine WP_m xs 1299 _ _ _ _ _ _ _ (fun r h1 hr1 => ?_) (p_image R (by omega))
  obtain ⟨z, m1, ln1, N1, rfl, rfl, g2⟩ := hr1
  refine gwr ?_
  refine g_pop m190_1324 rfl ?_
  refine g_aload_n m190_1325 rfl ?_
  refine h_cv (k := 57) (p := 89) (args := []) (rest := []) m190_1326 cn_184 (Nat.le_of_ble_eq_true rfl) rfl rfl rfl (t_57 _ _) (Nat.le_of_ble_eq_true rfl) ?_
  refine WP_m xs 1299 _ _ _ _ _ _ _ (fun r h1 hr1 => ?_) g2
  obtain ⟨z2, m2, rfl, ez, rfl, R2⟩ := hr1
  refine gwr ?_
  refine g_pop m190_1329 rfl ?_
  refine g_goto m190_1330 ?_
  exact hcont _ _ _ _ _ (by omega) (by omega) R2
set_option maxRecDepth 20000 in
set_option maxHeartbeats 4000000 in
theorem lk_35 (R : Rel2 m m ln N q) (hq : 6 * q + 6 ≤ xs.length) (hl : xs.length ≤ 3072) (hmc : 3 ≤ mc) (hms : 102 ≤ ms) (hcont : ∀ (m2 : MW) (ln2 : Nat → Nat) (N2 mc2 ms2 : Nat), mc ≤ mc2 + 3 → ms ≤ ms2 + 102 → Rel2 m2 m2 ln2 N2 (q + 1) → gw xs (WP xs 1299) 190 Q 1428 [some (.ref 0), some (.ref 32), some (.ref 89), some (.int (nI (6 * q)))] [] (H m2 ln2 N2) mc2 ms2) : gw xs (WP xs 1299) 190 Q 1333 [some (.ref 0), some (.ref 32), some (.ref 89), some (.int (nI (6 * q)))] [] (H m ln N) mc ms := by
  refine g_aload_n m190_1333 rfl ?_
  refine h_cv (k := 0) (p := 32) (args := []) (rest := []) m190_1334 cn_101 (Nat.le_of_ble_eq_true rfl) rfl rfl rfl (t_0 _ _) (Nat.le_of_ble_eq_true rfl) ?_
  refine WP_m xs 1299 _ _ _ _ _ _ _ (fun r h1 hr1 => ?_) (p_restore R (by omega))
  obtain ⟨z, m1, ln1, N1, rfl, rfl, g2⟩ := hr1
  refine gwr ?_
  refine g_pop m190_1337 rfl ?_
  refine g_aload_n m190_1338 rfl ?_
  refine h_cv (k := 57) (p := 89) (args := []) (rest := []) m190_1339 cn_185 (Nat.le_of_ble_eq_true rfl) rfl rfl rfl (t_57 _ _) (Nat.le_of_ble_eq_true rfl) ?_
  refine WP_m xs 1299 _ _ _ _ _ _ _ (fun r h1 hr1 => ?_) g2
  obtain ⟨z2, m2, rfl, ez, rfl, R2⟩ := hr1
  refine gwr ?_
  refine g_pop m190_1342 rfl ?_
  refine g_goto m190_1343 ?_
  exact hcont _ _ _ _ _ (by omega) (by omega) R2
set_option maxRecDepth 20000 in
set_option maxHeartbeats 4000000 in
theorem lk_36 (R : Rel2 m m ln N q) (hq : 6 * q + 6 ≤ xs.length) (hl : xs.length ≤ 3072) (hmc : 3 ≤ mc) (hms : 102 ≤ ms) (hcont : ∀ (m2 : MW) (ln2 : Nat → Nat) (N2 mc2 ms2 : Nat), mc ≤ mc2 + 3 → ms ≤ ms2 + 102 → Rel2 m2 m2 ln2 N2 (q + 1) → gw xs (WP xs 1299) 190 Q 1428 [some (.ref 0), some (.ref 32), some (.ref 89), some (.int (nI (6 * q)))] [] (H m2 ln2 N2) mc2 ms2) : gw xs (WP xs 1299) 190 Q 1346 [some (.ref 0), some (.ref 32), some (.ref 89), some (.int (nI (6 * q)))] [] (H m ln N) mc ms := by
  refine g_aload_n m190_1346 rfl ?_
  refine la (a := 1) m190_1347 m190_1348 m190_1349 rfl m190_1350 m190_1351 hl (by omega) ?_
  refine h_cv (k := 0) (p := 32) (args := [.int (xs.getD (6 * q + 1) 0)]) (rest := []) m190_1352 cn_102 (Nat.le_of_ble_eq_true rfl) rfl rfl rfl (t_0 _ _) (Nat.le_of_ble_eq_true rfl) ?_
  refine WP_m xs 1299 _ _ _ _ _ _ _ (fun r h1 hr1 => ?_) (p_tell R (by omega))
  obtain ⟨z, m1, ln1, N1, rfl, rfl, g2⟩ := hr1
  refine gwr ?_
  refine g_pop m190_1355 rfl ?_
  refine g_aload_n m190_1356 rfl ?_
  refine la (a := 1) m190_1357 m190_1358 m190_1359 rfl m190_1360 m190_1361 hl (by omega) ?_
  refine h_cv (k := 57) (p := 89) (args := [.int (xs.getD (6 * q + 1) 0)]) (rest := []) m190_1362 cn_186 (Nat.le_of_ble_eq_true rfl) rfl rfl rfl (t_57 _ _) (Nat.le_of_ble_eq_true rfl) ?_
  refine WP_m xs 1299 _ _ _ _ _ _ _ (fun r h1 hr1 => ?_) g2
  obtain ⟨z2, m2, rfl, ez, rfl, R2⟩ := hr1
  refine gwr ?_
  refine g_pop m190_1365 rfl ?_
  refine g_goto m190_1366 ?_
  exact hcont _ _ _ _ _ (by omega) (by omega) R2
set_option maxRecDepth 20000 in
set_option maxHeartbeats 4000000 in
theorem lk_37 (R : Rel2 m m ln N q) (hq : 6 * q + 6 ≤ xs.length) (hl : xs.length ≤ 3072) (hmc : 3 ≤ mc) (hms : 102 ≤ ms) (hcont : ∀ (m2 : MW) (ln2 : Nat → Nat) (N2 mc2 ms2 : Nat), mc ≤ mc2 + 3 → ms ≤ ms2 + 102 → Rel2 m2 m2 ln2 N2 (q + 1) → gw xs (WP xs 1299) 190 Q 1428 [some (.ref 0), some (.ref 32), some (.ref 89), some (.int (nI (6 * q)))] [] (H m2 ln2 N2) mc2 ms2) : gw xs (WP xs 1299) 190 Q 1369 [some (.ref 0), some (.ref 32), some (.ref 89), some (.int (nI (6 * q)))] [] (H m ln N) mc ms := by
  refine g_aload_n m190_1369 rfl ?_
  refine h_cv (k := 0) (p := 32) (args := []) (rest := []) m190_1370 cn_103 (Nat.le_of_ble_eq_true rfl) rfl rfl rfl (t_0 _ _) (Nat.le_of_ble_eq_true rfl) ?_
  refine WP_m xs 1299 _ _ _ _ _ _ _ (fun r h1 hr1 => ?_) (p_check R (by omega))
  obtain ⟨z, m1, ln1, N1, rfl, rfl, g2⟩ := hr1
  refine gwr ?_
  refine g_pop m190_1373 rfl ?_
  refine g_aload_n m190_1374 rfl ?_
  refine h_cv (k := 57) (p := 89) (args := []) (rest := []) m190_1375 cn_187 (Nat.le_of_ble_eq_true rfl) rfl rfl rfl (t_57 _ _) (Nat.le_of_ble_eq_true rfl) ?_
  refine WP_m xs 1299 _ _ _ _ _ _ _ (fun r h1 hr1 => ?_) g2
  obtain ⟨z2, m2, rfl, ez, rfl, R2⟩ := hr1
  refine gwr ?_
  refine g_pop m190_1378 rfl ?_
  refine g_goto m190_1379 ?_
  exact hcont _ _ _ _ _ (by omega) (by omega) R2
set_option maxRecDepth 20000 in
set_option maxHeartbeats 4000000 in
theorem lk_38 (R : Rel2 m m ln N q) (hq : 6 * q + 6 ≤ xs.length) (hl : xs.length ≤ 3072) (hmc : 3 ≤ mc) (hms : 102 ≤ ms) (hcont : ∀ (m2 : MW) (ln2 : Nat → Nat) (N2 mc2 ms2 : Nat), mc ≤ mc2 + 3 → ms ≤ ms2 + 102 → Rel2 m2 m2 ln2 N2 (q + 1) → gw xs (WP xs 1299) 190 Q 1428 [some (.ref 0), some (.ref 32), some (.ref 89), some (.int (nI (6 * q)))] [] (H m2 ln2 N2) mc2 ms2) : gw xs (WP xs 1299) 190 Q 1382 [some (.ref 0), some (.ref 32), some (.ref 89), some (.int (nI (6 * q)))] [] (H m ln N) mc ms := by
  refine g_aload_n m190_1382 rfl ?_
  refine la (a := 1) m190_1383 m190_1384 m190_1385 rfl m190_1386 m190_1387 hl (by omega) ?_
  refine h_cv (k := 0) (p := 32) (args := [.int (xs.getD (6 * q + 1) 0)]) (rest := []) m190_1388 cn_104 (Nat.le_of_ble_eq_true rfl) rfl rfl rfl (t_0 _ _) (Nat.le_of_ble_eq_true rfl) ?_
  refine WP_m xs 1299 _ _ _ _ _ _ _ (fun r h1 hr1 => ?_) (p_count R (by omega))
  obtain ⟨z, m1, ln1, N1, rfl, rfl, g2⟩ := hr1
  refine gwr ?_
  refine g_pop m190_1391 rfl ?_
  refine g_aload_n m190_1392 rfl ?_
  refine la (a := 1) m190_1393 m190_1394 m190_1395 rfl m190_1396 m190_1397 hl (by omega) ?_
  refine h_cv (k := 57) (p := 89) (args := [.int (xs.getD (6 * q + 1) 0)]) (rest := []) m190_1398 cn_188 (Nat.le_of_ble_eq_true rfl) rfl rfl rfl (t_57 _ _) (Nat.le_of_ble_eq_true rfl) ?_
  refine WP_m xs 1299 _ _ _ _ _ _ _ (fun r h1 hr1 => ?_) g2
  obtain ⟨z2, m2, rfl, ez, rfl, R2⟩ := hr1
  refine gwr ?_
  refine g_pop m190_1401 rfl ?_
  refine g_goto m190_1402 ?_
  exact hcont _ _ _ _ _ (by omega) (by omega) R2
set_option maxRecDepth 20000 in
set_option maxHeartbeats 4000000 in
theorem lk_39 (R : Rel2 m m ln N q) (hq : 6 * q + 6 ≤ xs.length) (hl : xs.length ≤ 3072) (hmc : 3 ≤ mc) (hms : 102 ≤ ms) (hcont : ∀ (m2 : MW) (ln2 : Nat → Nat) (N2 mc2 ms2 : Nat), mc ≤ mc2 + 3 → ms ≤ ms2 + 102 → Rel2 m2 m2 ln2 N2 (q + 1) → gw xs (WP xs 1299) 190 Q 1428 [some (.ref 0), some (.ref 32), some (.ref 89), some (.int (nI (6 * q)))] [] (H m2 ln2 N2) mc2 ms2) : gw xs (WP xs 1299) 190 Q 1405 [some (.ref 0), some (.ref 32), some (.ref 89), some (.int (nI (6 * q)))] [] (H m ln N) mc ms := by
  refine g_aload_n m190_1405 rfl ?_
  refine la (a := 1) m190_1406 m190_1407 m190_1408 rfl m190_1409 m190_1410 hl (by omega) ?_
  refine h_cv (k := 0) (p := 32) (args := [.int (xs.getD (6 * q + 1) 0)]) (rest := []) m190_1411 cn_105 (Nat.le_of_ble_eq_true rfl) rfl rfl rfl (t_0 _ _) (Nat.le_of_ble_eq_true rfl) ?_
  refine WP_m xs 1299 _ _ _ _ _ _ _ (fun r h1 hr1 => ?_) (p_told R (by omega))
  obtain ⟨z, m1, ln1, N1, rfl, rfl, g2⟩ := hr1
  refine gwr ?_
  refine g_aload_n m190_1414 rfl ?_
  refine la (a := 1) m190_1415 m190_1416 m190_1417 rfl m190_1418 m190_1419 hl (by omega) ?_
  refine h_cv (k := 57) (p := 89) (args := [.int (xs.getD (6 * q + 1) 0)]) (rest := [.int z]) m190_1420 cn_189 (Nat.le_of_ble_eq_true rfl) rfl rfl rfl (t_57 _ _) (Nat.le_of_ble_eq_true rfl) ?_
  refine WP_m xs 1299 _ _ _ _ _ _ _ (fun r h1 hr1 => ?_) g2
  obtain ⟨z2, m2, rfl, ez, rfl, R2⟩ := hr1
  refine gwr ?_
  refine g_ic_eqT m190_1423 (ez trivial).symm ?_
  exact hcont _ _ _ _ _ (by omega) (by omega) R2
theorem sw_c {j : Nat} (h : j < 64) : ((nI j).toInt < 0 ∨ 39 < (nI j).toInt) ↔ 40 ≤ j := by
  rw [nI_toInt (by omega)]
  omega
theorem and_63 (x : Int32) : ∃ j, j < 64 ∧ x &&& 63 = nI j := by
  have h : (x &&& 63).toBitVec.toNat = x.toBitVec.toNat % 64 := by
    show (x.toBitVec &&& (63 : Int32).toBitVec).toNat = _
    rw [BitVec.toNat_and]
    exact Nat.and_two_pow_sub_one_eq_mod _ 6
  refine ⟨x.toBitVec.toNat % 64, Nat.mod_lt _ (by decide), nI_ofT ?_ (by omega)⟩
  show (x &&& 63).toBitVec.toInt = _
  rw [BitVec.toInt_eq_toNat_cond, h]
  rw [if_pos (by omega)]
set_option maxRecDepth 20000 in
set_option maxHeartbeats 4000000 in
theorem lw_loop (hl : xs.length ≤ 3072) : ∀ (r q : Nat) (m : MW) (ln : Nat → Nat) (N mc ms : Nat), q + r = 513 → 6 * q ≤ xs.length → Rel2 m m ln N q → 3 * r ≤ mc → 102 * r ≤ ms → gw xs (WP xs 1299) 190 (fun r _ => r = some (.int 1)) 18 [some (.ref 0), some (.ref 32), some (.ref 89), some (.int (nI (6 * q)))] [] (H m ln N) mc ms
  | 0, q, m, ln, N, mc, ms, h1, h2, R, h3, h4 => by omega
  | r + 1, q, m, ln, N, mc, ms, h1, h2, R, h3, h4 => by
    refine g_iload_n m190_18 rfl ?_
    refine g_aload_n m190_19 rfl ?_
    refine g_alen (n := xs.length) m190_20 (show smC xs _ 0 = some (.inl (0, xs)) from rfl) (Or.inl rfl) rfl ?_
    refine g_bipush m190_21 ?_
    refine g_isub m190_23 rfl ?_
    have eL : (Int32.ofNat xs.length - 6).toInt = (xs.length : Int) - 6 := sub_k (nI_toInt (n := xs.length) (by omega)) (show (6 : Int32).toInt = 6 from rfl) (by omega) (by omega)
    refine h_ic_gt (xi := ((6 * q : Nat) : Int)) (zi := (xs.length : Int) - 6) m190_24 (nI_toInt (by omega)) eL (fun c1 => ?_) (fun c1 => ?_)
    · refine g_iconst m190_1434 ?_
      refine g_zret m190_1435 rt_190 (Or.inr rfl) ?_
      rfl
    · have hq : 6 * q + 6 ≤ xs.length := by omega
      refine g_aload_n m190_27 rfl ?_
      refine g_iload_n m190_28 rfl ?_
      refine g_iald (x := xs.getD (6 * q) 0) m190_29 (show smC xs _ 0 = some (.inl (0, xs)) from rfl) (vp_in_nI (show 6 * q < xs.length by omega) (by omega)) (by rw [nI_clamp (by omega)]) ?_
      refine g_bipush m190_30 ?_
      obtain ⟨j, hj, e⟩ := and_63 (xs.getD (6 * q) 0)
      refine g_iand (u := nI j) m190_32 e ?_
      have back : ∀ (m2 : MW) (ln2 : Nat → Nat) (N2 mc2 ms2 : Nat), mc ≤ mc2 + 3 → ms ≤ ms2 + 102 → Rel2 m2 m2 ln2 N2 (q + 1) → gw xs (WP xs 1299) 190 (fun r _ => r = some (.int 1)) 1428 [some (.ref 0), some (.ref 32), some (.ref 89), some (.int (nI (6 * q)))] [] (H m2 ln2 N2) mc2 ms2 := fun m2 ln2 N2 mc2 ms2 b1 b2 R2 => by
        refine g_iinc (L2 := [some (.ref 0), some (.ref 32), some (.ref 89), some (.int (nI (6 * (q + 1))))]) m190_1428 rfl (nI_add (6 * q) 6) rfl rfl ?_
        refine g_goto m190_1431 ?_
        exact lw_loop hl r (q + 1) m2 ln2 N2 mc2 ms2 (by omega) (by omega) R2 (by omega) (by omega)
      refine gs m190_33 ?_
      by_cases h40 : 40 ≤ j
      · refine ifT ((sw_c hj).mpr h40) ?_
        exact back m ln N mc ms (by omega) (by omega) (R.nx (by omega))
      · refine ifF (fun z => h40 ((sw_c hj).mp z)) ?_
        rcases (show j = 0 ∨ j = 1 ∨ j = 2 ∨ j = 3 ∨ j = 4 ∨ j = 5 ∨ j = 6 ∨ j = 7 ∨ j = 8 ∨ j = 9 ∨ j = 10 ∨ j = 11 ∨ j = 12 ∨ j = 13 ∨ j = 14 ∨ j = 15 ∨ j = 16 ∨ j = 17 ∨ j = 18 ∨ j = 19 ∨ j = 20 ∨ j = 21 ∨ j = 22 ∨ j = 23 ∨ j = 24 ∨ j = 25 ∨ j = 26 ∨ j = 27 ∨ j = 28 ∨ j = 29 ∨ j = 30 ∨ j = 31 ∨ j = 32 ∨ j = 33 ∨ j = 34 ∨ j = 35 ∨ j = 36 ∨ j = 37 ∨ j = 38 ∨ j = 39 by omega) with rfl | rfl | rfl | rfl | rfl | rfl | rfl | rfl | rfl | rfl | rfl | rfl | rfl | rfl | rfl | rfl | rfl | rfl | rfl | rfl | rfl | rfl | rfl | rfl | rfl | rfl | rfl | rfl | rfl | rfl | rfl | rfl | rfl | rfl | rfl | rfl | rfl | rfl | rfl | rfl
        · exact lk_0 R hq hl (by omega) (by omega) back
        · exact lk_1 R hq hl (by omega) (by omega) back
        · exact lk_2 R hq hl (by omega) (by omega) back
        · exact lk_3 R hq hl (by omega) (by omega) back
        · exact lk_4 R hq hl (by omega) (by omega) back
        · exact lk_5 R hq hl (by omega) (by omega) back
        · exact lk_6 R hq hl (by omega) (by omega) back
        · exact lk_7 R hq hl (by omega) (by omega) back
        · exact lk_8 R hq hl (by omega) (by omega) back
        · exact lk_9 R hq hl (by omega) (by omega) back
        · exact lk_10 R hq hl (by omega) (by omega) back
        · exact lk_11 R hq hl (by omega) (by omega) back
        · exact lk_12 R hq hl (by omega) (by omega) back
        · exact lk_13 R hq hl (by omega) (by omega) back
        · exact lk_14 R hq hl (by omega) (by omega) back
        · exact lk_15 R hq hl (by omega) (by omega) back
        · exact lk_16 R hq hl (by omega) (by omega) back
        · exact lk_17 R hq hl (by omega) (by omega) back
        · exact lk_18 R hq hl (by omega) (by omega) back
        · exact lk_19 R hq hl (by omega) (by omega) back
        · exact lk_20 R hq hl (by omega) (by omega) back
        · exact lk_21 R hq hl (by omega) (by omega) back
        · exact lk_22 R hq hl (by omega) (by omega) back
        · exact lk_23 R hq hl (by omega) (by omega) back
        · exact lk_24 R hq hl (by omega) (by omega) back
        · exact lk_25 R hq hl (by omega) (by omega) back
        · exact lk_26 R hq hl (by omega) (by omega) back
        · exact lk_27 R hq hl (by omega) (by omega) back
        · exact lk_28 R hq hl (by omega) (by omega) back
        · exact lk_29 R hq hl (by omega) (by omega) back
        · exact lk_30 R hq hl (by omega) (by omega) back
        · exact lk_31 R hq hl (by omega) (by omega) back
        · exact lk_32 R hq hl (by omega) (by omega) back
        · exact lk_33 R hq hl (by omega) (by omega) back
        · exact lk_34 R hq hl (by omega) (by omega) back
        · exact lk_35 R hq hl (by omega) (by omega) back
        · exact lk_36 R hq hl (by omega) (by omega) back
        · exact lk_37 R hq hl (by omega) (by omega) back
        · exact lk_38 R hq hl (by omega) (by omega) back
        · exact lk_39 R hq hl (by omega) (by omega) back
set_option maxRecDepth 20000 in
set_option maxHeartbeats 4000000 in
theorem law_walk (xs : List Int32) (hl : xs.length ≤ 3072) : WP xs 1300 190 600000 7302250 [.ref 0] [] (fun r _ => r = some (.int 1)) := by
  refine wp_x mx_190 (L := [some (.ref 0), none, none, none]) (Nat.le_of_ble_eq_true rfl) rfl ?_
  refine g_new m190_0 (by decide) (by decide) ?_
  refine g_dup m190_3 rfl ?_
  refine g_ci (args := []) (rest := [.ref 32]) (q := 32) 10 (Or.inl rfl) 56 742 m190_4 (Nat.le_of_ble_eq_true rfl) rfl rfl (by decide) (Nat.le_of_ble_eq_true rfl) (by decide) (by decide) ?_
  refine c_initX (d := 1297) ?_
  refine gwr0 ?_
  refine g_astore_n (L2 := [some (.ref 0), some (.ref 32), none, none]) m190_7 rfl rfl ?_
  refine g_new m190_8 (by decide) (by decide) ?_
  refine g_dup m190_11 rfl ?_
  refine g_ci (args := []) (rest := [.ref 89]) (q := 89) 10 (Or.inl rfl) 11 1198 m190_12 (Nat.le_of_ble_eq_true rfl) rfl rfl (by decide) (Nat.le_of_ble_eq_true rfl) (by decide) (by decide) ?_
  refine c_initM (d := 1297) ?_
  refine gwr0 ?_
  refine g_astore_n (L2 := [some (.ref 0), some (.ref 32), some (.ref 89), none]) m190_15 rfl rfl ?_
  refine g_iconst m190_16 ?_
  refine g_istore_n (L2 := [some (.ref 0), some (.ref 32), some (.ref 89), some (.int (nI (6 * 0)))]) m190_17 rfl rfl ?_
  refine gwh H_0 ?_
  exact lw_loop hl 513 0 m0 (fun _ => 0) 0 _ _ (by decide) (by omega) Rel_0 (by decide) (by decide)
end
end
