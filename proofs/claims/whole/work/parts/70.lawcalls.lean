/-! ===== the law, call by call ===== -/
theorem law_cmp (v : Int64) : lg_cmp v v = 0 := by
  unfold lg_cmp
  simp
set_option maxHeartbeats 1000000 in
set_option maxRecDepth 20000 in
theorem law_c0 {b L i : Nat} {xs : Nat → Int32} {I : zI} {J : zJ} {S : zS} (hL : L ≤ 3072) (hi : i + 6 ≤ L) (hV : vC I J S) (hW : vM I J S) (K : ∀ I' J' S', vC I' J' S' → vM I' J' S' → GL b L xs 1469 [.ref 97, .ref 0, .ref 79, .int (nI i)] [] I' J') : GL b L xs 200 [.ref 97, .ref 0, .ref 79, .int (nI i)] [] I J := by
  have hC0 := kC_A.1
  have hM0 := kM_A.1
  refine g_aload_n (t := ML) (pc := 200) dL_law_200 rfl rfl ?_
  refine gl_arg (pc := 201) (j := 1) dL_law_201 dL_law_202 dL_law_203 dL_law_204 dL_law_205 (by decide) hL (by omega) ?_
  refine gl_arg (pc := 206) (j := 2) dL_law_206 dL_law_207 dL_law_208 dL_law_209 dL_law_210 (by decide) hL (by omega) ?_
  refine g_callV (t := ML) (pc := 211) (c_X9_size kC_A hV) dL_law_211 l_RL_13 m_MX9_size n_MX9_size e_MX9_size rfl ⟨Nat.le_of_ble_eq_true rfl, Nat.le_of_ble_eq_true rfl⟩ ⟨Nat.le_of_ble_eq_true rfl, Nat.le_of_ble_eq_true rfl⟩ hC0 rfl rfl (Nat.le_of_ble_eq_true rfl) ?_
  rintro r I1 J1 ⟨hr, hV1, hI1, hJ1⟩
  obtain ⟨v, rfl⟩ : ∃ v, r = .int v := ⟨_, hr.trans v_fsize.choose_spec⟩
  try dsimp only [zov, Option.toList, List.cons_append, List.nil_append]
  refine g_aload_n (t := ML) (pc := 214) dL_law_214 rfl rfl ?_
  refine gl_arg (pc := 215) (j := 1) dL_law_215 dL_law_216 dL_law_217 dL_law_218 dL_law_219 (by decide) hL (by omega) ?_
  refine gl_arg (pc := 220) (j := 2) dL_law_220 dL_law_221 dL_law_222 dL_law_223 dL_law_224 (by decide) hL (by omega) ?_
  refine g_callV (t := ML) (pc := 225) (c_X10_size kM_A (vM_to hW hI1 hJ1)) dL_law_225 l_RL_17 m_MX10_size n_MX10_size e_MX10_size rfl ⟨Nat.le_of_ble_eq_true rfl, Nat.le_of_ble_eq_true rfl⟩ ⟨Nat.le_of_ble_eq_true rfl, Nat.le_of_ble_eq_true rfl⟩ hM0 rfl rfl (Nat.le_of_ble_eq_true rfl) ?_
  rintro r2 I2 J2 ⟨hr2, hW2, hI2, hJ2⟩
  obtain rfl : r2 = .int v := hr2.trans hr.symm
  try dsimp only [zov, Option.toList, List.cons_append, List.nil_append]
  exact g_icmp_eq (t := ML) (pc := 228) (tgt := 1469) dL_law_228 (by decide) (fun _ => K I2 J2 _ (vC_to hV1 hI2 hJ2) hW2) (fun h => absurd rfl h)
set_option maxHeartbeats 1000000 in
set_option maxRecDepth 20000 in
theorem law_c1 {b L i : Nat} {xs : Nat → Int32} {I : zI} {J : zJ} {S : zS} (hL : L ≤ 3072) (hi : i + 6 ≤ L) (hV : vC I J S) (hW : vM I J S) (K : ∀ I' J' S', vC I' J' S' → vM I' J' S' → GL b L xs 1469 [.ref 97, .ref 0, .ref 79, .int (nI i)] [] I' J') : GL b L xs 233 [.ref 97, .ref 0, .ref 79, .int (nI i)] [] I J := by
  have hC0 := kC_A.1
  have hM0 := kM_A.1
  refine g_aload_n (t := ML) (pc := 233) dL_law_233 rfl rfl ?_
  refine gl_arg (pc := 234) (j := 1) dL_law_234 dL_law_235 dL_law_236 dL_law_237 dL_law_238 (by decide) hL (by omega) ?_
  refine gl_arg (pc := 239) (j := 2) dL_law_239 dL_law_240 dL_law_241 dL_law_242 dL_law_243 (by decide) hL (by omega) ?_
  refine gl_arg (pc := 244) (j := 3) dL_law_244 dL_law_245 dL_law_246 dL_law_247 dL_law_248 (by decide) hL (by omega) ?_
  refine g_callV (t := ML) (pc := 249) (c_X9_tell kC_A hV) dL_law_249 l_RL_18 m_MX9_tell n_MX9_tell e_MX9_tell rfl ⟨Nat.le_of_ble_eq_true rfl, Nat.le_of_ble_eq_true rfl⟩ ⟨Nat.le_of_ble_eq_true rfl, Nat.le_of_ble_eq_true rfl⟩ hC0 rfl rfl (Nat.le_of_ble_eq_true rfl) ?_
  rintro r I1 J1 ⟨hr, hV1, hI1, hJ1⟩
  obtain ⟨v, rfl⟩ : ∃ v, r = .int v := ⟨_, hr.trans v_ftell.choose_spec⟩
  try dsimp only [zov, Option.toList, List.cons_append, List.nil_append]
  refine g_aload_n (t := ML) (pc := 252) dL_law_252 rfl rfl ?_
  refine gl_arg (pc := 253) (j := 1) dL_law_253 dL_law_254 dL_law_255 dL_law_256 dL_law_257 (by decide) hL (by omega) ?_
  refine gl_arg (pc := 258) (j := 2) dL_law_258 dL_law_259 dL_law_260 dL_law_261 dL_law_262 (by decide) hL (by omega) ?_
  refine gl_arg (pc := 263) (j := 3) dL_law_263 dL_law_264 dL_law_265 dL_law_266 dL_law_267 (by decide) hL (by omega) ?_
  refine g_callV (t := ML) (pc := 268) (c_X10_tell kM_A (vM_to hW hI1 hJ1)) dL_law_268 l_RL_22 m_MX10_tell n_MX10_tell e_MX10_tell rfl ⟨Nat.le_of_ble_eq_true rfl, Nat.le_of_ble_eq_true rfl⟩ ⟨Nat.le_of_ble_eq_true rfl, Nat.le_of_ble_eq_true rfl⟩ hM0 rfl rfl (Nat.le_of_ble_eq_true rfl) ?_
  rintro r2 I2 J2 ⟨hr2, hW2, hI2, hJ2⟩
  obtain rfl : r2 = .int v := hr2.trans hr.symm
  try dsimp only [zov, Option.toList, List.cons_append, List.nil_append]
  exact g_icmp_eq (t := ML) (pc := 271) (tgt := 1469) dL_law_271 (by decide) (fun _ => K I2 J2 _ (vC_to hV1 hI2 hJ2) hW2) (fun h => absurd rfl h)
set_option maxHeartbeats 1000000 in
set_option maxRecDepth 20000 in
theorem law_c2 {b L i : Nat} {xs : Nat → Int32} {I : zI} {J : zJ} {S : zS} (hL : L ≤ 3072) (hi : i + 6 ≤ L) (hV : vC I J S) (hW : vM I J S) (K : ∀ I' J' S', vC I' J' S' → vM I' J' S' → GL b L xs 1469 [.ref 97, .ref 0, .ref 79, .int (nI i)] [] I' J') : GL b L xs 276 [.ref 97, .ref 0, .ref 79, .int (nI i)] [] I J := by
  have hC0 := kC_A.1
  have hM0 := kM_A.1
  refine g_aload_n (t := ML) (pc := 276) dL_law_276 rfl rfl ?_
  refine gl_arg (pc := 277) (j := 1) dL_law_277 dL_law_278 dL_law_279 dL_law_280 dL_law_281 (by decide) hL (by omega) ?_
  refine gl_arg (pc := 282) (j := 2) dL_law_282 dL_law_283 dL_law_284 dL_law_285 dL_law_286 (by decide) hL (by omega) ?_
  refine gl_arg (pc := 287) (j := 3) dL_law_287 dL_law_288 dL_law_289 dL_law_290 dL_law_291 (by decide) hL (by omega) ?_
  refine g_callV (t := ML) (pc := 292) (c_X9_mark kC_A hV) dL_law_292 l_RL_23 m_MX9_mark n_MX9_mark e_MX9_mark rfl ⟨Nat.le_of_ble_eq_true rfl, Nat.le_of_ble_eq_true rfl⟩ ⟨Nat.le_of_ble_eq_true rfl, Nat.le_of_ble_eq_true rfl⟩ hC0 rfl rfl (Nat.le_of_ble_eq_true rfl) ?_
  rintro r I1 J1 ⟨hr, hV1, hI1, hJ1⟩
  obtain ⟨v, rfl⟩ : ∃ v, r = .int v := ⟨_, hr.trans v_fmark.choose_spec⟩
  try dsimp only [zov, Option.toList, List.cons_append, List.nil_append]
  refine g_aload_n (t := ML) (pc := 295) dL_law_295 rfl rfl ?_
  refine gl_arg (pc := 296) (j := 1) dL_law_296 dL_law_297 dL_law_298 dL_law_299 dL_law_300 (by decide) hL (by omega) ?_
  refine gl_arg (pc := 301) (j := 2) dL_law_301 dL_law_302 dL_law_303 dL_law_304 dL_law_305 (by decide) hL (by omega) ?_
  refine gl_arg (pc := 306) (j := 3) dL_law_306 dL_law_307 dL_law_308 dL_law_309 dL_law_310 (by decide) hL (by omega) ?_
  refine g_callV (t := ML) (pc := 311) (c_X10_mark kM_A (vM_to hW hI1 hJ1)) dL_law_311 l_RL_26 m_MX10_mark n_MX10_mark e_MX10_mark rfl ⟨Nat.le_of_ble_eq_true rfl, Nat.le_of_ble_eq_true rfl⟩ ⟨Nat.le_of_ble_eq_true rfl, Nat.le_of_ble_eq_true rfl⟩ hM0 rfl rfl (Nat.le_of_ble_eq_true rfl) ?_
  rintro r2 I2 J2 ⟨hr2, hW2, hI2, hJ2⟩
  obtain rfl : r2 = .int v := hr2.trans hr.symm
  try dsimp only [zov, Option.toList, List.cons_append, List.nil_append]
  exact g_icmp_eq (t := ML) (pc := 314) (tgt := 1469) dL_law_314 (by decide) (fun _ => K I2 J2 _ (vC_to hV1 hI2 hJ2) hW2) (fun h => absurd rfl h)
set_option maxHeartbeats 1000000 in
set_option maxRecDepth 20000 in
theorem law_c3 {b L i : Nat} {xs : Nat → Int32} {I : zI} {J : zJ} {S : zS} (hL : L ≤ 3072) (hi : i + 6 ≤ L) (hV : vC I J S) (hW : vM I J S) (K : ∀ I' J' S', vC I' J' S' → vM I' J' S' → GL b L xs 1469 [.ref 97, .ref 0, .ref 79, .int (nI i)] [] I' J') : GL b L xs 319 [.ref 97, .ref 0, .ref 79, .int (nI i)] [] I J := by
  have hC0 := kC_A.1
  have hM0 := kM_A.1
  refine g_aload_n (t := ML) (pc := 319) dL_law_319 rfl rfl ?_
  refine gl_arg (pc := 320) (j := 1) dL_law_320 dL_law_321 dL_law_322 dL_law_323 dL_law_324 (by decide) hL (by omega) ?_
  refine gl_arg (pc := 325) (j := 2) dL_law_325 dL_law_326 dL_law_327 dL_law_328 dL_law_329 (by decide) hL (by omega) ?_
  refine gl_arg (pc := 330) (j := 3) dL_law_330 dL_law_331 dL_law_332 dL_law_333 dL_law_334 (by decide) hL (by omega) ?_
  refine g_callV (t := ML) (pc := 335) (c_X9_margin kC_A hV) dL_law_335 l_RL_27 m_MX9_margin n_MX9_margin e_MX9_margin rfl ⟨Nat.le_of_ble_eq_true rfl, Nat.le_of_ble_eq_true rfl⟩ ⟨Nat.le_of_ble_eq_true rfl, Nat.le_of_ble_eq_true rfl⟩ hC0 rfl rfl (Nat.le_of_ble_eq_true rfl) ?_
  rintro r I1 J1 ⟨hr, hV1, hI1, hJ1⟩
  obtain ⟨v, rfl⟩ : ∃ v, r = .int v := ⟨_, hr.trans v_fmargin.choose_spec⟩
  try dsimp only [zov, Option.toList, List.cons_append, List.nil_append]
  refine g_aload_n (t := ML) (pc := 338) dL_law_338 rfl rfl ?_
  refine gl_arg (pc := 339) (j := 1) dL_law_339 dL_law_340 dL_law_341 dL_law_342 dL_law_343 (by decide) hL (by omega) ?_
  refine gl_arg (pc := 344) (j := 2) dL_law_344 dL_law_345 dL_law_346 dL_law_347 dL_law_348 (by decide) hL (by omega) ?_
  refine gl_arg (pc := 349) (j := 3) dL_law_349 dL_law_350 dL_law_351 dL_law_352 dL_law_353 (by decide) hL (by omega) ?_
  refine g_callV (t := ML) (pc := 354) (c_X10_margin kM_A (vM_to hW hI1 hJ1)) dL_law_354 l_RL_30 m_MX10_margin n_MX10_margin e_MX10_margin rfl ⟨Nat.le_of_ble_eq_true rfl, Nat.le_of_ble_eq_true rfl⟩ ⟨Nat.le_of_ble_eq_true rfl, Nat.le_of_ble_eq_true rfl⟩ hM0 rfl rfl (Nat.le_of_ble_eq_true rfl) ?_
  rintro r2 I2 J2 ⟨hr2, hW2, hI2, hJ2⟩
  obtain rfl : r2 = .int v := hr2.trans hr.symm
  try dsimp only [zov, Option.toList, List.cons_append, List.nil_append]
  exact g_icmp_eq (t := ML) (pc := 357) (tgt := 1469) dL_law_357 (by decide) (fun _ => K I2 J2 _ (vC_to hV1 hI2 hJ2) hW2) (fun h => absurd rfl h)
set_option maxHeartbeats 1000000 in
set_option maxRecDepth 20000 in
theorem law_c4 {b L i : Nat} {xs : Nat → Int32} {I : zI} {J : zJ} {S : zS} (hL : L ≤ 3072) (hi : i + 6 ≤ L) (hV : vC I J S) (hW : vM I J S) (K : ∀ I' J' S', vC I' J' S' → vM I' J' S' → GL b L xs 1469 [.ref 97, .ref 0, .ref 79, .int (nI i)] [] I' J') : GL b L xs 362 [.ref 97, .ref 0, .ref 79, .int (nI i)] [] I J := by
  have hC0 := kC_A.1
  have hM0 := kM_A.1
  by_cases hz : xs (i + 1) = 0
  · skip
    refine g_aload_n (t := ML) (pc := 362) dL_law_362 rfl rfl ?_
    refine gl_arg (pc := 363) (j := 1) dL_law_363 dL_law_364 dL_law_365 dL_law_366 dL_law_367 (by decide) hL (by omega) ?_
    refine g_if_eq (t := ML) (pc := 368) (tgt := 375) dL_law_368 (by decide) (fun _ => ?_) (fun h => absurd hz h)
    refine g_iconst (t := ML) (pc := 375) (v := nI 0) dL_law_375 (by decide) ?_
    refine g_callV (t := ML) (pc := 376) (c_X9_three kC_A hV (x := 0) (by decide)) dL_law_376 l_RL_31 m_MX9_three n_MX9_three e_MX9_three rfl ⟨Nat.le_of_ble_eq_true rfl, Nat.le_of_ble_eq_true rfl⟩ ⟨Nat.le_of_ble_eq_true rfl, Nat.le_of_ble_eq_true rfl⟩ hC0 rfl rfl (Nat.le_of_ble_eq_true rfl) ?_
    rintro r I1 J1 ⟨hr, hV1, hI1, hJ1⟩
    obtain ⟨v, rfl⟩ : ∃ v, r = .int v := ⟨_, hr.trans v_fthree.choose_spec⟩
    try dsimp only [zov, Option.toList, List.cons_append, List.nil_append]
    refine g_aload_n (t := ML) (pc := 379) dL_law_379 rfl rfl ?_
    refine gl_arg (pc := 380) (j := 1) dL_law_380 dL_law_381 dL_law_382 dL_law_383 dL_law_384 (by decide) hL (by omega) ?_
    refine g_if_eq (t := ML) (pc := 385) (tgt := 392) dL_law_385 (by decide) (fun _ => ?_) (fun h => absurd hz h)
    refine g_iconst (t := ML) (pc := 392) (v := nI 0) dL_law_392 (by decide) ?_
    refine g_callV (t := ML) (pc := 393) (c_X10_three kM_A (vM_to hW hI1 hJ1) (x := 0) (by decide)) dL_law_393 l_RL_35 m_MX10_three n_MX10_three e_MX10_three rfl ⟨Nat.le_of_ble_eq_true rfl, Nat.le_of_ble_eq_true rfl⟩ ⟨Nat.le_of_ble_eq_true rfl, Nat.le_of_ble_eq_true rfl⟩ hM0 rfl rfl (Nat.le_of_ble_eq_true rfl) ?_
    rintro r2 I2 J2 ⟨hr2, hW2, hI2, hJ2⟩
    obtain rfl : r2 = .int v := hr2.trans hr.symm
    try dsimp only [zov, Option.toList, List.cons_append, List.nil_append]
    exact g_icmp_eq (t := ML) (pc := 396) (tgt := 1469) dL_law_396 (by decide) (fun _ => K I2 J2 _ (vC_to hV1 hI2 hJ2) hW2) (fun h => absurd rfl h)
  · skip
    refine g_aload_n (t := ML) (pc := 362) dL_law_362 rfl rfl ?_
    refine gl_arg (pc := 363) (j := 1) dL_law_363 dL_law_364 dL_law_365 dL_law_366 dL_law_367 (by decide) hL (by omega) ?_
    refine g_if_eq (t := ML) (pc := 368) (tgt := 375) dL_law_368 (by decide) (fun h => absurd h hz) (fun _ => ?_)
    refine g_iconst (t := ML) (pc := 371) (v := nI 1) dL_law_371 (by decide) ?_
    refine g_goto (t := ML) (pc := 372) (tgt := 376) dL_law_372 (by decide) ?_
    refine g_callV (t := ML) (pc := 376) (c_X9_three kC_A hV (x := 1) (by decide)) dL_law_376 l_RL_31 m_MX9_three n_MX9_three e_MX9_three rfl ⟨Nat.le_of_ble_eq_true rfl, Nat.le_of_ble_eq_true rfl⟩ ⟨Nat.le_of_ble_eq_true rfl, Nat.le_of_ble_eq_true rfl⟩ hC0 rfl rfl (Nat.le_of_ble_eq_true rfl) ?_
    rintro r I1 J1 ⟨hr, hV1, hI1, hJ1⟩
    obtain ⟨v, rfl⟩ : ∃ v, r = .int v := ⟨_, hr.trans v_fthree.choose_spec⟩
    try dsimp only [zov, Option.toList, List.cons_append, List.nil_append]
    refine g_aload_n (t := ML) (pc := 379) dL_law_379 rfl rfl ?_
    refine gl_arg (pc := 380) (j := 1) dL_law_380 dL_law_381 dL_law_382 dL_law_383 dL_law_384 (by decide) hL (by omega) ?_
    refine g_if_eq (t := ML) (pc := 385) (tgt := 392) dL_law_385 (by decide) (fun h => absurd h hz) (fun _ => ?_)
    refine g_iconst (t := ML) (pc := 388) (v := nI 1) dL_law_388 (by decide) ?_
    refine g_goto (t := ML) (pc := 389) (tgt := 393) dL_law_389 (by decide) ?_
    refine g_callV (t := ML) (pc := 393) (c_X10_three kM_A (vM_to hW hI1 hJ1) (x := 1) (by decide)) dL_law_393 l_RL_35 m_MX10_three n_MX10_three e_MX10_three rfl ⟨Nat.le_of_ble_eq_true rfl, Nat.le_of_ble_eq_true rfl⟩ ⟨Nat.le_of_ble_eq_true rfl, Nat.le_of_ble_eq_true rfl⟩ hM0 rfl rfl (Nat.le_of_ble_eq_true rfl) ?_
    rintro r2 I2 J2 ⟨hr2, hW2, hI2, hJ2⟩
    obtain rfl : r2 = .int v := hr2.trans hr.symm
    try dsimp only [zov, Option.toList, List.cons_append, List.nil_append]
    exact g_icmp_eq (t := ML) (pc := 396) (tgt := 1469) dL_law_396 (by decide) (fun _ => K I2 J2 _ (vC_to hV1 hI2 hJ2) hW2) (fun h => absurd rfl h)
set_option maxHeartbeats 1000000 in
set_option maxRecDepth 20000 in
theorem law_c5 {b L i : Nat} {xs : Nat → Int32} {I : zI} {J : zJ} {S : zS} (hL : L ≤ 3072) (hi : i + 6 ≤ L) (hV : vC I J S) (hW : vM I J S) (K : ∀ I' J' S', vC I' J' S' → vM I' J' S' → GL b L xs 1469 [.ref 97, .ref 0, .ref 79, .int (nI i)] [] I' J') : GL b L xs 401 [.ref 97, .ref 0, .ref 79, .int (nI i)] [] I J := by
  have hC0 := kC_A.1
  have hM0 := kM_A.1
  refine g_aload_n (t := ML) (pc := 401) dL_law_401 rfl rfl ?_
  refine gl_arg (pc := 402) (j := 1) dL_law_402 dL_law_403 dL_law_404 dL_law_405 dL_law_406 (by decide) hL (by omega) ?_
  refine gl_arg (pc := 407) (j := 2) dL_law_407 dL_law_408 dL_law_409 dL_law_410 dL_law_411 (by decide) hL (by omega) ?_
  refine gl_arg (pc := 412) (j := 3) dL_law_412 dL_law_413 dL_law_414 dL_law_415 dL_law_416 (by decide) hL (by omega) ?_
  refine g_callV (t := ML) (pc := 417) (c_X9_of kC_A hV) dL_law_417 l_RL_36 m_MX9_of n_MX9_of e_MX9_of rfl ⟨Nat.le_of_ble_eq_true rfl, Nat.le_of_ble_eq_true rfl⟩ ⟨Nat.le_of_ble_eq_true rfl, Nat.le_of_ble_eq_true rfl⟩ hC0 rfl rfl (Nat.le_of_ble_eq_true rfl) ?_
  rintro r I1 J1 ⟨hr, hV1, hI1, hJ1⟩
  obtain ⟨v, rfl⟩ : ∃ v, r = .int v := ⟨_, hr.trans v_fof.choose_spec⟩
  try dsimp only [zov, Option.toList, List.cons_append, List.nil_append]
  refine g_aload_n (t := ML) (pc := 420) dL_law_420 rfl rfl ?_
  refine gl_arg (pc := 421) (j := 1) dL_law_421 dL_law_422 dL_law_423 dL_law_424 dL_law_425 (by decide) hL (by omega) ?_
  refine gl_arg (pc := 426) (j := 2) dL_law_426 dL_law_427 dL_law_428 dL_law_429 dL_law_430 (by decide) hL (by omega) ?_
  refine gl_arg (pc := 431) (j := 3) dL_law_431 dL_law_432 dL_law_433 dL_law_434 dL_law_435 (by decide) hL (by omega) ?_
  refine g_callV (t := ML) (pc := 436) (c_X10_of kM_A (vM_to hW hI1 hJ1)) dL_law_436 l_RL_39 m_MX10_of n_MX10_of e_MX10_of rfl ⟨Nat.le_of_ble_eq_true rfl, Nat.le_of_ble_eq_true rfl⟩ ⟨Nat.le_of_ble_eq_true rfl, Nat.le_of_ble_eq_true rfl⟩ hM0 rfl rfl (Nat.le_of_ble_eq_true rfl) ?_
  rintro r2 I2 J2 ⟨hr2, hW2, hI2, hJ2⟩
  obtain rfl : r2 = .int v := hr2.trans hr.symm
  try dsimp only [zov, Option.toList, List.cons_append, List.nil_append]
  exact g_icmp_eq (t := ML) (pc := 439) (tgt := 1469) dL_law_439 (by decide) (fun _ => K I2 J2 _ (vC_to hV1 hI2 hJ2) hW2) (fun h => absurd rfl h)
set_option maxHeartbeats 1000000 in
set_option maxRecDepth 20000 in
theorem law_c6 {b L i : Nat} {xs : Nat → Int32} {I : zI} {J : zJ} {S : zS} (hL : L ≤ 3072) (hi : i + 6 ≤ L) (hV : vC I J S) (hW : vM I J S) (K : ∀ I' J' S', vC I' J' S' → vM I' J' S' → GL b L xs 1469 [.ref 97, .ref 0, .ref 79, .int (nI i)] [] I' J') : GL b L xs 444 [.ref 97, .ref 0, .ref 79, .int (nI i)] [] I J := by
  have hC0 := kC_A.1
  have hM0 := kM_A.1
  refine g_aload_n (t := ML) (pc := 444) dL_law_444 rfl rfl ?_
  refine gl_arg (pc := 445) (j := 1) dL_law_445 dL_law_446 dL_law_447 dL_law_448 dL_law_449 (by decide) hL (by omega) ?_
  refine gl_arg (pc := 450) (j := 2) dL_law_450 dL_law_451 dL_law_452 dL_law_453 dL_law_454 (by decide) hL (by omega) ?_
  refine g_callV (t := ML) (pc := 455) (c_X9_marginOf kC_A hV) dL_law_455 l_RL_40 m_MX9_marginOf n_MX9_marginOf e_MX9_marginOf rfl ⟨Nat.le_of_ble_eq_true rfl, Nat.le_of_ble_eq_true rfl⟩ ⟨Nat.le_of_ble_eq_true rfl, Nat.le_of_ble_eq_true rfl⟩ hC0 rfl rfl (Nat.le_of_ble_eq_true rfl) ?_
  rintro r I1 J1 ⟨hr, hV1, hI1, hJ1⟩
  obtain ⟨v, rfl⟩ : ∃ v, r = .int v := ⟨_, hr.trans v_fmarginOf.choose_spec⟩
  try dsimp only [zov, Option.toList, List.cons_append, List.nil_append]
  refine g_aload_n (t := ML) (pc := 458) dL_law_458 rfl rfl ?_
  refine gl_arg (pc := 459) (j := 1) dL_law_459 dL_law_460 dL_law_461 dL_law_462 dL_law_463 (by decide) hL (by omega) ?_
  refine gl_arg (pc := 464) (j := 2) dL_law_464 dL_law_465 dL_law_466 dL_law_467 dL_law_468 (by decide) hL (by omega) ?_
  refine g_callV (t := ML) (pc := 469) (c_X10_marginOf kM_A (vM_to hW hI1 hJ1)) dL_law_469 l_RL_43 m_MX10_marginOf n_MX10_marginOf e_MX10_marginOf rfl ⟨Nat.le_of_ble_eq_true rfl, Nat.le_of_ble_eq_true rfl⟩ ⟨Nat.le_of_ble_eq_true rfl, Nat.le_of_ble_eq_true rfl⟩ hM0 rfl rfl (Nat.le_of_ble_eq_true rfl) ?_
  rintro r2 I2 J2 ⟨hr2, hW2, hI2, hJ2⟩
  obtain rfl : r2 = .int v := hr2.trans hr.symm
  try dsimp only [zov, Option.toList, List.cons_append, List.nil_append]
  exact g_icmp_eq (t := ML) (pc := 472) (tgt := 1469) dL_law_472 (by decide) (fun _ => K I2 J2 _ (vC_to hV1 hI2 hJ2) hW2) (fun h => absurd rfl h)
set_option maxHeartbeats 1000000 in
set_option maxRecDepth 20000 in
theorem law_c7 {b L i : Nat} {xs : Nat → Int32} {I : zI} {J : zJ} {S : zS} (hL : L ≤ 3072) (hi : i + 6 ≤ L) (hV : vC I J S) (hW : vM I J S) (K : ∀ I' J' S', vC I' J' S' → vM I' J' S' → GL b L xs 1469 [.ref 97, .ref 0, .ref 79, .int (nI i)] [] I' J') : GL b L xs 477 [.ref 97, .ref 0, .ref 79, .int (nI i)] [] I J := by
  have hC0 := kC_A.1
  have hM0 := kM_A.1
  refine g_aload_n (t := ML) (pc := 477) dL_law_477 rfl rfl ?_
  refine gl_arg (pc := 478) (j := 1) dL_law_478 dL_law_479 dL_law_480 dL_law_481 dL_law_482 (by decide) hL (by omega) ?_
  refine g_callV (t := ML) (pc := 483) (c_X9_feed kC_A hV) dL_law_483 l_RL_44 m_MX9_feed n_MX9_feed e_MX9_feed rfl ⟨Nat.le_of_ble_eq_true rfl, Nat.le_of_ble_eq_true rfl⟩ ⟨Nat.le_of_ble_eq_true rfl, Nat.le_of_ble_eq_true rfl⟩ hC0 rfl rfl (Nat.le_of_ble_eq_true rfl) ?_
  rintro r I1 J1 ⟨hr, hV1, hI1, hJ1⟩
  obtain ⟨v, rfl⟩ : ∃ v, r = .int v := ⟨_, hr.trans v_ffeed.choose_spec⟩
  try dsimp only [zov, Option.toList, List.cons_append, List.nil_append]
  refine g_aload_n (t := ML) (pc := 486) dL_law_486 rfl rfl ?_
  refine gl_arg (pc := 487) (j := 1) dL_law_487 dL_law_488 dL_law_489 dL_law_490 dL_law_491 (by decide) hL (by omega) ?_
  refine g_callV (t := ML) (pc := 492) (c_X10_feed kM_A (vM_to hW hI1 hJ1)) dL_law_492 l_RL_48 m_MX10_feed n_MX10_feed e_MX10_feed rfl ⟨Nat.le_of_ble_eq_true rfl, Nat.le_of_ble_eq_true rfl⟩ ⟨Nat.le_of_ble_eq_true rfl, Nat.le_of_ble_eq_true rfl⟩ hM0 rfl rfl (Nat.le_of_ble_eq_true rfl) ?_
  rintro r2 I2 J2 ⟨hr2, hW2, hI2, hJ2⟩
  obtain rfl : r2 = .int v := hr2.trans hr.symm
  try dsimp only [zov, Option.toList, List.cons_append, List.nil_append]
  exact g_icmp_eq (t := ML) (pc := 495) (tgt := 1469) dL_law_495 (by decide) (fun _ => K I2 J2 _ (vC_to hV1 hI2 hJ2) hW2) (fun h => absurd rfl h)
set_option maxHeartbeats 1000000 in
set_option maxRecDepth 20000 in
theorem law_c8 {b L i : Nat} {xs : Nat → Int32} {I : zI} {J : zJ} {S : zS} (hL : L ≤ 3072) (hi : i + 6 ≤ L) (hV : vC I J S) (hW : vM I J S) (K : ∀ I' J' S', vC I' J' S' → vM I' J' S' → GL b L xs 1469 [.ref 97, .ref 0, .ref 79, .int (nI i)] [] I' J') : GL b L xs 500 [.ref 97, .ref 0, .ref 79, .int (nI i)] [] I J := by
  have hC0 := kC_A.1
  have hM0 := kM_A.1
  refine g_aload_n (t := ML) (pc := 500) dL_law_500 rfl rfl ?_
  refine g_callV (t := ML) (pc := 501) (c_X9_read kC_A hV) dL_law_501 l_RL_49 m_MX9_read n_MX9_read e_MX9_read rfl ⟨Nat.le_of_ble_eq_true rfl, Nat.le_of_ble_eq_true rfl⟩ ⟨Nat.le_of_ble_eq_true rfl, Nat.le_of_ble_eq_true rfl⟩ hC0 rfl rfl (Nat.le_of_ble_eq_true rfl) ?_
  rintro r I1 J1 ⟨hr, hV1, hI1, hJ1⟩
  obtain ⟨v, rfl⟩ : ∃ v, r = .int v := ⟨_, hr.trans v_fread.choose_spec⟩
  try dsimp only [zov, Option.toList, List.cons_append, List.nil_append]
  refine g_aload_n (t := ML) (pc := 504) dL_law_504 rfl rfl ?_
  refine g_callV (t := ML) (pc := 505) (c_X10_read kM_A (vM_to hW hI1 hJ1)) dL_law_505 l_RL_53 m_MX10_read n_MX10_read e_MX10_read rfl ⟨Nat.le_of_ble_eq_true rfl, Nat.le_of_ble_eq_true rfl⟩ ⟨Nat.le_of_ble_eq_true rfl, Nat.le_of_ble_eq_true rfl⟩ hM0 rfl rfl (Nat.le_of_ble_eq_true rfl) ?_
  rintro r2 I2 J2 ⟨hr2, hW2, hI2, hJ2⟩
  obtain rfl : r2 = .int v := hr2.trans hr.symm
  try dsimp only [zov, Option.toList, List.cons_append, List.nil_append]
  exact g_icmp_eq (t := ML) (pc := 508) (tgt := 1469) dL_law_508 (by decide) (fun _ => K I2 J2 _ (vC_to hV1 hI2 hJ2) hW2) (fun h => absurd rfl h)
set_option maxHeartbeats 1000000 in
set_option maxRecDepth 20000 in
theorem law_c9 {b L i : Nat} {xs : Nat → Int32} {I : zI} {J : zJ} {S : zS} (hL : L ≤ 3072) (hi : i + 6 ≤ L) (hV : vC I J S) (hW : vM I J S) (K : ∀ I' J' S', vC I' J' S' → vM I' J' S' → GL b L xs 1469 [.ref 97, .ref 0, .ref 79, .int (nI i)] [] I' J') : GL b L xs 513 [.ref 97, .ref 0, .ref 79, .int (nI i)] [] I J := by
  have hC0 := kC_A.1
  have hM0 := kM_A.1
  refine g_aload_n (t := ML) (pc := 513) dL_law_513 rfl rfl ?_
  refine g_callV (t := ML) (pc := 514) (c_X9_begin kC_A hV) dL_law_514 l_RL_54 m_MX9_begin n_MX9_begin e_MX9_begin rfl ⟨Nat.le_of_ble_eq_true rfl, Nat.le_of_ble_eq_true rfl⟩ ⟨Nat.le_of_ble_eq_true rfl, Nat.le_of_ble_eq_true rfl⟩ hC0 rfl rfl (Nat.le_of_ble_eq_true rfl) ?_
  rintro r I1 J1 ⟨hr, hV1, hI1, hJ1⟩
  obtain ⟨v, rfl⟩ : ∃ v, r = .int v := ⟨_, hr.trans v_fbegin.choose_spec⟩
  try dsimp only [zov, Option.toList, List.cons_append, List.nil_append]
  refine g_aload_n (t := ML) (pc := 517) dL_law_517 rfl rfl ?_
  refine g_callV (t := ML) (pc := 518) (c_X10_begin_p kM_A (vM_to hW hI1 hJ1)) dL_law_518 l_RL_57 m_MX10_begin n_MX10_begin e_MX10_begin rfl ⟨Nat.le_of_ble_eq_true rfl, Nat.le_of_ble_eq_true rfl⟩ ⟨Nat.le_of_ble_eq_true rfl, Nat.le_of_ble_eq_true rfl⟩ hM0 rfl rfl (Nat.le_of_ble_eq_true rfl) ?_
  rintro r2 I2 J2 ⟨hr2, hW2, hI2, hJ2⟩
  obtain rfl : r2 = .int v := hr2.trans hr.symm
  try dsimp only [zov, Option.toList, List.cons_append, List.nil_append]
  exact g_icmp_eq (t := ML) (pc := 521) (tgt := 1469) dL_law_521 (by decide) (fun _ => K I2 J2 _ (vC_to hV1 hI2 hJ2) hW2) (fun h => absurd rfl h)
set_option maxHeartbeats 1000000 in
set_option maxRecDepth 20000 in
theorem law_c10 {b L i : Nat} {xs : Nat → Int32} {I : zI} {J : zJ} {S : zS} (hL : L ≤ 3072) (hi : i + 6 ≤ L) (hV : vC I J S) (hW : vM I J S) (K : ∀ I' J' S', vC I' J' S' → vM I' J' S' → GL b L xs 1469 [.ref 97, .ref 0, .ref 79, .int (nI i)] [] I' J') : GL b L xs 526 [.ref 97, .ref 0, .ref 79, .int (nI i)] [] I J := by
  have hC0 := kC_A.1
  have hM0 := kM_A.1
  refine g_aload_n (t := ML) (pc := 526) dL_law_526 rfl rfl ?_
  refine gl_arg (pc := 527) (j := 1) dL_law_527 dL_law_528 dL_law_529 dL_law_530 dL_law_531 (by decide) hL (by omega) ?_
  refine g_callV (t := ML) (pc := 532) (c_X9_fit kC_A hV) dL_law_532 l_RL_58 m_MX9_fit n_MX9_fit e_MX9_fit rfl ⟨Nat.le_of_ble_eq_true rfl, Nat.le_of_ble_eq_true rfl⟩ ⟨Nat.le_of_ble_eq_true rfl, Nat.le_of_ble_eq_true rfl⟩ hC0 rfl rfl (Nat.le_of_ble_eq_true rfl) ?_
  rintro r I1 J1 ⟨hr, hV1, hI1, hJ1⟩
  obtain ⟨v, rfl⟩ : ∃ v, r = .int v := ⟨_, hr.trans v_ffit.choose_spec⟩
  try dsimp only [zov, Option.toList, List.cons_append, List.nil_append]
  refine g_aload_n (t := ML) (pc := 535) dL_law_535 rfl rfl ?_
  refine gl_arg (pc := 536) (j := 1) dL_law_536 dL_law_537 dL_law_538 dL_law_539 dL_law_540 (by decide) hL (by omega) ?_
  refine g_callV (t := ML) (pc := 541) (c_X10_fit kM_A (vM_to hW hI1 hJ1)) dL_law_541 l_RL_61 m_MX10_fit n_MX10_fit e_MX10_fit rfl ⟨Nat.le_of_ble_eq_true rfl, Nat.le_of_ble_eq_true rfl⟩ ⟨Nat.le_of_ble_eq_true rfl, Nat.le_of_ble_eq_true rfl⟩ hM0 rfl rfl (Nat.le_of_ble_eq_true rfl) ?_
  rintro r2 I2 J2 ⟨hr2, hW2, hI2, hJ2⟩
  obtain rfl : r2 = .int v := hr2.trans hr.symm
  try dsimp only [zov, Option.toList, List.cons_append, List.nil_append]
  exact g_icmp_eq (t := ML) (pc := 544) (tgt := 1469) dL_law_544 (by decide) (fun _ => K I2 J2 _ (vC_to hV1 hI2 hJ2) hW2) (fun h => absurd rfl h)
set_option maxHeartbeats 1000000 in
set_option maxRecDepth 20000 in
theorem law_c11 {b L i : Nat} {xs : Nat → Int32} {I : zI} {J : zJ} {S : zS} (hL : L ≤ 3072) (hi : i + 6 ≤ L) (hV : vC I J S) (hW : vM I J S) (K : ∀ I' J' S', vC I' J' S' → vM I' J' S' → GL b L xs 1469 [.ref 97, .ref 0, .ref 79, .int (nI i)] [] I' J') : GL b L xs 549 [.ref 97, .ref 0, .ref 79, .int (nI i)] [] I J := by
  have hC0 := kC_A.1
  have hM0 := kM_A.1
  refine g_aload_n (t := ML) (pc := 549) dL_law_549 rfl rfl ?_
  refine gl_arg (pc := 550) (j := 1) dL_law_550 dL_law_551 dL_law_552 dL_law_553 dL_law_554 (by decide) hL (by omega) ?_
  refine g_callV (t := ML) (pc := 555) (c_X9_rounds kC_A hV) dL_law_555 l_RL_62 m_MX9_rounds n_MX9_rounds e_MX9_rounds rfl ⟨Nat.le_of_ble_eq_true rfl, Nat.le_of_ble_eq_true rfl⟩ ⟨Nat.le_of_ble_eq_true rfl, Nat.le_of_ble_eq_true rfl⟩ hC0 rfl rfl (Nat.le_of_ble_eq_true rfl) ?_
  rintro r I1 J1 ⟨hr, hV1, hI1, hJ1⟩
  obtain ⟨v, rfl⟩ : ∃ v, r = .int v := ⟨_, hr.trans v_frounds.choose_spec⟩
  try dsimp only [zov, Option.toList, List.cons_append, List.nil_append]
  refine g_aload_n (t := ML) (pc := 558) dL_law_558 rfl rfl ?_
  refine gl_arg (pc := 559) (j := 1) dL_law_559 dL_law_560 dL_law_561 dL_law_562 dL_law_563 (by decide) hL (by omega) ?_
  refine g_callV (t := ML) (pc := 564) (c_X10_rounds kM_A (vM_to hW hI1 hJ1)) dL_law_564 l_RL_65 m_MX10_rounds n_MX10_rounds e_MX10_rounds rfl ⟨Nat.le_of_ble_eq_true rfl, Nat.le_of_ble_eq_true rfl⟩ ⟨Nat.le_of_ble_eq_true rfl, Nat.le_of_ble_eq_true rfl⟩ hM0 rfl rfl (Nat.le_of_ble_eq_true rfl) ?_
  rintro r2 I2 J2 ⟨hr2, hW2, hI2, hJ2⟩
  obtain rfl : r2 = .int v := hr2.trans hr.symm
  try dsimp only [zov, Option.toList, List.cons_append, List.nil_append]
  exact g_icmp_eq (t := ML) (pc := 567) (tgt := 1469) dL_law_567 (by decide) (fun _ => K I2 J2 _ (vC_to hV1 hI2 hJ2) hW2) (fun h => absurd rfl h)
set_option maxHeartbeats 1000000 in
set_option maxRecDepth 20000 in
theorem law_c12 {b L i : Nat} {xs : Nat → Int32} {I : zI} {J : zJ} {S : zS} (hL : L ≤ 3072) (hi : i + 6 ≤ L) (hV : vC I J S) (hW : vM I J S) (K : ∀ I' J' S', vC I' J' S' → vM I' J' S' → GL b L xs 1469 [.ref 97, .ref 0, .ref 79, .int (nI i)] [] I' J') : GL b L xs 572 [.ref 97, .ref 0, .ref 79, .int (nI i)] [] I J := by
  have hC0 := kC_A.1
  have hM0 := kM_A.1
  refine g_aload_n (t := ML) (pc := 572) dL_law_572 rfl rfl ?_
  refine gl_arg (pc := 573) (j := 1) dL_law_573 dL_law_574 dL_law_575 dL_law_576 dL_law_577 (by decide) hL (by omega) ?_
  refine gl_arg (pc := 578) (j := 2) dL_law_578 dL_law_579 dL_law_580 dL_law_581 dL_law_582 (by decide) hL (by omega) ?_
  refine gl_arg (pc := 583) (j := 3) dL_law_583 dL_law_584 dL_law_585 dL_law_586 dL_law_587 (by decide) hL (by omega) ?_
  refine g_callV (t := ML) (pc := 588) (c_X9_cell kC_A hV) dL_law_588 l_RL_66 m_MX9_cell n_MX9_cell e_MX9_cell rfl ⟨Nat.le_of_ble_eq_true rfl, Nat.le_of_ble_eq_true rfl⟩ ⟨Nat.le_of_ble_eq_true rfl, Nat.le_of_ble_eq_true rfl⟩ hC0 rfl rfl (Nat.le_of_ble_eq_true rfl) ?_
  rintro r I1 J1 ⟨hr, hV1, hI1, hJ1⟩
  obtain ⟨v, rfl⟩ : ∃ v, r = .long v := ⟨_, hr.trans v_fcell.choose_spec⟩
  try dsimp only [zov, Option.toList, List.cons_append, List.nil_append]
  refine g_aload_n (t := ML) (pc := 591) dL_law_591 rfl rfl ?_
  refine gl_arg (pc := 592) (j := 1) dL_law_592 dL_law_593 dL_law_594 dL_law_595 dL_law_596 (by decide) hL (by omega) ?_
  refine gl_arg (pc := 597) (j := 2) dL_law_597 dL_law_598 dL_law_599 dL_law_600 dL_law_601 (by decide) hL (by omega) ?_
  refine gl_arg (pc := 602) (j := 3) dL_law_602 dL_law_603 dL_law_604 dL_law_605 dL_law_606 (by decide) hL (by omega) ?_
  refine g_callV (t := ML) (pc := 607) (c_X10_cell kM_A (vM_to hW hI1 hJ1)) dL_law_607 l_RL_70 m_MX10_cell n_MX10_cell e_MX10_cell rfl ⟨Nat.le_of_ble_eq_true rfl, Nat.le_of_ble_eq_true rfl⟩ ⟨Nat.le_of_ble_eq_true rfl, Nat.le_of_ble_eq_true rfl⟩ hM0 rfl rfl (Nat.le_of_ble_eq_true rfl) ?_
  rintro r2 I2 J2 ⟨hr2, hW2, hI2, hJ2⟩
  obtain rfl : r2 = .long v := hr2.trans hr.symm
  try dsimp only [zov, Option.toList, List.cons_append, List.nil_append]
  refine g_lcmp (t := ML) (pc := 610) dL_law_610 ?_
  exact g_if_eq (t := ML) (pc := 611) (tgt := 1469) dL_law_611 (by decide) (fun _ => K I2 J2 _ (vC_to hV1 hI2 hJ2) hW2) (fun h => absurd (law_cmp v) h)
set_option maxHeartbeats 1000000 in
set_option maxRecDepth 20000 in
theorem law_c13 {b L i : Nat} {xs : Nat → Int32} {I : zI} {J : zJ} {S : zS} (hL : L ≤ 3072) (hi : i + 6 ≤ L) (hV : vC I J S) (hW : vM I J S) (K : ∀ I' J' S', vC I' J' S' → vM I' J' S' → GL b L xs 1469 [.ref 97, .ref 0, .ref 79, .int (nI i)] [] I' J') : GL b L xs 616 [.ref 97, .ref 0, .ref 79, .int (nI i)] [] I J := by
  have hC0 := kC_A.1
  have hM0 := kM_A.1
  refine g_aload_n (t := ML) (pc := 616) dL_law_616 rfl rfl ?_
  refine gl_arg (pc := 617) (j := 1) dL_law_617 dL_law_618 dL_law_619 dL_law_620 dL_law_621 (by decide) hL (by omega) ?_
  refine gl_arg (pc := 622) (j := 2) dL_law_622 dL_law_623 dL_law_624 dL_law_625 dL_law_626 (by decide) hL (by omega) ?_
  refine gl_arg (pc := 627) (j := 3) dL_law_627 dL_law_628 dL_law_629 dL_law_630 dL_law_631 (by decide) hL (by omega) ?_
  refine g_callV (t := ML) (pc := 632) (c_X9_sum kC_A hV) dL_law_632 l_RL_71 m_MX9_sum n_MX9_sum e_MX9_sum rfl ⟨Nat.le_of_ble_eq_true rfl, Nat.le_of_ble_eq_true rfl⟩ ⟨Nat.le_of_ble_eq_true rfl, Nat.le_of_ble_eq_true rfl⟩ hC0 rfl rfl (Nat.le_of_ble_eq_true rfl) ?_
  rintro r I1 J1 ⟨hr, hV1, hI1, hJ1⟩
  obtain ⟨v, rfl⟩ : ∃ v, r = .long v := ⟨_, hr.trans v_fsum.choose_spec⟩
  try dsimp only [zov, Option.toList, List.cons_append, List.nil_append]
  refine g_aload_n (t := ML) (pc := 635) dL_law_635 rfl rfl ?_
  refine gl_arg (pc := 636) (j := 1) dL_law_636 dL_law_637 dL_law_638 dL_law_639 dL_law_640 (by decide) hL (by omega) ?_
  refine gl_arg (pc := 641) (j := 2) dL_law_641 dL_law_642 dL_law_643 dL_law_644 dL_law_645 (by decide) hL (by omega) ?_
  refine gl_arg (pc := 646) (j := 3) dL_law_646 dL_law_647 dL_law_648 dL_law_649 dL_law_650 (by decide) hL (by omega) ?_
  refine g_callV (t := ML) (pc := 651) (c_X10_sum kM_A (vM_to hW hI1 hJ1)) dL_law_651 l_RL_74 m_MX10_sum n_MX10_sum e_MX10_sum rfl ⟨Nat.le_of_ble_eq_true rfl, Nat.le_of_ble_eq_true rfl⟩ ⟨Nat.le_of_ble_eq_true rfl, Nat.le_of_ble_eq_true rfl⟩ hM0 rfl rfl (Nat.le_of_ble_eq_true rfl) ?_
  rintro r2 I2 J2 ⟨hr2, hW2, hI2, hJ2⟩
  obtain rfl : r2 = .long v := hr2.trans hr.symm
  try dsimp only [zov, Option.toList, List.cons_append, List.nil_append]
  refine g_lcmp (t := ML) (pc := 654) dL_law_654 ?_
  exact g_if_eq (t := ML) (pc := 655) (tgt := 1469) dL_law_655 (by decide) (fun _ => K I2 J2 _ (vC_to hV1 hI2 hJ2) hW2) (fun h => absurd (law_cmp v) h)
set_option maxHeartbeats 1000000 in
set_option maxRecDepth 20000 in
theorem law_c14 {b L i : Nat} {xs : Nat → Int32} {I : zI} {J : zJ} {S : zS} (hL : L ≤ 3072) (hi : i + 6 ≤ L) (hV : vC I J S) (hW : vM I J S) (K : ∀ I' J' S', vC I' J' S' → vM I' J' S' → GL b L xs 1469 [.ref 97, .ref 0, .ref 79, .int (nI i)] [] I' J') : GL b L xs 660 [.ref 97, .ref 0, .ref 79, .int (nI i)] [] I J := by
  have hC0 := kC_A.1
  have hM0 := kM_A.1
  refine g_aload_n (t := ML) (pc := 660) dL_law_660 rfl rfl ?_
  refine gl_arg (pc := 661) (j := 1) dL_law_661 dL_law_662 dL_law_663 dL_law_664 dL_law_665 (by decide) hL (by omega) ?_
  refine gl_arg (pc := 666) (j := 2) dL_law_666 dL_law_667 dL_law_668 dL_law_669 dL_law_670 (by decide) hL (by omega) ?_
  refine gl_arg (pc := 671) (j := 3) dL_law_671 dL_law_672 dL_law_673 dL_law_674 dL_law_675 (by decide) hL (by omega) ?_
  refine g_callV (t := ML) (pc := 676) (c_X9_gap kC_A hV) dL_law_676 l_RL_75 m_MX9_gap n_MX9_gap e_MX9_gap rfl ⟨Nat.le_of_ble_eq_true rfl, Nat.le_of_ble_eq_true rfl⟩ ⟨Nat.le_of_ble_eq_true rfl, Nat.le_of_ble_eq_true rfl⟩ hC0 rfl rfl (Nat.le_of_ble_eq_true rfl) ?_
  rintro r I1 J1 ⟨hr, hV1, hI1, hJ1⟩
  obtain ⟨v, rfl⟩ : ∃ v, r = .long v := ⟨_, hr.trans v_fgap.choose_spec⟩
  try dsimp only [zov, Option.toList, List.cons_append, List.nil_append]
  refine g_aload_n (t := ML) (pc := 679) dL_law_679 rfl rfl ?_
  refine gl_arg (pc := 680) (j := 1) dL_law_680 dL_law_681 dL_law_682 dL_law_683 dL_law_684 (by decide) hL (by omega) ?_
  refine gl_arg (pc := 685) (j := 2) dL_law_685 dL_law_686 dL_law_687 dL_law_688 dL_law_689 (by decide) hL (by omega) ?_
  refine gl_arg (pc := 690) (j := 3) dL_law_690 dL_law_691 dL_law_692 dL_law_693 dL_law_694 (by decide) hL (by omega) ?_
  refine g_callV (t := ML) (pc := 695) (c_X10_gap kM_A (vM_to hW hI1 hJ1)) dL_law_695 l_RL_78 m_MX10_gap n_MX10_gap e_MX10_gap rfl ⟨Nat.le_of_ble_eq_true rfl, Nat.le_of_ble_eq_true rfl⟩ ⟨Nat.le_of_ble_eq_true rfl, Nat.le_of_ble_eq_true rfl⟩ hM0 rfl rfl (Nat.le_of_ble_eq_true rfl) ?_
  rintro r2 I2 J2 ⟨hr2, hW2, hI2, hJ2⟩
  obtain rfl : r2 = .long v := hr2.trans hr.symm
  try dsimp only [zov, Option.toList, List.cons_append, List.nil_append]
  refine g_lcmp (t := ML) (pc := 698) dL_law_698 ?_
  exact g_if_eq (t := ML) (pc := 699) (tgt := 1469) dL_law_699 (by decide) (fun _ => K I2 J2 _ (vC_to hV1 hI2 hJ2) hW2) (fun h => absurd (law_cmp v) h)
set_option maxHeartbeats 1000000 in
set_option maxRecDepth 20000 in
theorem law_c15 {b L i : Nat} {xs : Nat → Int32} {I : zI} {J : zJ} {S : zS} (hL : L ≤ 3072) (hi : i + 6 ≤ L) (hV : vC I J S) (hW : vM I J S) (K : ∀ I' J' S', vC I' J' S' → vM I' J' S' → GL b L xs 1469 [.ref 97, .ref 0, .ref 79, .int (nI i)] [] I' J') : GL b L xs 704 [.ref 97, .ref 0, .ref 79, .int (nI i)] [] I J := by
  have hC0 := kC_A.1
  have hM0 := kM_A.1
  refine g_aload_n (t := ML) (pc := 704) dL_law_704 rfl rfl ?_
  refine g_callV (t := ML) (pc := 705) (c_X9_farthest kC_A hV) dL_law_705 l_RL_79 m_MX9_farthest n_MX9_farthest e_MX9_farthest rfl ⟨Nat.le_of_ble_eq_true rfl, Nat.le_of_ble_eq_true rfl⟩ ⟨Nat.le_of_ble_eq_true rfl, Nat.le_of_ble_eq_true rfl⟩ hC0 rfl rfl (Nat.le_of_ble_eq_true rfl) ?_
  rintro r I1 J1 ⟨hr, hV1, hI1, hJ1⟩
  obtain ⟨v, rfl⟩ : ∃ v, r = .int v := ⟨_, hr.trans v_ffar.choose_spec⟩
  try dsimp only [zov, Option.toList, List.cons_append, List.nil_append]
  refine g_aload_n (t := ML) (pc := 708) dL_law_708 rfl rfl ?_
  refine g_callV (t := ML) (pc := 709) (c_X10_farthest kM_A (vM_to hW hI1 hJ1)) dL_law_709 l_RL_82 m_MX10_farthest n_MX10_farthest e_MX10_farthest rfl ⟨Nat.le_of_ble_eq_true rfl, Nat.le_of_ble_eq_true rfl⟩ ⟨Nat.le_of_ble_eq_true rfl, Nat.le_of_ble_eq_true rfl⟩ hM0 rfl rfl (Nat.le_of_ble_eq_true rfl) ?_
  rintro r2 I2 J2 ⟨hr2, hW2, hI2, hJ2⟩
  obtain rfl : r2 = .int v := hr2.trans hr.symm
  try dsimp only [zov, Option.toList, List.cons_append, List.nil_append]
  exact g_icmp_eq (t := ML) (pc := 712) (tgt := 1469) dL_law_712 (by decide) (fun _ => K I2 J2 _ (vC_to hV1 hI2 hJ2) hW2) (fun h => absurd rfl h)
set_option maxHeartbeats 1000000 in
set_option maxRecDepth 20000 in
theorem law_c16 {b L i : Nat} {xs : Nat → Int32} {I : zI} {J : zJ} {S : zS} (hL : L ≤ 3072) (hi : i + 6 ≤ L) (hV : vC I J S) (hW : vM I J S) (K : ∀ I' J' S', vC I' J' S' → vM I' J' S' → GL b L xs 1469 [.ref 97, .ref 0, .ref 79, .int (nI i)] [] I' J') : GL b L xs 717 [.ref 97, .ref 0, .ref 79, .int (nI i)] [] I J := by
  have hC0 := kC_A.1
  have hM0 := kM_A.1
  refine g_aload_n (t := ML) (pc := 717) dL_law_717 rfl rfl ?_
  refine gl_arg (pc := 718) (j := 1) dL_law_718 dL_law_719 dL_law_720 dL_law_721 dL_law_722 (by decide) hL (by omega) ?_
  refine g_callV (t := ML) (pc := 723) (c_X9_told kC_A hV) dL_law_723 l_RL_83 m_MX9_told n_MX9_told e_MX9_told rfl ⟨Nat.le_of_ble_eq_true rfl, Nat.le_of_ble_eq_true rfl⟩ ⟨Nat.le_of_ble_eq_true rfl, Nat.le_of_ble_eq_true rfl⟩ hC0 rfl rfl (Nat.le_of_ble_eq_true rfl) ?_
  rintro r I1 J1 ⟨hr, hV1, hI1, hJ1⟩
  obtain ⟨v, rfl⟩ : ∃ v, r = .int v := ⟨_, hr.trans v_ftold.choose_spec⟩
  try dsimp only [zov, Option.toList, List.cons_append, List.nil_append]
  refine g_aload_n (t := ML) (pc := 726) dL_law_726 rfl rfl ?_
  refine gl_arg (pc := 727) (j := 1) dL_law_727 dL_law_728 dL_law_729 dL_law_730 dL_law_731 (by decide) hL (by omega) ?_
  refine g_callV (t := ML) (pc := 732) (c_X10_told kM_A (vM_to hW hI1 hJ1)) dL_law_732 l_RL_86 m_MX10_told n_MX10_told e_MX10_told rfl ⟨Nat.le_of_ble_eq_true rfl, Nat.le_of_ble_eq_true rfl⟩ ⟨Nat.le_of_ble_eq_true rfl, Nat.le_of_ble_eq_true rfl⟩ hM0 rfl rfl (Nat.le_of_ble_eq_true rfl) ?_
  rintro r2 I2 J2 ⟨hr2, hW2, hI2, hJ2⟩
  obtain rfl : r2 = .int v := hr2.trans hr.symm
  try dsimp only [zov, Option.toList, List.cons_append, List.nil_append]
  exact g_icmp_eq (t := ML) (pc := 735) (tgt := 1469) dL_law_735 (by decide) (fun _ => K I2 J2 _ (vC_to hV1 hI2 hJ2) hW2) (fun h => absurd rfl h)
set_option maxHeartbeats 1000000 in
set_option maxRecDepth 20000 in
theorem law_c17 {b L i : Nat} {xs : Nat → Int32} {I : zI} {J : zJ} {S : zS} (hL : L ≤ 3072) (hi : i + 6 ≤ L) (hV : vC I J S) (hW : vM I J S) (K : ∀ I' J' S', vC I' J' S' → vM I' J' S' → GL b L xs 1469 [.ref 97, .ref 0, .ref 79, .int (nI i)] [] I' J') : GL b L xs 740 [.ref 97, .ref 0, .ref 79, .int (nI i)] [] I J := by
  have hC0 := kC_A.1
  have hM0 := kM_A.1
  refine g_aload_n (t := ML) (pc := 740) dL_law_740 rfl rfl ?_
  refine gl_arg (pc := 741) (j := 1) dL_law_741 dL_law_742 dL_law_743 dL_law_744 dL_law_745 (by decide) hL (by omega) ?_
  refine gl_arg (pc := 746) (j := 2) dL_law_746 dL_law_747 dL_law_748 dL_law_749 dL_law_750 (by decide) hL (by omega) ?_
  refine g_callV (t := ML) (pc := 751) (c_X9_rounded kC_A hV) dL_law_751 l_RL_87 m_MX9_rounded n_MX9_rounded e_MX9_rounded rfl ⟨Nat.le_of_ble_eq_true rfl, Nat.le_of_ble_eq_true rfl⟩ ⟨Nat.le_of_ble_eq_true rfl, Nat.le_of_ble_eq_true rfl⟩ hC0 rfl rfl (Nat.le_of_ble_eq_true rfl) ?_
  rintro r I1 J1 ⟨hr, hV1, hI1, hJ1⟩
  obtain ⟨v, rfl⟩ : ∃ v, r = .int v := ⟨_, hr.trans v_frounded.choose_spec⟩
  try dsimp only [zov, Option.toList, List.cons_append, List.nil_append]
  refine g_aload_n (t := ML) (pc := 754) dL_law_754 rfl rfl ?_
  refine gl_arg (pc := 755) (j := 1) dL_law_755 dL_law_756 dL_law_757 dL_law_758 dL_law_759 (by decide) hL (by omega) ?_
  refine gl_arg (pc := 760) (j := 2) dL_law_760 dL_law_761 dL_law_762 dL_law_763 dL_law_764 (by decide) hL (by omega) ?_
  refine g_callV (t := ML) (pc := 765) (c_X10_rounded kM_A (vM_to hW hI1 hJ1)) dL_law_765 l_RL_90 m_MX10_rounded n_MX10_rounded e_MX10_rounded rfl ⟨Nat.le_of_ble_eq_true rfl, Nat.le_of_ble_eq_true rfl⟩ ⟨Nat.le_of_ble_eq_true rfl, Nat.le_of_ble_eq_true rfl⟩ hM0 rfl rfl (Nat.le_of_ble_eq_true rfl) ?_
  rintro r2 I2 J2 ⟨hr2, hW2, hI2, hJ2⟩
  obtain rfl : r2 = .int v := hr2.trans hr.symm
  try dsimp only [zov, Option.toList, List.cons_append, List.nil_append]
  exact g_icmp_eq (t := ML) (pc := 768) (tgt := 1469) dL_law_768 (by decide) (fun _ => K I2 J2 _ (vC_to hV1 hI2 hJ2) hW2) (fun h => absurd rfl h)
set_option maxHeartbeats 1000000 in
set_option maxRecDepth 20000 in
theorem law_c18 {b L i : Nat} {xs : Nat → Int32} {I : zI} {J : zJ} {S : zS} (hL : L ≤ 3072) (hi : i + 6 ≤ L) (hV : vC I J S) (hW : vM I J S) (K : ∀ I' J' S', vC I' J' S' → vM I' J' S' → GL b L xs 1469 [.ref 97, .ref 0, .ref 79, .int (nI i)] [] I' J') : GL b L xs 773 [.ref 97, .ref 0, .ref 79, .int (nI i)] [] I J := by
  have hC0 := kC_A.1
  have hM0 := kM_A.1
  refine g_aload_n (t := ML) (pc := 773) dL_law_773 rfl rfl ?_
  refine gl_arg (pc := 774) (j := 1) dL_law_774 dL_law_775 dL_law_776 dL_law_777 dL_law_778 (by decide) hL (by omega) ?_
  refine gl_arg (pc := 779) (j := 2) dL_law_779 dL_law_780 dL_law_781 dL_law_782 dL_law_783 (by decide) hL (by omega) ?_
  refine g_callV (t := ML) (pc := 784) (c_X9_together kC_A hV) dL_law_784 l_RL_91 m_MX9_together n_MX9_together e_MX9_together rfl ⟨Nat.le_of_ble_eq_true rfl, Nat.le_of_ble_eq_true rfl⟩ ⟨Nat.le_of_ble_eq_true rfl, Nat.le_of_ble_eq_true rfl⟩ hC0 rfl rfl (Nat.le_of_ble_eq_true rfl) ?_
  rintro r I1 J1 ⟨hr, hV1, hI1, hJ1⟩
  obtain ⟨v, rfl⟩ : ∃ v, r = .int v := ⟨_, hr.trans v_ftogether.choose_spec⟩
  try dsimp only [zov, Option.toList, List.cons_append, List.nil_append]
  refine g_aload_n (t := ML) (pc := 787) dL_law_787 rfl rfl ?_
  refine gl_arg (pc := 788) (j := 1) dL_law_788 dL_law_789 dL_law_790 dL_law_791 dL_law_792 (by decide) hL (by omega) ?_
  refine gl_arg (pc := 793) (j := 2) dL_law_793 dL_law_794 dL_law_795 dL_law_796 dL_law_797 (by decide) hL (by omega) ?_
  refine g_callV (t := ML) (pc := 798) (c_X10_together kM_A (vM_to hW hI1 hJ1)) dL_law_798 l_RL_94 m_MX10_together n_MX10_together e_MX10_together rfl ⟨Nat.le_of_ble_eq_true rfl, Nat.le_of_ble_eq_true rfl⟩ ⟨Nat.le_of_ble_eq_true rfl, Nat.le_of_ble_eq_true rfl⟩ hM0 rfl rfl (Nat.le_of_ble_eq_true rfl) ?_
  rintro r2 I2 J2 ⟨hr2, hW2, hI2, hJ2⟩
  obtain rfl : r2 = .int v := hr2.trans hr.symm
  try dsimp only [zov, Option.toList, List.cons_append, List.nil_append]
  exact g_icmp_eq (t := ML) (pc := 801) (tgt := 1469) dL_law_801 (by decide) (fun _ => K I2 J2 _ (vC_to hV1 hI2 hJ2) hW2) (fun h => absurd rfl h)
set_option maxHeartbeats 1000000 in
set_option maxRecDepth 20000 in
theorem law_c19 {b L i : Nat} {xs : Nat → Int32} {I : zI} {J : zJ} {S : zS} (hL : L ≤ 3072) (hi : i + 6 ≤ L) (hV : vC I J S) (hW : vM I J S) (K : ∀ I' J' S', vC I' J' S' → vM I' J' S' → GL b L xs 1469 [.ref 97, .ref 0, .ref 79, .int (nI i)] [] I' J') : GL b L xs 806 [.ref 97, .ref 0, .ref 79, .int (nI i)] [] I J := by
  have hC0 := kC_A.1
  have hM0 := kM_A.1
  refine g_aload_n (t := ML) (pc := 806) dL_law_806 rfl rfl ?_
  refine gl_arg (pc := 807) (j := 1) dL_law_807 dL_law_808 dL_law_809 dL_law_810 dL_law_811 (by decide) hL (by omega) ?_
  refine gl_arg (pc := 812) (j := 2) dL_law_812 dL_law_813 dL_law_814 dL_law_815 dL_law_816 (by decide) hL (by omega) ?_
  refine gl_arg (pc := 817) (j := 3) dL_law_817 dL_law_818 dL_law_819 dL_law_820 dL_law_821 (by decide) hL (by omega) ?_
  refine gl_arg (pc := 822) (j := 4) dL_law_822 dL_law_823 dL_law_824 dL_law_825 dL_law_826 (by decide) hL (by omega) ?_
  refine gl_arg (pc := 827) (j := 5) dL_law_827 dL_law_828 dL_law_829 dL_law_830 dL_law_831 (by decide) hL (by omega) ?_
  refine g_callV (t := ML) (pc := 832) (c_X9_cross kC_A hV) dL_law_832 l_RL_95 m_MX9_cross n_MX9_cross e_MX9_cross rfl ⟨Nat.le_of_ble_eq_true rfl, Nat.le_of_ble_eq_true rfl⟩ ⟨Nat.le_of_ble_eq_true rfl, Nat.le_of_ble_eq_true rfl⟩ hC0 rfl rfl (Nat.le_of_ble_eq_true rfl) ?_
  rintro r I1 J1 ⟨hr, hV1, hI1, hJ1⟩
  obtain ⟨v, rfl⟩ : ∃ v, r = .long v := ⟨_, hr.trans v_fcross.choose_spec⟩
  try dsimp only [zov, Option.toList, List.cons_append, List.nil_append]
  refine g_aload_n (t := ML) (pc := 835) dL_law_835 rfl rfl ?_
  refine gl_arg (pc := 836) (j := 1) dL_law_836 dL_law_837 dL_law_838 dL_law_839 dL_law_840 (by decide) hL (by omega) ?_
  refine gl_arg (pc := 841) (j := 2) dL_law_841 dL_law_842 dL_law_843 dL_law_844 dL_law_845 (by decide) hL (by omega) ?_
  refine gl_arg (pc := 846) (j := 3) dL_law_846 dL_law_847 dL_law_848 dL_law_849 dL_law_850 (by decide) hL (by omega) ?_
  refine gl_arg (pc := 851) (j := 4) dL_law_851 dL_law_852 dL_law_853 dL_law_854 dL_law_855 (by decide) hL (by omega) ?_
  refine gl_arg (pc := 856) (j := 5) dL_law_856 dL_law_857 dL_law_858 dL_law_859 dL_law_860 (by decide) hL (by omega) ?_
  refine g_callV (t := ML) (pc := 861) (c_X10_cross kM_A (vM_to hW hI1 hJ1)) dL_law_861 l_RL_99 m_MX10_cross n_MX10_cross e_MX10_cross rfl ⟨Nat.le_of_ble_eq_true rfl, Nat.le_of_ble_eq_true rfl⟩ ⟨Nat.le_of_ble_eq_true rfl, Nat.le_of_ble_eq_true rfl⟩ hM0 rfl rfl (Nat.le_of_ble_eq_true rfl) ?_
  rintro r2 I2 J2 ⟨hr2, hW2, hI2, hJ2⟩
  obtain rfl : r2 = .long v := hr2.trans hr.symm
  try dsimp only [zov, Option.toList, List.cons_append, List.nil_append]
  refine g_lcmp (t := ML) (pc := 864) dL_law_864 ?_
  exact g_if_eq (t := ML) (pc := 865) (tgt := 1469) dL_law_865 (by decide) (fun _ => K I2 J2 _ (vC_to hV1 hI2 hJ2) hW2) (fun h => absurd (law_cmp v) h)
set_option maxHeartbeats 1000000 in
set_option maxRecDepth 20000 in
theorem law_c20 {b L i : Nat} {xs : Nat → Int32} {I : zI} {J : zJ} {S : zS} (hL : L ≤ 3072) (hi : i + 6 ≤ L) (hV : vC I J S) (hW : vM I J S) (K : ∀ I' J' S', vC I' J' S' → vM I' J' S' → GL b L xs 1469 [.ref 97, .ref 0, .ref 79, .int (nI i)] [] I' J') : GL b L xs 870 [.ref 97, .ref 0, .ref 79, .int (nI i)] [] I J := by
  have hC0 := kC_A.1
  have hM0 := kM_A.1
  refine g_aload_n (t := ML) (pc := 870) dL_law_870 rfl rfl ?_
  refine g_callV (t := ML) (pc := 871) (c_X9_orders kC_A hV) dL_law_871 l_RL_100 m_MX9_orders n_MX9_orders e_MX9_orders rfl ⟨Nat.le_of_ble_eq_true rfl, Nat.le_of_ble_eq_true rfl⟩ ⟨Nat.le_of_ble_eq_true rfl, Nat.le_of_ble_eq_true rfl⟩ hC0 rfl rfl (Nat.le_of_ble_eq_true rfl) ?_
  rintro r I1 J1 ⟨hr, hV1, hI1, hJ1⟩
  obtain ⟨v, rfl⟩ : ∃ v, r = .long v := ⟨_, hr.trans v_forders.choose_spec⟩
  try dsimp only [zov, Option.toList, List.cons_append, List.nil_append]
  refine g_aload_n (t := ML) (pc := 874) dL_law_874 rfl rfl ?_
  refine g_callV (t := ML) (pc := 875) (c_X10_orders kM_A (vM_to hW hI1 hJ1)) dL_law_875 l_RL_104 m_MX10_orders n_MX10_orders e_MX10_orders rfl ⟨Nat.le_of_ble_eq_true rfl, Nat.le_of_ble_eq_true rfl⟩ ⟨Nat.le_of_ble_eq_true rfl, Nat.le_of_ble_eq_true rfl⟩ hM0 rfl rfl (Nat.le_of_ble_eq_true rfl) ?_
  rintro r2 I2 J2 ⟨hr2, hW2, hI2, hJ2⟩
  obtain rfl : r2 = .long v := hr2.trans hr.symm
  try dsimp only [zov, Option.toList, List.cons_append, List.nil_append]
  refine g_lcmp (t := ML) (pc := 878) dL_law_878 ?_
  exact g_if_eq (t := ML) (pc := 879) (tgt := 1469) dL_law_879 (by decide) (fun _ => K I2 J2 _ (vC_to hV1 hI2 hJ2) hW2) (fun h => absurd (law_cmp v) h)
set_option maxHeartbeats 1000000 in
set_option maxRecDepth 20000 in
theorem law_c21 {b L i : Nat} {xs : Nat → Int32} {I : zI} {J : zJ} {S : zS} (hL : L ≤ 3072) (hi : i + 6 ≤ L) (hV : vC I J S) (hW : vM I J S) (K : ∀ I' J' S', vC I' J' S' → vM I' J' S' → GL b L xs 1469 [.ref 97, .ref 0, .ref 79, .int (nI i)] [] I' J') : GL b L xs 884 [.ref 97, .ref 0, .ref 79, .int (nI i)] [] I J := by
  have hC0 := kC_A.1
  have hM0 := kM_A.1
  refine g_aload_n (t := ML) (pc := 884) dL_law_884 rfl rfl ?_
  refine gl_arg (pc := 885) (j := 1) dL_law_885 dL_law_886 dL_law_887 dL_law_888 dL_law_889 (by decide) hL (by omega) ?_
  refine g_callV (t := ML) (pc := 890) (c_X9_rank kC_A hV) dL_law_890 l_RL_105 m_MX9_rank n_MX9_rank e_MX9_rank rfl ⟨Nat.le_of_ble_eq_true rfl, Nat.le_of_ble_eq_true rfl⟩ ⟨Nat.le_of_ble_eq_true rfl, Nat.le_of_ble_eq_true rfl⟩ hC0 rfl rfl (Nat.le_of_ble_eq_true rfl) ?_
  rintro r I1 J1 ⟨hr, hV1, hI1, hJ1⟩
  obtain ⟨v, rfl⟩ : ∃ v, r = .int v := ⟨_, hr.trans v_frank.choose_spec⟩
  try dsimp only [zov, Option.toList, List.cons_append, List.nil_append]
  refine g_aload_n (t := ML) (pc := 893) dL_law_893 rfl rfl ?_
  refine gl_arg (pc := 894) (j := 1) dL_law_894 dL_law_895 dL_law_896 dL_law_897 dL_law_898 (by decide) hL (by omega) ?_
  refine g_callV (t := ML) (pc := 899) (c_X10_rank kM_A (vM_to hW hI1 hJ1)) dL_law_899 l_RL_108 m_MX10_rank n_MX10_rank e_MX10_rank rfl ⟨Nat.le_of_ble_eq_true rfl, Nat.le_of_ble_eq_true rfl⟩ ⟨Nat.le_of_ble_eq_true rfl, Nat.le_of_ble_eq_true rfl⟩ hM0 rfl rfl (Nat.le_of_ble_eq_true rfl) ?_
  rintro r2 I2 J2 ⟨hr2, hW2, hI2, hJ2⟩
  obtain rfl : r2 = .int v := hr2.trans hr.symm
  try dsimp only [zov, Option.toList, List.cons_append, List.nil_append]
  exact g_icmp_eq (t := ML) (pc := 902) (tgt := 1469) dL_law_902 (by decide) (fun _ => K I2 J2 _ (vC_to hV1 hI2 hJ2) hW2) (fun h => absurd rfl h)
set_option maxHeartbeats 1000000 in
set_option maxRecDepth 20000 in
theorem law_c22 {b L i : Nat} {xs : Nat → Int32} {I : zI} {J : zJ} {S : zS} (hL : L ≤ 3072) (hi : i + 6 ≤ L) (hV : vC I J S) (hW : vM I J S) (K : ∀ I' J' S', vC I' J' S' → vM I' J' S' → GL b L xs 1469 [.ref 97, .ref 0, .ref 79, .int (nI i)] [] I' J') : GL b L xs 907 [.ref 97, .ref 0, .ref 79, .int (nI i)] [] I J := by
  have hC0 := kC_A.1
  have hM0 := kM_A.1
  refine g_aload_n (t := ML) (pc := 907) dL_law_907 rfl rfl ?_
  refine gl_arg (pc := 908) (j := 1) dL_law_908 dL_law_909 dL_law_910 dL_law_911 dL_law_912 (by decide) hL (by omega) ?_
  refine gl_arg (pc := 913) (j := 2) dL_law_913 dL_law_914 dL_law_915 dL_law_916 dL_law_917 (by decide) hL (by omega) ?_
  refine gl_arg (pc := 918) (j := 3) dL_law_918 dL_law_919 dL_law_920 dL_law_921 dL_law_922 (by decide) hL (by omega) ?_
  refine g_callV (t := ML) (pc := 923) (c_X9_see kC_A hV) dL_law_923 l_RL_109 m_MX9_see n_MX9_see e_MX9_see rfl ⟨Nat.le_of_ble_eq_true rfl, Nat.le_of_ble_eq_true rfl⟩ ⟨Nat.le_of_ble_eq_true rfl, Nat.le_of_ble_eq_true rfl⟩ hC0 rfl rfl (Nat.le_of_ble_eq_true rfl) ?_
  rintro r I1 J1 ⟨hr, hV1, hI1, hJ1⟩
  obtain ⟨v, rfl⟩ : ∃ v, r = .int v := ⟨_, hr.trans v_flist.choose_spec⟩
  try dsimp only [zov, Option.toList, List.cons_append, List.nil_append]
  refine g_aload_n (t := ML) (pc := 926) dL_law_926 rfl rfl ?_
  refine gl_arg (pc := 927) (j := 1) dL_law_927 dL_law_928 dL_law_929 dL_law_930 dL_law_931 (by decide) hL (by omega) ?_
  refine gl_arg (pc := 932) (j := 2) dL_law_932 dL_law_933 dL_law_934 dL_law_935 dL_law_936 (by decide) hL (by omega) ?_
  refine gl_arg (pc := 937) (j := 3) dL_law_937 dL_law_938 dL_law_939 dL_law_940 dL_law_941 (by decide) hL (by omega) ?_
  refine g_callV (t := ML) (pc := 942) (c_X10_see kM_A (vM_to hW hI1 hJ1)) dL_law_942 l_RL_112 m_MX10_see n_MX10_see e_MX10_see rfl ⟨Nat.le_of_ble_eq_true rfl, Nat.le_of_ble_eq_true rfl⟩ ⟨Nat.le_of_ble_eq_true rfl, Nat.le_of_ble_eq_true rfl⟩ hM0 rfl rfl (Nat.le_of_ble_eq_true rfl) ?_
  rintro r2 I2 J2 ⟨hr2, hW2, hI2, hJ2⟩
  obtain rfl : r2 = .int v := hr2.trans hr.symm
  try dsimp only [zov, Option.toList, List.cons_append, List.nil_append]
  exact g_icmp_eq (t := ML) (pc := 945) (tgt := 1469) dL_law_945 (by decide) (fun _ => K I2 J2 _ (vC_to hV1 hI2 hJ2) hW2) (fun h => absurd rfl h)
set_option maxHeartbeats 1000000 in
set_option maxRecDepth 20000 in
theorem law_c23 {b L i : Nat} {xs : Nat → Int32} {I : zI} {J : zJ} {S : zS} (hL : L ≤ 3072) (hi : i + 6 ≤ L) (hV : vC I J S) (hW : vM I J S) (K : ∀ I' J' S', vC I' J' S' → vM I' J' S' → GL b L xs 1469 [.ref 97, .ref 0, .ref 79, .int (nI i)] [] I' J') : GL b L xs 950 [.ref 97, .ref 0, .ref 79, .int (nI i)] [] I J := by
  have hC0 := kC_A.1
  have hM0 := kM_A.1
  refine g_aload_n (t := ML) (pc := 950) dL_law_950 rfl rfl ?_
  refine gl_arg (pc := 951) (j := 1) dL_law_951 dL_law_952 dL_law_953 dL_law_954 dL_law_955 (by decide) hL (by omega) ?_
  refine gl_arg (pc := 956) (j := 2) dL_law_956 dL_law_957 dL_law_958 dL_law_959 dL_law_960 (by decide) hL (by omega) ?_
  refine gl_arg (pc := 961) (j := 3) dL_law_961 dL_law_962 dL_law_963 dL_law_964 dL_law_965 (by decide) hL (by omega) ?_
  refine g_callV (t := ML) (pc := 966) (c_X9_fitting kC_A hV) dL_law_966 l_RL_113 m_MX9_fitting n_MX9_fitting e_MX9_fitting rfl ⟨Nat.le_of_ble_eq_true rfl, Nat.le_of_ble_eq_true rfl⟩ ⟨Nat.le_of_ble_eq_true rfl, Nat.le_of_ble_eq_true rfl⟩ hC0 rfl rfl (Nat.le_of_ble_eq_true rfl) ?_
  rintro r I1 J1 ⟨hr, hV1, hI1, hJ1⟩
  obtain ⟨v, rfl⟩ : ∃ v, r = .int v := ⟨_, hr.trans v_ffitting.choose_spec⟩
  try dsimp only [zov, Option.toList, List.cons_append, List.nil_append]
  refine g_aload_n (t := ML) (pc := 969) dL_law_969 rfl rfl ?_
  refine gl_arg (pc := 970) (j := 1) dL_law_970 dL_law_971 dL_law_972 dL_law_973 dL_law_974 (by decide) hL (by omega) ?_
  refine gl_arg (pc := 975) (j := 2) dL_law_975 dL_law_976 dL_law_977 dL_law_978 dL_law_979 (by decide) hL (by omega) ?_
  refine gl_arg (pc := 980) (j := 3) dL_law_980 dL_law_981 dL_law_982 dL_law_983 dL_law_984 (by decide) hL (by omega) ?_
  refine g_callV (t := ML) (pc := 985) (c_X10_fitting kM_A (vM_to hW hI1 hJ1)) dL_law_985 l_RL_116 m_MX10_fitting n_MX10_fitting e_MX10_fitting rfl ⟨Nat.le_of_ble_eq_true rfl, Nat.le_of_ble_eq_true rfl⟩ ⟨Nat.le_of_ble_eq_true rfl, Nat.le_of_ble_eq_true rfl⟩ hM0 rfl rfl (Nat.le_of_ble_eq_true rfl) ?_
  rintro r2 I2 J2 ⟨hr2, hW2, hI2, hJ2⟩
  obtain rfl : r2 = .int v := hr2.trans hr.symm
  try dsimp only [zov, Option.toList, List.cons_append, List.nil_append]
  exact g_icmp_eq (t := ML) (pc := 988) (tgt := 1469) dL_law_988 (by decide) (fun _ => K I2 J2 _ (vC_to hV1 hI2 hJ2) hW2) (fun h => absurd rfl h)
set_option maxHeartbeats 1000000 in
set_option maxRecDepth 20000 in
theorem law_c24 {b L i : Nat} {xs : Nat → Int32} {I : zI} {J : zJ} {S : zS} (hL : L ≤ 3072) (hi : i + 6 ≤ L) (hV : vC I J S) (hW : vM I J S) (K : ∀ I' J' S', vC I' J' S' → vM I' J' S' → GL b L xs 1469 [.ref 97, .ref 0, .ref 79, .int (nI i)] [] I' J') : GL b L xs 993 [.ref 97, .ref 0, .ref 79, .int (nI i)] [] I J := by
  have hC0 := kC_A.1
  have hM0 := kM_A.1
  refine g_aload_n (t := ML) (pc := 993) dL_law_993 rfl rfl ?_
  refine gl_arg (pc := 994) (j := 1) dL_law_994 dL_law_995 dL_law_996 dL_law_997 dL_law_998 (by decide) hL (by omega) ?_
  refine gl_arg (pc := 999) (j := 2) dL_law_999 dL_law_1000 dL_law_1001 dL_law_1002 dL_law_1003 (by decide) hL (by omega) ?_
  refine gl_arg (pc := 1004) (j := 3) dL_law_1004 dL_law_1005 dL_law_1006 dL_law_1007 dL_law_1008 (by decide) hL (by omega) ?_
  refine g_callV (t := ML) (pc := 1009) (c_X9_odds kC_A hV) dL_law_1009 l_RL_117 m_MX9_odds n_MX9_odds e_MX9_odds rfl ⟨Nat.le_of_ble_eq_true rfl, Nat.le_of_ble_eq_true rfl⟩ ⟨Nat.le_of_ble_eq_true rfl, Nat.le_of_ble_eq_true rfl⟩ hC0 rfl rfl (Nat.le_of_ble_eq_true rfl) ?_
  rintro r I1 J1 ⟨hr, hV1, hI1, hJ1⟩
  obtain ⟨v, rfl⟩ : ∃ v, r = .long v := ⟨_, hr.trans v_fodds.choose_spec⟩
  try dsimp only [zov, Option.toList, List.cons_append, List.nil_append]
  refine g_aload_n (t := ML) (pc := 1012) dL_law_1012 rfl rfl ?_
  refine gl_arg (pc := 1013) (j := 1) dL_law_1013 dL_law_1014 dL_law_1015 dL_law_1016 dL_law_1017 (by decide) hL (by omega) ?_
  refine gl_arg (pc := 1018) (j := 2) dL_law_1018 dL_law_1019 dL_law_1020 dL_law_1021 dL_law_1022 (by decide) hL (by omega) ?_
  refine gl_arg (pc := 1023) (j := 3) dL_law_1023 dL_law_1024 dL_law_1025 dL_law_1026 dL_law_1027 (by decide) hL (by omega) ?_
  refine g_callV (t := ML) (pc := 1028) (c_X10_odds kM_A (vM_to hW hI1 hJ1)) dL_law_1028 l_RL_120 m_MX10_odds n_MX10_odds e_MX10_odds rfl ⟨Nat.le_of_ble_eq_true rfl, Nat.le_of_ble_eq_true rfl⟩ ⟨Nat.le_of_ble_eq_true rfl, Nat.le_of_ble_eq_true rfl⟩ hM0 rfl rfl (Nat.le_of_ble_eq_true rfl) ?_
  rintro r2 I2 J2 ⟨hr2, hW2, hI2, hJ2⟩
  obtain rfl : r2 = .long v := hr2.trans hr.symm
  try dsimp only [zov, Option.toList, List.cons_append, List.nil_append]
  refine g_lcmp (t := ML) (pc := 1031) dL_law_1031 ?_
  exact g_if_eq (t := ML) (pc := 1032) (tgt := 1469) dL_law_1032 (by decide) (fun _ => K I2 J2 _ (vC_to hV1 hI2 hJ2) hW2) (fun h => absurd (law_cmp v) h)
set_option maxHeartbeats 1000000 in
set_option maxRecDepth 20000 in
theorem law_c25 {b L i : Nat} {xs : Nat → Int32} {I : zI} {J : zJ} {S : zS} (hL : L ≤ 3072) (hi : i + 6 ≤ L) (hV : vC I J S) (hW : vM I J S) (K : ∀ I' J' S', vC I' J' S' → vM I' J' S' → GL b L xs 1469 [.ref 97, .ref 0, .ref 79, .int (nI i)] [] I' J') : GL b L xs 1037 [.ref 97, .ref 0, .ref 79, .int (nI i)] [] I J := by
  have hC0 := kC_A.1
  have hM0 := kM_A.1
  refine g_aload_n (t := ML) (pc := 1037) dL_law_1037 rfl rfl ?_
  refine gl_arg (pc := 1038) (j := 1) dL_law_1038 dL_law_1039 dL_law_1040 dL_law_1041 dL_law_1042 (by decide) hL (by omega) ?_
  refine g_callV (t := ML) (pc := 1043) (c_X9_mean kC_A hV) dL_law_1043 l_RL_121 m_MX9_mean n_MX9_mean e_MX9_mean rfl ⟨Nat.le_of_ble_eq_true rfl, Nat.le_of_ble_eq_true rfl⟩ ⟨Nat.le_of_ble_eq_true rfl, Nat.le_of_ble_eq_true rfl⟩ hC0 rfl rfl (Nat.le_of_ble_eq_true rfl) ?_
  rintro r I1 J1 ⟨hr, hV1, hI1, hJ1⟩
  obtain ⟨v, rfl⟩ : ∃ v, r = .long v := ⟨_, hr.trans v_fmean.choose_spec⟩
  try dsimp only [zov, Option.toList, List.cons_append, List.nil_append]
  refine g_aload_n (t := ML) (pc := 1046) dL_law_1046 rfl rfl ?_
  refine gl_arg (pc := 1047) (j := 1) dL_law_1047 dL_law_1048 dL_law_1049 dL_law_1050 dL_law_1051 (by decide) hL (by omega) ?_
  refine g_callV (t := ML) (pc := 1052) (c_X10_mean kM_A (vM_to hW hI1 hJ1)) dL_law_1052 l_RL_125 m_MX10_mean n_MX10_mean e_MX10_mean rfl ⟨Nat.le_of_ble_eq_true rfl, Nat.le_of_ble_eq_true rfl⟩ ⟨Nat.le_of_ble_eq_true rfl, Nat.le_of_ble_eq_true rfl⟩ hM0 rfl rfl (Nat.le_of_ble_eq_true rfl) ?_
  rintro r2 I2 J2 ⟨hr2, hW2, hI2, hJ2⟩
  obtain rfl : r2 = .long v := hr2.trans hr.symm
  try dsimp only [zov, Option.toList, List.cons_append, List.nil_append]
  refine g_lcmp (t := ML) (pc := 1055) dL_law_1055 ?_
  exact g_if_eq (t := ML) (pc := 1056) (tgt := 1469) dL_law_1056 (by decide) (fun _ => K I2 J2 _ (vC_to hV1 hI2 hJ2) hW2) (fun h => absurd (law_cmp v) h)
set_option maxHeartbeats 1000000 in
set_option maxRecDepth 20000 in
theorem law_c26 {b L i : Nat} {xs : Nat → Int32} {I : zI} {J : zJ} {S : zS} (hL : L ≤ 3072) (hi : i + 6 ≤ L) (hV : vC I J S) (hW : vM I J S) (K : ∀ I' J' S', vC I' J' S' → vM I' J' S' → GL b L xs 1469 [.ref 97, .ref 0, .ref 79, .int (nI i)] [] I' J') : GL b L xs 1061 [.ref 97, .ref 0, .ref 79, .int (nI i)] [] I J := by
  have hC0 := kC_A.1
  have hM0 := kM_A.1
  refine g_aload_n (t := ML) (pc := 1061) dL_law_1061 rfl rfl ?_
  refine gl_arg (pc := 1062) (j := 1) dL_law_1062 dL_law_1063 dL_law_1064 dL_law_1065 dL_law_1066 (by decide) hL (by omega) ?_
  refine gl_arg (pc := 1067) (j := 2) dL_law_1067 dL_law_1068 dL_law_1069 dL_law_1070 dL_law_1071 (by decide) hL (by omega) ?_
  refine g_callV (t := ML) (pc := 1072) (c_X9_event kC_A hV) dL_law_1072 l_RL_126 m_MX9_event n_MX9_event e_MX9_event rfl ⟨Nat.le_of_ble_eq_true rfl, Nat.le_of_ble_eq_true rfl⟩ ⟨Nat.le_of_ble_eq_true rfl, Nat.le_of_ble_eq_true rfl⟩ hC0 rfl rfl (Nat.le_of_ble_eq_true rfl) ?_
  rintro r I1 J1 ⟨hr, hV1, hI1, hJ1⟩
  obtain ⟨v, rfl⟩ : ∃ v, r = .int v := ⟨_, hr.trans v_fevent.choose_spec⟩
  try dsimp only [zov, Option.toList, List.cons_append, List.nil_append]
  refine g_aload_n (t := ML) (pc := 1075) dL_law_1075 rfl rfl ?_
  refine gl_arg (pc := 1076) (j := 1) dL_law_1076 dL_law_1077 dL_law_1078 dL_law_1079 dL_law_1080 (by decide) hL (by omega) ?_
  refine gl_arg (pc := 1081) (j := 2) dL_law_1081 dL_law_1082 dL_law_1083 dL_law_1084 dL_law_1085 (by decide) hL (by omega) ?_
  refine g_callV (t := ML) (pc := 1086) (c_X10_event kM_A (vM_to hW hI1 hJ1)) dL_law_1086 l_RL_129 m_MX10_event n_MX10_event e_MX10_event rfl ⟨Nat.le_of_ble_eq_true rfl, Nat.le_of_ble_eq_true rfl⟩ ⟨Nat.le_of_ble_eq_true rfl, Nat.le_of_ble_eq_true rfl⟩ hM0 rfl rfl (Nat.le_of_ble_eq_true rfl) ?_
  rintro r2 I2 J2 ⟨hr2, hW2, hI2, hJ2⟩
  obtain rfl : r2 = .int v := hr2.trans hr.symm
  try dsimp only [zov, Option.toList, List.cons_append, List.nil_append]
  exact g_icmp_eq (t := ML) (pc := 1089) (tgt := 1469) dL_law_1089 (by decide) (fun _ => K I2 J2 _ (vC_to hV1 hI2 hJ2) hW2) (fun h => absurd rfl h)
set_option maxHeartbeats 1000000 in
set_option maxRecDepth 20000 in
theorem law_c27 {b L i : Nat} {xs : Nat → Int32} {I : zI} {J : zJ} {S : zS} (hL : L ≤ 3072) (hi : i + 6 ≤ L) (hV : vC I J S) (hW : vM I J S) (K : ∀ I' J' S', vC I' J' S' → vM I' J' S' → GL b L xs 1469 [.ref 97, .ref 0, .ref 79, .int (nI i)] [] I' J') : GL b L xs 1094 [.ref 97, .ref 0, .ref 79, .int (nI i)] [] I J := by
  have hC0 := kC_A.1
  have hM0 := kM_A.1
  refine g_aload_n (t := ML) (pc := 1094) dL_law_1094 rfl rfl ?_
  refine gl_arg (pc := 1095) (j := 1) dL_law_1095 dL_law_1096 dL_law_1097 dL_law_1098 dL_law_1099 (by decide) hL (by omega) ?_
  refine g_callV (t := ML) (pc := 1100) (c_X9_after kC_A hV) dL_law_1100 l_RL_130 m_MX9_after n_MX9_after e_MX9_after rfl ⟨Nat.le_of_ble_eq_true rfl, Nat.le_of_ble_eq_true rfl⟩ ⟨Nat.le_of_ble_eq_true rfl, Nat.le_of_ble_eq_true rfl⟩ hC0 rfl rfl (Nat.le_of_ble_eq_true rfl) ?_
  rintro r I1 J1 ⟨hr, hV1, hI1, hJ1⟩
  obtain ⟨v, rfl⟩ : ∃ v, r = .long v := ⟨_, hr.trans v_fafter.choose_spec⟩
  try dsimp only [zov, Option.toList, List.cons_append, List.nil_append]
  refine g_aload_n (t := ML) (pc := 1103) dL_law_1103 rfl rfl ?_
  refine gl_arg (pc := 1104) (j := 1) dL_law_1104 dL_law_1105 dL_law_1106 dL_law_1107 dL_law_1108 (by decide) hL (by omega) ?_
  refine g_callV (t := ML) (pc := 1109) (c_X10_after kM_A (vM_to hW hI1 hJ1)) dL_law_1109 l_RL_133 m_MX10_after n_MX10_after e_MX10_after rfl ⟨Nat.le_of_ble_eq_true rfl, Nat.le_of_ble_eq_true rfl⟩ ⟨Nat.le_of_ble_eq_true rfl, Nat.le_of_ble_eq_true rfl⟩ hM0 rfl rfl (Nat.le_of_ble_eq_true rfl) ?_
  rintro r2 I2 J2 ⟨hr2, hW2, hI2, hJ2⟩
  obtain rfl : r2 = .long v := hr2.trans hr.symm
  try dsimp only [zov, Option.toList, List.cons_append, List.nil_append]
  refine g_lcmp (t := ML) (pc := 1112) dL_law_1112 ?_
  exact g_if_eq (t := ML) (pc := 1113) (tgt := 1469) dL_law_1113 (by decide) (fun _ => K I2 J2 _ (vC_to hV1 hI2 hJ2) hW2) (fun h => absurd (law_cmp v) h)
set_option maxHeartbeats 1000000 in
set_option maxRecDepth 20000 in
theorem law_c28 {b L i : Nat} {xs : Nat → Int32} {I : zI} {J : zJ} {S : zS} (hL : L ≤ 3072) (hi : i + 6 ≤ L) (hV : vC I J S) (hW : vM I J S) (K : ∀ I' J' S', vC I' J' S' → vM I' J' S' → GL b L xs 1469 [.ref 97, .ref 0, .ref 79, .int (nI i)] [] I' J') : GL b L xs 1118 [.ref 97, .ref 0, .ref 79, .int (nI i)] [] I J := by
  have hC0 := kC_A.1
  have hM0 := kM_A.1
  refine g_aload_n (t := ML) (pc := 1118) dL_law_1118 rfl rfl ?_
  refine gl_arg (pc := 1119) (j := 1) dL_law_1119 dL_law_1120 dL_law_1121 dL_law_1122 dL_law_1123 (by decide) hL (by omega) ?_
  refine gl_arg (pc := 1124) (j := 2) dL_law_1124 dL_law_1125 dL_law_1126 dL_law_1127 dL_law_1128 (by decide) hL (by omega) ?_
  refine gl_arg (pc := 1129) (j := 3) dL_law_1129 dL_law_1130 dL_law_1131 dL_law_1132 dL_law_1133 (by decide) hL (by omega) ?_
  refine g_callV (t := ML) (pc := 1134) (c_X9_book kC_A hV) dL_law_1134 l_RL_134 m_MX9_book n_MX9_book e_MX9_book rfl ⟨Nat.le_of_ble_eq_true rfl, Nat.le_of_ble_eq_true rfl⟩ ⟨Nat.le_of_ble_eq_true rfl, Nat.le_of_ble_eq_true rfl⟩ hC0 rfl rfl (Nat.le_of_ble_eq_true rfl) ?_
  rintro r I1 J1 ⟨hr, hV1, hI1, hJ1⟩
  obtain ⟨v, rfl⟩ : ∃ v, r = .int v := ⟨_, hr.trans v_flist.choose_spec⟩
  try dsimp only [zov, Option.toList, List.cons_append, List.nil_append]
  refine g_aload_n (t := ML) (pc := 1137) dL_law_1137 rfl rfl ?_
  refine gl_arg (pc := 1138) (j := 1) dL_law_1138 dL_law_1139 dL_law_1140 dL_law_1141 dL_law_1142 (by decide) hL (by omega) ?_
  refine gl_arg (pc := 1143) (j := 2) dL_law_1143 dL_law_1144 dL_law_1145 dL_law_1146 dL_law_1147 (by decide) hL (by omega) ?_
  refine gl_arg (pc := 1148) (j := 3) dL_law_1148 dL_law_1149 dL_law_1150 dL_law_1151 dL_law_1152 (by decide) hL (by omega) ?_
  refine g_callV (t := ML) (pc := 1153) (c_X10_book kM_A (vM_to hW hI1 hJ1)) dL_law_1153 l_RL_137 m_MX10_book n_MX10_book e_MX10_book rfl ⟨Nat.le_of_ble_eq_true rfl, Nat.le_of_ble_eq_true rfl⟩ ⟨Nat.le_of_ble_eq_true rfl, Nat.le_of_ble_eq_true rfl⟩ hM0 rfl rfl (Nat.le_of_ble_eq_true rfl) ?_
  rintro r2 I2 J2 ⟨hr2, hW2, hI2, hJ2⟩
  obtain rfl : r2 = .int v := hr2.trans hr.symm
  try dsimp only [zov, Option.toList, List.cons_append, List.nil_append]
  exact g_icmp_eq (t := ML) (pc := 1156) (tgt := 1469) dL_law_1156 (by decide) (fun _ => K I2 J2 _ (vC_to hV1 hI2 hJ2) hW2) (fun h => absurd rfl h)
set_option maxHeartbeats 1000000 in
set_option maxRecDepth 20000 in
theorem law_c29 {b L i : Nat} {xs : Nat → Int32} {I : zI} {J : zJ} {S : zS} (hL : L ≤ 3072) (hi : i + 6 ≤ L) (hV : vC I J S) (hW : vM I J S) (K : ∀ I' J' S', vC I' J' S' → vM I' J' S' → GL b L xs 1469 [.ref 97, .ref 0, .ref 79, .int (nI i)] [] I' J') : GL b L xs 1161 [.ref 97, .ref 0, .ref 79, .int (nI i)] [] I J := by
  have hC0 := kC_A.1
  have hM0 := kM_A.1
  refine g_aload_n (t := ML) (pc := 1161) dL_law_1161 rfl rfl ?_
  refine g_callV (t := ML) (pc := 1162) (c_X9_looked kC_A hV) dL_law_1162 l_RL_138 m_MX9_looked n_MX9_looked e_MX9_looked rfl ⟨Nat.le_of_ble_eq_true rfl, Nat.le_of_ble_eq_true rfl⟩ ⟨Nat.le_of_ble_eq_true rfl, Nat.le_of_ble_eq_true rfl⟩ hC0 rfl rfl (Nat.le_of_ble_eq_true rfl) ?_
  rintro r I1 J1 ⟨hr, hV1, hI1, hJ1⟩
  obtain ⟨v, rfl⟩ : ∃ v, r = .int v := ⟨_, hr.trans v_flooked.choose_spec⟩
  try dsimp only [zov, Option.toList, List.cons_append, List.nil_append]
  refine g_aload_n (t := ML) (pc := 1165) dL_law_1165 rfl rfl ?_
  refine g_callV (t := ML) (pc := 1166) (c_X10_looked kM_A (vM_to hW hI1 hJ1)) dL_law_1166 l_RL_141 m_MX10_looked n_MX10_looked e_MX10_looked rfl ⟨Nat.le_of_ble_eq_true rfl, Nat.le_of_ble_eq_true rfl⟩ ⟨Nat.le_of_ble_eq_true rfl, Nat.le_of_ble_eq_true rfl⟩ hM0 rfl rfl (Nat.le_of_ble_eq_true rfl) ?_
  rintro r2 I2 J2 ⟨hr2, hW2, hI2, hJ2⟩
  obtain rfl : r2 = .int v := hr2.trans hr.symm
  try dsimp only [zov, Option.toList, List.cons_append, List.nil_append]
  exact g_icmp_eq (t := ML) (pc := 1169) (tgt := 1469) dL_law_1169 (by decide) (fun _ => K I2 J2 _ (vC_to hV1 hI2 hJ2) hW2) (fun h => absurd rfl h)
set_option maxHeartbeats 1000000 in
set_option maxRecDepth 20000 in
theorem law_c30 {b L i : Nat} {xs : Nat → Int32} {I : zI} {J : zJ} {S : zS} (hL : L ≤ 3072) (hi : i + 6 ≤ L) (hV : vC I J S) (hW : vM I J S) (K : ∀ I' J' S', vC I' J' S' → vM I' J' S' → GL b L xs 1469 [.ref 97, .ref 0, .ref 79, .int (nI i)] [] I' J') : GL b L xs 1174 [.ref 97, .ref 0, .ref 79, .int (nI i)] [] I J := by
  have hC0 := kC_A.1
  have hM0 := kM_A.1
  refine g_aload_n (t := ML) (pc := 1174) dL_law_1174 rfl rfl ?_
  refine gl_arg (pc := 1175) (j := 1) dL_law_1175 dL_law_1176 dL_law_1177 dL_law_1178 dL_law_1179 (by decide) hL (by omega) ?_
  refine gl_arg (pc := 1180) (j := 2) dL_law_1180 dL_law_1181 dL_law_1182 dL_law_1183 dL_law_1184 (by decide) hL (by omega) ?_
  refine g_callV (t := ML) (pc := 1185) (c_X9_judge kC_A hV) dL_law_1185 l_RL_142 m_MX9_judge n_MX9_judge e_MX9_judge rfl ⟨Nat.le_of_ble_eq_true rfl, Nat.le_of_ble_eq_true rfl⟩ ⟨Nat.le_of_ble_eq_true rfl, Nat.le_of_ble_eq_true rfl⟩ hC0 rfl rfl (Nat.le_of_ble_eq_true rfl) ?_
  rintro r I1 J1 ⟨hr, hV1, hI1, hJ1⟩
  obtain ⟨v, rfl⟩ : ∃ v, r = .int v := ⟨_, hr.trans v_fjudge.choose_spec⟩
  try dsimp only [zov, Option.toList, List.cons_append, List.nil_append]
  refine g_aload_n (t := ML) (pc := 1188) dL_law_1188 rfl rfl ?_
  refine gl_arg (pc := 1189) (j := 1) dL_law_1189 dL_law_1190 dL_law_1191 dL_law_1192 dL_law_1193 (by decide) hL (by omega) ?_
  refine gl_arg (pc := 1194) (j := 2) dL_law_1194 dL_law_1195 dL_law_1196 dL_law_1197 dL_law_1198 (by decide) hL (by omega) ?_
  refine g_callV (t := ML) (pc := 1199) (c_X10_judge kM_A (vM_to hW hI1 hJ1)) dL_law_1199 l_RL_145 m_MX10_judge n_MX10_judge e_MX10_judge rfl ⟨Nat.le_of_ble_eq_true rfl, Nat.le_of_ble_eq_true rfl⟩ ⟨Nat.le_of_ble_eq_true rfl, Nat.le_of_ble_eq_true rfl⟩ hM0 rfl rfl (Nat.le_of_ble_eq_true rfl) ?_
  rintro r2 I2 J2 ⟨hr2, hW2, hI2, hJ2⟩
  obtain rfl : r2 = .int v := hr2.trans hr.symm
  try dsimp only [zov, Option.toList, List.cons_append, List.nil_append]
  exact g_icmp_eq (t := ML) (pc := 1202) (tgt := 1469) dL_law_1202 (by decide) (fun _ => K I2 J2 _ (vC_to hV1 hI2 hJ2) hW2) (fun h => absurd rfl h)
set_option maxHeartbeats 1000000 in
set_option maxRecDepth 20000 in
theorem law_c31 {b L i : Nat} {xs : Nat → Int32} {I : zI} {J : zJ} {S : zS} (hL : L ≤ 3072) (hi : i + 6 ≤ L) (hV : vC I J S) (hW : vM I J S) (K : ∀ I' J' S', vC I' J' S' → vM I' J' S' → GL b L xs 1469 [.ref 97, .ref 0, .ref 79, .int (nI i)] [] I' J') : GL b L xs 1207 [.ref 97, .ref 0, .ref 79, .int (nI i)] [] I J := by
  have hC0 := kC_A.1
  have hM0 := kM_A.1
  refine g_aload_n (t := ML) (pc := 1207) dL_law_1207 rfl rfl ?_
  refine g_callV (t := ML) (pc := 1208) (c_X9_image kC_A hV) dL_law_1208 l_RL_146 m_MX9_image n_MX9_image e_MX9_image rfl ⟨Nat.le_of_ble_eq_true rfl, Nat.le_of_ble_eq_true rfl⟩ ⟨Nat.le_of_ble_eq_true rfl, Nat.le_of_ble_eq_true rfl⟩ hC0 rfl rfl (Nat.le_of_ble_eq_true rfl) ?_
  rintro r I1 J1 ⟨hr, hV1, hI1, hJ1⟩
  obtain ⟨v, rfl⟩ : ∃ v, r = .int v := ⟨_, hr.trans v_fimage.choose_spec⟩
  try dsimp only [zov, Option.toList, List.cons_append, List.nil_append]
  refine g_aload_n (t := ML) (pc := 1211) dL_law_1211 rfl rfl ?_
  refine g_callV (t := ML) (pc := 1212) (c_X10_image kM_A (vM_to hW hI1 hJ1)) dL_law_1212 l_RL_149 m_MX10_image n_MX10_image e_MX10_image rfl ⟨Nat.le_of_ble_eq_true rfl, Nat.le_of_ble_eq_true rfl⟩ ⟨Nat.le_of_ble_eq_true rfl, Nat.le_of_ble_eq_true rfl⟩ hM0 rfl rfl (Nat.le_of_ble_eq_true rfl) ?_
  rintro r2 I2 J2 ⟨hr2, hW2, hI2, hJ2⟩
  obtain rfl : r2 = .int v := hr2.trans hr.symm
  try dsimp only [zov, Option.toList, List.cons_append, List.nil_append]
  exact g_icmp_eq (t := ML) (pc := 1215) (tgt := 1469) dL_law_1215 (by decide) (fun _ => K I2 J2 _ (vC_to hV1 hI2 hJ2) hW2) (fun h => absurd rfl h)
set_option maxHeartbeats 1000000 in
set_option maxRecDepth 20000 in
theorem law_c32 {b L i : Nat} {xs : Nat → Int32} {I : zI} {J : zJ} {S : zS} (hL : L ≤ 3072) (hi : i + 6 ≤ L) (hV : vC I J S) (hW : vM I J S) (K : ∀ I' J' S', vC I' J' S' → vM I' J' S' → GL b L xs 1469 [.ref 97, .ref 0, .ref 79, .int (nI i)] [] I' J') : GL b L xs 1220 [.ref 97, .ref 0, .ref 79, .int (nI i)] [] I J := by
  have hC0 := kC_A.1
  have hM0 := kM_A.1
  refine g_aload_n (t := ML) (pc := 1220) dL_law_1220 rfl rfl ?_
  refine g_callV (t := ML) (pc := 1221) (c_X9_undo kC_A hV) dL_law_1221 l_RL_150 m_MX9_undo n_MX9_undo e_MX9_undo rfl ⟨Nat.le_of_ble_eq_true rfl, Nat.le_of_ble_eq_true rfl⟩ ⟨Nat.le_of_ble_eq_true rfl, Nat.le_of_ble_eq_true rfl⟩ hC0 rfl rfl (Nat.le_of_ble_eq_true rfl) ?_
  rintro r I1 J1 ⟨hr, hV1, hI1, hJ1⟩
  obtain ⟨v, rfl⟩ : ∃ v, r = .int v := ⟨_, hr.trans v_fundo.choose_spec⟩
  try dsimp only [zov, Option.toList, List.cons_append, List.nil_append]
  refine g_aload_n (t := ML) (pc := 1224) dL_law_1224 rfl rfl ?_
  refine g_callV (t := ML) (pc := 1225) (c_X10_undo kM_A (vM_to hW hI1 hJ1)) dL_law_1225 l_RL_153 m_MX10_undo n_MX10_undo e_MX10_undo rfl ⟨Nat.le_of_ble_eq_true rfl, Nat.le_of_ble_eq_true rfl⟩ ⟨Nat.le_of_ble_eq_true rfl, Nat.le_of_ble_eq_true rfl⟩ hM0 rfl rfl (Nat.le_of_ble_eq_true rfl) ?_
  rintro r2 I2 J2 ⟨hr2, hW2, hI2, hJ2⟩
  obtain rfl : r2 = .int v := hr2.trans hr.symm
  try dsimp only [zov, Option.toList, List.cons_append, List.nil_append]
  exact g_icmp_eq (t := ML) (pc := 1228) (tgt := 1469) dL_law_1228 (by decide) (fun _ => K I2 J2 _ (vC_to hV1 hI2 hJ2) hW2) (fun h => absurd rfl h)
set_option maxHeartbeats 1000000 in
set_option maxRecDepth 20000 in
theorem law_c33 {b L i : Nat} {xs : Nat → Int32} {I : zI} {J : zJ} {S : zS} (hL : L ≤ 3072) (hi : i + 6 ≤ L) (hV : vC I J S) (hW : vM I J S) (K : ∀ I' J' S', vC I' J' S' → vM I' J' S' → GL b L xs 1469 [.ref 97, .ref 0, .ref 79, .int (nI i)] [] I' J') : GL b L xs 1233 [.ref 97, .ref 0, .ref 79, .int (nI i)] [] I J := by
  have hC0 := kC_A.1
  have hM0 := kM_A.1
  refine g_aload_n (t := ML) (pc := 1233) dL_law_1233 rfl rfl ?_
  refine gl_arg (pc := 1234) (j := 1) dL_law_1234 dL_law_1235 dL_law_1236 dL_law_1237 dL_law_1238 (by decide) hL (by omega) ?_
  refine g_callV (t := ML) (pc := 1239) (c_X9_count kC_A hV) dL_law_1239 l_RL_154 m_MX9_count n_MX9_count e_MX9_count rfl ⟨Nat.le_of_ble_eq_true rfl, Nat.le_of_ble_eq_true rfl⟩ ⟨Nat.le_of_ble_eq_true rfl, Nat.le_of_ble_eq_true rfl⟩ hC0 rfl rfl (Nat.le_of_ble_eq_true rfl) ?_
  rintro r I1 J1 ⟨hr, hV1, hI1, hJ1⟩
  obtain ⟨v, rfl⟩ : ∃ v, r = .int v := ⟨_, hr.trans v_fcount.choose_spec⟩
  try dsimp only [zov, Option.toList, List.cons_append, List.nil_append]
  refine g_aload_n (t := ML) (pc := 1242) dL_law_1242 rfl rfl ?_
  refine gl_arg (pc := 1243) (j := 1) dL_law_1243 dL_law_1244 dL_law_1245 dL_law_1246 dL_law_1247 (by decide) hL (by omega) ?_
  refine g_callV (t := ML) (pc := 1248) (c_X10_count kM_A (vM_to hW hI1 hJ1)) dL_law_1248 l_RL_157 m_MX10_count n_MX10_count e_MX10_count rfl ⟨Nat.le_of_ble_eq_true rfl, Nat.le_of_ble_eq_true rfl⟩ ⟨Nat.le_of_ble_eq_true rfl, Nat.le_of_ble_eq_true rfl⟩ hM0 rfl rfl (Nat.le_of_ble_eq_true rfl) ?_
  rintro r2 I2 J2 ⟨hr2, hW2, hI2, hJ2⟩
  obtain rfl : r2 = .int v := hr2.trans hr.symm
  try dsimp only [zov, Option.toList, List.cons_append, List.nil_append]
  exact g_icmp_eq (t := ML) (pc := 1251) (tgt := 1469) dL_law_1251 (by decide) (fun _ => K I2 J2 _ (vC_to hV1 hI2 hJ2) hW2) (fun h => absurd rfl h)
set_option maxHeartbeats 1000000 in
set_option maxRecDepth 20000 in
theorem law_c34 {b L i : Nat} {xs : Nat → Int32} {I : zI} {J : zJ} {S : zS} (hL : L ≤ 3072) (hi : i + 6 ≤ L) (hV : vC I J S) (hW : vM I J S) (K : ∀ I' J' S', vC I' J' S' → vM I' J' S' → GL b L xs 1469 [.ref 97, .ref 0, .ref 79, .int (nI i)] [] I' J') : GL b L xs 1256 [.ref 97, .ref 0, .ref 79, .int (nI i)] [] I J := by
  have hC0 := kC_A.1
  have hM0 := kM_A.1
  refine g_aload_n (t := ML) (pc := 1256) dL_law_1256 rfl rfl ?_
  refine gl_arg (pc := 1257) (j := 1) dL_law_1257 dL_law_1258 dL_law_1259 dL_law_1260 dL_law_1261 (by decide) hL (by omega) ?_
  refine gl_arg (pc := 1262) (j := 2) dL_law_1262 dL_law_1263 dL_law_1264 dL_law_1265 dL_law_1266 (by decide) hL (by omega) ?_
  refine gl_arg (pc := 1267) (j := 3) dL_law_1267 dL_law_1268 dL_law_1269 dL_law_1270 dL_law_1271 (by decide) hL (by omega) ?_
  refine g_callV (t := ML) (pc := 1272) (c_X9_tape kC_A hV) dL_law_1272 l_RL_158 m_MX9_tape n_MX9_tape e_MX9_tape rfl ⟨Nat.le_of_ble_eq_true rfl, Nat.le_of_ble_eq_true rfl⟩ ⟨Nat.le_of_ble_eq_true rfl, Nat.le_of_ble_eq_true rfl⟩ hC0 rfl rfl (Nat.le_of_ble_eq_true rfl) ?_
  rintro r I1 J1 ⟨hr, hV1, hI1, hJ1⟩
  obtain ⟨v, rfl⟩ : ∃ v, r = .int v := ⟨_, hr.trans v_ftape.choose_spec⟩
  try dsimp only [zov, Option.toList, List.cons_append, List.nil_append]
  refine g_aload_n (t := ML) (pc := 1275) dL_law_1275 rfl rfl ?_
  refine gl_arg (pc := 1276) (j := 1) dL_law_1276 dL_law_1277 dL_law_1278 dL_law_1279 dL_law_1280 (by decide) hL (by omega) ?_
  refine gl_arg (pc := 1281) (j := 2) dL_law_1281 dL_law_1282 dL_law_1283 dL_law_1284 dL_law_1285 (by decide) hL (by omega) ?_
  refine gl_arg (pc := 1286) (j := 3) dL_law_1286 dL_law_1287 dL_law_1288 dL_law_1289 dL_law_1290 (by decide) hL (by omega) ?_
  refine g_callV (t := ML) (pc := 1291) (c_X10_tape kM_A (vM_to hW hI1 hJ1)) dL_law_1291 l_RL_161 m_MX10_tape n_MX10_tape e_MX10_tape rfl ⟨Nat.le_of_ble_eq_true rfl, Nat.le_of_ble_eq_true rfl⟩ ⟨Nat.le_of_ble_eq_true rfl, Nat.le_of_ble_eq_true rfl⟩ hM0 rfl rfl (Nat.le_of_ble_eq_true rfl) ?_
  rintro r2 I2 J2 ⟨hr2, hW2, hI2, hJ2⟩
  obtain rfl : r2 = .int v := hr2.trans hr.symm
  try dsimp only [zov, Option.toList, List.cons_append, List.nil_append]
  exact g_icmp_eq (t := ML) (pc := 1294) (tgt := 1469) dL_law_1294 (by decide) (fun _ => K I2 J2 _ (vC_to hV1 hI2 hJ2) hW2) (fun h => absurd rfl h)
set_option maxHeartbeats 1000000 in
set_option maxRecDepth 20000 in
theorem law_c35 {b L i : Nat} {xs : Nat → Int32} {I : zI} {J : zJ} {S : zS} (hL : L ≤ 3072) (hi : i + 6 ≤ L) (hV : vC I J S) (hW : vM I J S) (K : ∀ I' J' S', vC I' J' S' → vM I' J' S' → GL b L xs 1469 [.ref 97, .ref 0, .ref 79, .int (nI i)] [] I' J') : GL b L xs 1299 [.ref 97, .ref 0, .ref 79, .int (nI i)] [] I J := by
  have hC0 := kC_A.1
  have hM0 := kM_A.1
  refine g_aload_n (t := ML) (pc := 1299) dL_law_1299 rfl rfl ?_
  refine gl_arg (pc := 1300) (j := 1) dL_law_1300 dL_law_1301 dL_law_1302 dL_law_1303 dL_law_1304 (by decide) hL (by omega) ?_
  refine gl_arg (pc := 1305) (j := 2) dL_law_1305 dL_law_1306 dL_law_1307 dL_law_1308 dL_law_1309 (by decide) hL (by omega) ?_
  refine gl_arg (pc := 1310) (j := 3) dL_law_1310 dL_law_1311 dL_law_1312 dL_law_1313 dL_law_1314 (by decide) hL (by omega) ?_
  refine g_i2l (t := ML) (pc := 1315) dL_law_1315 rfl ?_
  refine g_bipush (t := ML) (pc := 1316) (v := nI 32) dL_law_1316 (by decide) ?_
  refine g_lshl (t := ML) (pc := 1318) dL_law_1318 rfl ?_
  refine gl_arg (pc := 1319) (j := 4) dL_law_1319 dL_law_1320 dL_law_1321 dL_law_1322 dL_law_1323 (by decide) hL (by omega) ?_
  refine g_i2l (t := ML) (pc := 1324) dL_law_1324 rfl ?_
  refine g_ldc2 (t := ML) (pc := 1325) (v := 4294967295) dL_law_1325 q_RL_162 ?_
  refine g_land (t := ML) (pc := 1328) dL_law_1328 ?_
  refine g_lor (t := ML) (pc := 1329) dL_law_1329 ?_
  refine g_callV (t := ML) (pc := 1330) (c_X9_item kC_A hV) dL_law_1330 l_RL_164 m_MX9_item n_MX9_item e_MX9_item rfl ⟨Nat.le_of_ble_eq_true rfl, Nat.le_of_ble_eq_true rfl⟩ ⟨Nat.le_of_ble_eq_true rfl, Nat.le_of_ble_eq_true rfl⟩ hC0 rfl rfl (Nat.le_of_ble_eq_true rfl) ?_
  rintro r I1 J1 ⟨hr, hV1, hI1, hJ1⟩
  obtain ⟨v, rfl⟩ : ∃ v, r = .int v := ⟨_, hr.trans v_fitem.choose_spec⟩
  try dsimp only [zov, Option.toList, List.cons_append, List.nil_append]
  refine g_aload_n (t := ML) (pc := 1333) dL_law_1333 rfl rfl ?_
  refine gl_arg (pc := 1334) (j := 1) dL_law_1334 dL_law_1335 dL_law_1336 dL_law_1337 dL_law_1338 (by decide) hL (by omega) ?_
  refine gl_arg (pc := 1339) (j := 2) dL_law_1339 dL_law_1340 dL_law_1341 dL_law_1342 dL_law_1343 (by decide) hL (by omega) ?_
  refine gl_arg (pc := 1344) (j := 3) dL_law_1344 dL_law_1345 dL_law_1346 dL_law_1347 dL_law_1348 (by decide) hL (by omega) ?_
  refine g_i2l (t := ML) (pc := 1349) dL_law_1349 rfl ?_
  refine g_bipush (t := ML) (pc := 1350) (v := nI 32) dL_law_1350 (by decide) ?_
  refine g_lshl (t := ML) (pc := 1352) dL_law_1352 rfl ?_
  refine gl_arg (pc := 1353) (j := 4) dL_law_1353 dL_law_1354 dL_law_1355 dL_law_1356 dL_law_1357 (by decide) hL (by omega) ?_
  refine g_i2l (t := ML) (pc := 1358) dL_law_1358 rfl ?_
  refine g_ldc2 (t := ML) (pc := 1359) (v := 4294967295) dL_law_1359 q_RL_162 ?_
  refine g_land (t := ML) (pc := 1362) dL_law_1362 ?_
  refine g_lor (t := ML) (pc := 1363) dL_law_1363 ?_
  refine g_callV (t := ML) (pc := 1364) (c_X10_item kM_A (vM_to hW hI1 hJ1)) dL_law_1364 l_RL_168 m_MX10_item n_MX10_item e_MX10_item rfl ⟨Nat.le_of_ble_eq_true rfl, Nat.le_of_ble_eq_true rfl⟩ ⟨Nat.le_of_ble_eq_true rfl, Nat.le_of_ble_eq_true rfl⟩ hM0 rfl rfl (Nat.le_of_ble_eq_true rfl) ?_
  rintro r2 I2 J2 ⟨hr2, hW2, hI2, hJ2⟩
  obtain rfl : r2 = .int v := hr2.trans hr.symm
  try dsimp only [zov, Option.toList, List.cons_append, List.nil_append]
  exact g_icmp_eq (t := ML) (pc := 1367) (tgt := 1469) dL_law_1367 (by decide) (fun _ => K I2 J2 _ (vC_to hV1 hI2 hJ2) hW2) (fun h => absurd rfl h)
set_option maxHeartbeats 1000000 in
set_option maxRecDepth 20000 in
theorem law_c36 {b L i : Nat} {xs : Nat → Int32} {I : zI} {J : zJ} {S : zS} (hL : L ≤ 3072) (hi : i + 6 ≤ L) (hV : vC I J S) (hW : vM I J S) (K : ∀ I' J' S', vC I' J' S' → vM I' J' S' → GL b L xs 1469 [.ref 97, .ref 0, .ref 79, .int (nI i)] [] I' J') : GL b L xs 1372 [.ref 97, .ref 0, .ref 79, .int (nI i)] [] I J := by
  have hC0 := kC_A.1
  have hM0 := kM_A.1
  refine g_aload_n (t := ML) (pc := 1372) dL_law_1372 rfl rfl ?_
  refine gl_arg (pc := 1373) (j := 1) dL_law_1373 dL_law_1374 dL_law_1375 dL_law_1376 dL_law_1377 (by decide) hL (by omega) ?_
  refine gl_arg (pc := 1378) (j := 2) dL_law_1378 dL_law_1379 dL_law_1380 dL_law_1381 dL_law_1382 (by decide) hL (by omega) ?_
  refine g_callV (t := ML) (pc := 1383) (c_X9_peek kC_A hV) dL_law_1383 l_RL_169 m_MX9_peek n_MX9_peek e_MX9_peek rfl ⟨Nat.le_of_ble_eq_true rfl, Nat.le_of_ble_eq_true rfl⟩ ⟨Nat.le_of_ble_eq_true rfl, Nat.le_of_ble_eq_true rfl⟩ hC0 rfl rfl (Nat.le_of_ble_eq_true rfl) ?_
  rintro r I1 J1 ⟨hr, hV1, hI1, hJ1⟩
  obtain ⟨v, rfl⟩ : ∃ v, r = .long v := ⟨_, hr.trans v_fpeek.choose_spec⟩
  try dsimp only [zov, Option.toList, List.cons_append, List.nil_append]
  refine g_aload_n (t := ML) (pc := 1386) dL_law_1386 rfl rfl ?_
  refine gl_arg (pc := 1387) (j := 1) dL_law_1387 dL_law_1388 dL_law_1389 dL_law_1390 dL_law_1391 (by decide) hL (by omega) ?_
  refine gl_arg (pc := 1392) (j := 2) dL_law_1392 dL_law_1393 dL_law_1394 dL_law_1395 dL_law_1396 (by decide) hL (by omega) ?_
  refine g_callV (t := ML) (pc := 1397) (c_X10_peek kM_A (vM_to hW hI1 hJ1)) dL_law_1397 l_RL_173 m_MX10_peek n_MX10_peek e_MX10_peek rfl ⟨Nat.le_of_ble_eq_true rfl, Nat.le_of_ble_eq_true rfl⟩ ⟨Nat.le_of_ble_eq_true rfl, Nat.le_of_ble_eq_true rfl⟩ hM0 rfl rfl (Nat.le_of_ble_eq_true rfl) ?_
  rintro r2 I2 J2 ⟨hr2, hW2, hI2, hJ2⟩
  obtain rfl : r2 = .long v := hr2.trans hr.symm
  try dsimp only [zov, Option.toList, List.cons_append, List.nil_append]
  refine g_lcmp (t := ML) (pc := 1400) dL_law_1400 ?_
  exact g_if_eq (t := ML) (pc := 1401) (tgt := 1469) dL_law_1401 (by decide) (fun _ => K I2 J2 _ (vC_to hV1 hI2 hJ2) hW2) (fun h => absurd (law_cmp v) h)
set_option maxHeartbeats 1000000 in
set_option maxRecDepth 20000 in
theorem law_c37 {b L i : Nat} {xs : Nat → Int32} {I : zI} {J : zJ} {S : zS} (hL : L ≤ 3072) (hi : i + 6 ≤ L) (hV : vC I J S) (hW : vM I J S) (K : ∀ I' J' S', vC I' J' S' → vM I' J' S' → GL b L xs 1469 [.ref 97, .ref 0, .ref 79, .int (nI i)] [] I' J') : GL b L xs 1406 [.ref 97, .ref 0, .ref 79, .int (nI i)] [] I J := by
  have hC0 := kC_A.1
  have hM0 := kM_A.1
  refine g_aload_n (t := ML) (pc := 1406) dL_law_1406 rfl rfl ?_
  refine gl_arg (pc := 1407) (j := 1) dL_law_1407 dL_law_1408 dL_law_1409 dL_law_1410 dL_law_1411 (by decide) hL (by omega) ?_
  refine gl_arg (pc := 1412) (j := 2) dL_law_1412 dL_law_1413 dL_law_1414 dL_law_1415 dL_law_1416 (by decide) hL (by omega) ?_
  refine gl_arg (pc := 1417) (j := 3) dL_law_1417 dL_law_1418 dL_law_1419 dL_law_1420 dL_law_1421 (by decide) hL (by omega) ?_
  refine gl_arg (pc := 1422) (j := 4) dL_law_1422 dL_law_1423 dL_law_1424 dL_law_1425 dL_law_1426 (by decide) hL (by omega) ?_
  refine gl_arg (pc := 1427) (j := 5) dL_law_1427 dL_law_1428 dL_law_1429 dL_law_1430 dL_law_1431 (by decide) hL (by omega) ?_
  refine g_callV (t := ML) (pc := 1432) (c_X9_shift kC_A hV) dL_law_1432 l_RL_174 m_MX9_shift n_MX9_shift e_MX9_shift rfl ⟨Nat.le_of_ble_eq_true rfl, Nat.le_of_ble_eq_true rfl⟩ ⟨Nat.le_of_ble_eq_true rfl, Nat.le_of_ble_eq_true rfl⟩ hC0 rfl rfl (Nat.le_of_ble_eq_true rfl) ?_
  rintro r I1 J1 ⟨hr, hV1, hI1, hJ1⟩
  obtain ⟨v, rfl⟩ : ∃ v, r = .int v := ⟨_, hr.trans v_fshift.choose_spec⟩
  try dsimp only [zov, Option.toList, List.cons_append, List.nil_append]
  refine g_aload_n (t := ML) (pc := 1435) dL_law_1435 rfl rfl ?_
  refine gl_arg (pc := 1436) (j := 1) dL_law_1436 dL_law_1437 dL_law_1438 dL_law_1439 dL_law_1440 (by decide) hL (by omega) ?_
  refine gl_arg (pc := 1441) (j := 2) dL_law_1441 dL_law_1442 dL_law_1443 dL_law_1444 dL_law_1445 (by decide) hL (by omega) ?_
  refine gl_arg (pc := 1446) (j := 3) dL_law_1446 dL_law_1447 dL_law_1448 dL_law_1449 dL_law_1450 (by decide) hL (by omega) ?_
  refine gl_arg (pc := 1451) (j := 4) dL_law_1451 dL_law_1452 dL_law_1453 dL_law_1454 dL_law_1455 (by decide) hL (by omega) ?_
  refine gl_arg (pc := 1456) (j := 5) dL_law_1456 dL_law_1457 dL_law_1458 dL_law_1459 dL_law_1460 (by decide) hL (by omega) ?_
  refine g_callV (t := ML) (pc := 1461) (c_X10_shift kM_A (vM_to hW hI1 hJ1)) dL_law_1461 l_RL_178 m_MX10_shift n_MX10_shift e_MX10_shift rfl ⟨Nat.le_of_ble_eq_true rfl, Nat.le_of_ble_eq_true rfl⟩ ⟨Nat.le_of_ble_eq_true rfl, Nat.le_of_ble_eq_true rfl⟩ hM0 rfl rfl (Nat.le_of_ble_eq_true rfl) ?_
  rintro r2 I2 J2 ⟨hr2, hW2, hI2, hJ2⟩
  obtain rfl : r2 = .int v := hr2.trans hr.symm
  try dsimp only [zov, Option.toList, List.cons_append, List.nil_append]
  exact g_icmp_eq (t := ML) (pc := 1464) (tgt := 1469) dL_law_1464 (by decide) (fun _ => K I2 J2 _ (vC_to hV1 hI2 hJ2) hW2) (fun h => absurd rfl h)
