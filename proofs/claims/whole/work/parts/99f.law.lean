theorem law_gt {n i : Nat} (hn : n ≤ 3072) (hi : i ≤ 3100) (h : n < i + 6) : nI n - nI 6 < nI i := by
  by_cases c : 6 ≤ n
  · rw [pk_sub c, Int32.lt_iff_toInt_lt, nI_toInt (by omega), nI_toInt (by omega)]
    omega
  · have key : ∀ q, q < 6 → (nI q - nI 6).toInt < 0 := by decide +kernel
    rw [Int32.lt_iff_toInt_lt, nI_toInt (show i < 2 ^ 31 by omega)]
    have := key n (by omega)
    omega
theorem RelA_k {m : jm} {k : Nat} (h : RelA m m k) : RelA m m (k + 1) := by
  obtain ⟨P, T, L, W, hS, hC, hT, hL, hW, hX, hP, hQ, ⟨z1, z2⟩, hK, hF⟩ := h
  exact ⟨P, T, L, W, hS, hC, hT, hL, hW, hX, hP, hQ, ⟨z1, z2⟩, hK, hF⟩
set_option maxRecDepth 100000 in
set_option maxHeartbeats 400000 in
theorem law_part {x : jX} {m : jm} {d k i : Nat} (hl : (jxS x).2.1 ≤ 3072) (hi : i + 6 ≤ (jxS x).2.1) (hR : RelA m m k) (hk : k < 1000) (ih : ∀ m', RelA m' m' (k + 1) → K x (d + 121) eL_law 1455 [some (.ref (jxS x).1), some (.ref (jxb x + 0)), some (.ref (jxb x + 140)), some (.int (nI i))] [] m' (fun r _ => r = some (.int 1))) : K x (d + 121) eL_law 212 [some (.ref (jxS x).1), some (.ref (jxb x + 0)), some (.ref (jxb x + 140)), some (.int (nI i))] [] m (fun r _ => r = some (.int 1)) := by
  refine J_aload_n (pc := 212) dL_law_212 rfl ?_
  refine J_aload_n (pc := 213) dL_law_213 rfl ?_
  refine J_iload_n (pc := 214) dL_law_214 rfl ?_
  refine J_iconst (pc := 215) dL_law_215 kni_1 ?_
  refine J_iaddv (pc := 216) dL_law_216 (nI_add _ _) ?_
  refine J_sld (pc := 217) dL_law_217 (vp_in_nI (by omega) (by omega)) ?_
  refine J_aload_n (pc := 218) dL_law_218 rfl ?_
  refine J_iload_n (pc := 219) dL_law_219 rfl ?_
  refine J_iconst (pc := 220) dL_law_220 kni_2 ?_
  refine J_iaddv (pc := 221) dL_law_221 (nI_add _ _) ?_
  refine J_sld (pc := 222) dL_law_222 (vp_in_nI (by omega) (by omega)) ?_
  refine J_aload_n (pc := 223) dL_law_223 rfl ?_
  refine J_iload_n (pc := 224) dL_law_224 rfl ?_
  refine J_iconst (pc := 225) dL_law_225 kni_3 ?_
  refine J_iaddv (pc := 226) dL_law_226 (nI_add _ _) ?_
  refine J_sld (pc := 227) dL_law_227 (vp_in_nI (by omega) (by omega)) ?_
  refine J_aload_n (pc := 228) dL_law_228 rfl ?_
  refine J_iload_n (pc := 229) dL_law_229 rfl ?_
  refine J_iconst (pc := 230) dL_law_230 kni_4 ?_
  refine J_iaddv (pc := 231) dL_law_231 (nI_add _ _) ?_
  refine J_sld (pc := 232) dL_law_232 (vp_in_nI (by omega) (by omega)) ?_
  refine J_aload_n (pc := 233) dL_law_233 rfl ?_
  refine J_iload_n (pc := 234) dL_law_234 rfl ?_
  refine J_iconst (pc := 235) dL_law_235 kni_5 ?_
  refine J_iaddv (pc := 236) dL_law_236 (nI_add _ _) ?_
  refine J_sld (pc := 237) dL_law_237 (vp_in_nI (by omega) (by omega)) ?_
  refine K_callVi (pc := 238) (id := 0) (As := [_, _, _, _, _]) dL_law_238 kl_L_13 rfl job_0 rfl rfl (Nat.le_of_ble_eq_true rfl) (q_part hR _ _ _ _ _) (fun va ma ha => ?_)
  refine J_aload_n (pc := 241) dL_law_241 rfl ?_
  refine J_aload_n (pc := 242) dL_law_242 rfl ?_
  refine J_iload_n (pc := 243) dL_law_243 rfl ?_
  refine J_iconst (pc := 244) dL_law_244 kni_1 ?_
  refine J_iaddv (pc := 245) dL_law_245 (nI_add _ _) ?_
  refine J_sld (pc := 246) dL_law_246 (vp_in_nI (by omega) (by omega)) ?_
  refine J_aload_n (pc := 247) dL_law_247 rfl ?_
  refine J_iload_n (pc := 248) dL_law_248 rfl ?_
  refine J_iconst (pc := 249) dL_law_249 kni_2 ?_
  refine J_iaddv (pc := 250) dL_law_250 (nI_add _ _) ?_
  refine J_sld (pc := 251) dL_law_251 (vp_in_nI (by omega) (by omega)) ?_
  refine J_aload_n (pc := 252) dL_law_252 rfl ?_
  refine J_iload_n (pc := 253) dL_law_253 rfl ?_
  refine J_iconst (pc := 254) dL_law_254 kni_3 ?_
  refine J_iaddv (pc := 255) dL_law_255 (nI_add _ _) ?_
  refine J_sld (pc := 256) dL_law_256 (vp_in_nI (by omega) (by omega)) ?_
  refine J_aload_n (pc := 257) dL_law_257 rfl ?_
  refine J_iload_n (pc := 258) dL_law_258 rfl ?_
  refine J_iconst (pc := 259) dL_law_259 kni_4 ?_
  refine J_iaddv (pc := 260) dL_law_260 (nI_add _ _) ?_
  refine J_sld (pc := 261) dL_law_261 (vp_in_nI (by omega) (by omega)) ?_
  refine J_aload_n (pc := 262) dL_law_262 rfl ?_
  refine J_iload_n (pc := 263) dL_law_263 rfl ?_
  refine J_iconst (pc := 264) dL_law_264 kni_5 ?_
  refine J_iaddv (pc := 265) dL_law_265 (nI_add _ _) ?_
  refine J_sld (pc := 266) dL_law_266 (vp_in_nI (by omega) (by omega)) ?_
  refine K_callVi (pc := 267) (id := 140) (As := [_, _, _, _, _]) dL_law_267 kl_L_17 rfl job_140 rfl rfl (Nat.le_of_ble_eq_true rfl) (ha) (fun vb mb hb => ?_)
  obtain ⟨hb, hR2⟩ := hb
  refine J_icmp_eq (pc := 270) (tgt := 1455) dL_law_270 (by decide) (fun h270 => ?_) (fun h270 => absurd hb.symm h270)
  exact ih mb hR2
set_option maxRecDepth 100000 in
set_option maxHeartbeats 400000 in
theorem law_told {x : jX} {m : jm} {d k i : Nat} (hl : (jxS x).2.1 ≤ 3072) (hi : i + 6 ≤ (jxS x).2.1) (hR : RelA m m k) (hk : k < 1000) (ih : ∀ m', RelA m' m' (k + 1) → K x (d + 121) eL_law 1455 [some (.ref (jxS x).1), some (.ref (jxb x + 0)), some (.ref (jxb x + 140)), some (.int (nI i))] [] m' (fun r _ => r = some (.int 1))) : K x (d + 121) eL_law 275 [some (.ref (jxS x).1), some (.ref (jxb x + 0)), some (.ref (jxb x + 140)), some (.int (nI i))] [] m (fun r _ => r = some (.int 1)) := by
  refine J_aload_n (pc := 275) dL_law_275 rfl ?_
  refine J_aload_n (pc := 276) dL_law_276 rfl ?_
  refine J_iload_n (pc := 277) dL_law_277 rfl ?_
  refine J_iconst (pc := 278) dL_law_278 kni_1 ?_
  refine J_iaddv (pc := 279) dL_law_279 (nI_add _ _) ?_
  refine J_sld (pc := 280) dL_law_280 (vp_in_nI (by omega) (by omega)) ?_
  refine J_aload_n (pc := 281) dL_law_281 rfl ?_
  refine J_iload_n (pc := 282) dL_law_282 rfl ?_
  refine J_iconst (pc := 283) dL_law_283 kni_2 ?_
  refine J_iaddv (pc := 284) dL_law_284 (nI_add _ _) ?_
  refine J_sld (pc := 285) dL_law_285 (vp_in_nI (by omega) (by omega)) ?_
  refine K_callVi (pc := 286) (id := 0) (As := [_, _]) dL_law_286 kl_L_18 rfl job_0 rfl rfl (Nat.le_of_ble_eq_true rfl) (q_told hR _ _) (fun va ma ha => ?_)
  refine J_aload_n (pc := 289) dL_law_289 rfl ?_
  refine J_aload_n (pc := 290) dL_law_290 rfl ?_
  refine J_iload_n (pc := 291) dL_law_291 rfl ?_
  refine J_iconst (pc := 292) dL_law_292 kni_1 ?_
  refine J_iaddv (pc := 293) dL_law_293 (nI_add _ _) ?_
  refine J_sld (pc := 294) dL_law_294 (vp_in_nI (by omega) (by omega)) ?_
  refine J_aload_n (pc := 295) dL_law_295 rfl ?_
  refine J_iload_n (pc := 296) dL_law_296 rfl ?_
  refine J_iconst (pc := 297) dL_law_297 kni_2 ?_
  refine J_iaddv (pc := 298) dL_law_298 (nI_add _ _) ?_
  refine J_sld (pc := 299) dL_law_299 (vp_in_nI (by omega) (by omega)) ?_
  refine K_callVi (pc := 300) (id := 140) (As := [_, _]) dL_law_300 kl_L_22 rfl job_140 rfl rfl (Nat.le_of_ble_eq_true rfl) (ha) (fun vb mb hb => ?_)
  obtain ⟨hb, hR2⟩ := hb
  refine J_icmp_eq (pc := 303) (tgt := 1455) dL_law_303 (by decide) (fun h303 => ?_) (fun h303 => absurd hb.symm h303)
  exact ih mb hR2
set_option maxRecDepth 100000 in
set_option maxHeartbeats 400000 in
theorem law_as {x : jX} {m : jm} {d k i : Nat} (hl : (jxS x).2.1 ≤ 3072) (hi : i + 6 ≤ (jxS x).2.1) (hR : RelA m m k) (hk : k < 1000) (ih : ∀ m', RelA m' m' (k + 1) → K x (d + 121) eL_law 1455 [some (.ref (jxS x).1), some (.ref (jxb x + 0)), some (.ref (jxb x + 140)), some (.int (nI i))] [] m' (fun r _ => r = some (.int 1))) : K x (d + 121) eL_law 308 [some (.ref (jxS x).1), some (.ref (jxb x + 0)), some (.ref (jxb x + 140)), some (.int (nI i))] [] m (fun r _ => r = some (.int 1)) := by
  refine J_aload_n (pc := 308) dL_law_308 rfl ?_
  refine J_aload_n (pc := 309) dL_law_309 rfl ?_
  refine J_iload_n (pc := 310) dL_law_310 rfl ?_
  refine J_iconst (pc := 311) dL_law_311 kni_1 ?_
  refine J_iaddv (pc := 312) dL_law_312 (nI_add _ _) ?_
  refine J_sld (pc := 313) dL_law_313 (vp_in_nI (by omega) (by omega)) ?_
  refine J_aload_n (pc := 314) dL_law_314 rfl ?_
  refine J_iload_n (pc := 315) dL_law_315 rfl ?_
  refine J_iconst (pc := 316) dL_law_316 kni_2 ?_
  refine J_iaddv (pc := 317) dL_law_317 (nI_add _ _) ?_
  refine J_sld (pc := 318) dL_law_318 (vp_in_nI (by omega) (by omega)) ?_
  refine K_callVi (pc := 319) (id := 0) (As := [_, _]) dL_law_319 kl_L_23 rfl job_0 rfl rfl (Nat.le_of_ble_eq_true rfl) (q_as hR _ _) (fun va ma ha => ?_)
  refine J_aload_n (pc := 322) dL_law_322 rfl ?_
  refine J_aload_n (pc := 323) dL_law_323 rfl ?_
  refine J_iload_n (pc := 324) dL_law_324 rfl ?_
  refine J_iconst (pc := 325) dL_law_325 kni_1 ?_
  refine J_iaddv (pc := 326) dL_law_326 (nI_add _ _) ?_
  refine J_sld (pc := 327) dL_law_327 (vp_in_nI (by omega) (by omega)) ?_
  refine J_aload_n (pc := 328) dL_law_328 rfl ?_
  refine J_iload_n (pc := 329) dL_law_329 rfl ?_
  refine J_iconst (pc := 330) dL_law_330 kni_2 ?_
  refine J_iaddv (pc := 331) dL_law_331 (nI_add _ _) ?_
  refine J_sld (pc := 332) dL_law_332 (vp_in_nI (by omega) (by omega)) ?_
  refine K_callVi (pc := 333) (id := 140) (As := [_, _]) dL_law_333 kl_L_26 rfl job_140 rfl rfl (Nat.le_of_ble_eq_true rfl) (ha) (fun vb mb hb => ?_)
  obtain ⟨hb, hR2⟩ := hb
  refine J_icmp_eq (pc := 336) (tgt := 1455) dL_law_336 (by decide) (fun h336 => ?_) (fun h336 => absurd hb.symm h336)
  exact ih mb hR2
set_option maxRecDepth 100000 in
set_option maxHeartbeats 400000 in
theorem law_dies {x : jX} {m : jm} {d k i : Nat} (hl : (jxS x).2.1 ≤ 3072) (hi : i + 6 ≤ (jxS x).2.1) (hR : RelA m m k) (hk : k < 1000) (ih : ∀ m', RelA m' m' (k + 1) → K x (d + 121) eL_law 1455 [some (.ref (jxS x).1), some (.ref (jxb x + 0)), some (.ref (jxb x + 140)), some (.int (nI i))] [] m' (fun r _ => r = some (.int 1))) : K x (d + 121) eL_law 341 [some (.ref (jxS x).1), some (.ref (jxb x + 0)), some (.ref (jxb x + 140)), some (.int (nI i))] [] m (fun r _ => r = some (.int 1)) := by
  refine J_aload_n (pc := 341) dL_law_341 rfl ?_
  refine J_aload_n (pc := 342) dL_law_342 rfl ?_
  refine J_iload_n (pc := 343) dL_law_343 rfl ?_
  refine J_iconst (pc := 344) dL_law_344 kni_1 ?_
  refine J_iaddv (pc := 345) dL_law_345 (nI_add _ _) ?_
  refine J_sld (pc := 346) dL_law_346 (vp_in_nI (by omega) (by omega)) ?_
  refine K_callVi (pc := 347) (id := 0) (As := [_]) dL_law_347 kl_L_27 rfl job_0 rfl rfl (Nat.le_of_ble_eq_true rfl) (q_dies hR _) (fun va ma ha => ?_)
  refine J_aload_n (pc := 350) dL_law_350 rfl ?_
  refine J_aload_n (pc := 351) dL_law_351 rfl ?_
  refine J_iload_n (pc := 352) dL_law_352 rfl ?_
  refine J_iconst (pc := 353) dL_law_353 kni_1 ?_
  refine J_iaddv (pc := 354) dL_law_354 (nI_add _ _) ?_
  refine J_sld (pc := 355) dL_law_355 (vp_in_nI (by omega) (by omega)) ?_
  refine K_callVi (pc := 356) (id := 140) (As := [_]) dL_law_356 kl_L_31 rfl job_140 rfl rfl (Nat.le_of_ble_eq_true rfl) (ha) (fun vb mb hb => ?_)
  obtain ⟨hb, hR2⟩ := hb
  refine J_icmp_eq (pc := 359) (tgt := 1455) dL_law_359 (by decide) (fun h359 => ?_) (fun h359 => absurd hb.symm h359)
  exact ih mb hR2
set_option maxRecDepth 100000 in
set_option maxHeartbeats 400000 in
theorem law_nerve {x : jX} {m : jm} {d k i : Nat} (hl : (jxS x).2.1 ≤ 3072) (hi : i + 6 ≤ (jxS x).2.1) (hR : RelA m m k) (hk : k < 1000) (ih : ∀ m', RelA m' m' (k + 1) → K x (d + 121) eL_law 1455 [some (.ref (jxS x).1), some (.ref (jxb x + 0)), some (.ref (jxb x + 140)), some (.int (nI i))] [] m' (fun r _ => r = some (.int 1))) : K x (d + 121) eL_law 364 [some (.ref (jxS x).1), some (.ref (jxb x + 0)), some (.ref (jxb x + 140)), some (.int (nI i))] [] m (fun r _ => r = some (.int 1)) := by
  refine J_aload_n (pc := 364) dL_law_364 rfl ?_
  refine J_aload_n (pc := 365) dL_law_365 rfl ?_
  refine J_iload_n (pc := 366) dL_law_366 rfl ?_
  refine J_iconst (pc := 367) dL_law_367 kni_1 ?_
  refine J_iaddv (pc := 368) dL_law_368 (nI_add _ _) ?_
  refine J_sld (pc := 369) dL_law_369 (vp_in_nI (by omega) (by omega)) ?_
  refine J_aload_n (pc := 370) dL_law_370 rfl ?_
  refine J_iload_n (pc := 371) dL_law_371 rfl ?_
  refine J_iconst (pc := 372) dL_law_372 kni_2 ?_
  refine J_iaddv (pc := 373) dL_law_373 (nI_add _ _) ?_
  refine J_sld (pc := 374) dL_law_374 (vp_in_nI (by omega) (by omega)) ?_
  refine J_aload_n (pc := 375) dL_law_375 rfl ?_
  refine J_iload_n (pc := 376) dL_law_376 rfl ?_
  refine J_iconst (pc := 377) dL_law_377 kni_3 ?_
  refine J_iaddv (pc := 378) dL_law_378 (nI_add _ _) ?_
  refine J_sld (pc := 379) dL_law_379 (vp_in_nI (by omega) (by omega)) ?_
  refine K_callVi (pc := 380) (id := 0) (As := [_, _, _]) dL_law_380 kl_L_32 rfl job_0 rfl rfl (Nat.le_of_ble_eq_true rfl) (q_nerve hR _ _ _) (fun va ma ha => ?_)
  refine J_aload_n (pc := 383) dL_law_383 rfl ?_
  refine J_aload_n (pc := 384) dL_law_384 rfl ?_
  refine J_iload_n (pc := 385) dL_law_385 rfl ?_
  refine J_iconst (pc := 386) dL_law_386 kni_1 ?_
  refine J_iaddv (pc := 387) dL_law_387 (nI_add _ _) ?_
  refine J_sld (pc := 388) dL_law_388 (vp_in_nI (by omega) (by omega)) ?_
  refine J_aload_n (pc := 389) dL_law_389 rfl ?_
  refine J_iload_n (pc := 390) dL_law_390 rfl ?_
  refine J_iconst (pc := 391) dL_law_391 kni_2 ?_
  refine J_iaddv (pc := 392) dL_law_392 (nI_add _ _) ?_
  refine J_sld (pc := 393) dL_law_393 (vp_in_nI (by omega) (by omega)) ?_
  refine J_aload_n (pc := 394) dL_law_394 rfl ?_
  refine J_iload_n (pc := 395) dL_law_395 rfl ?_
  refine J_iconst (pc := 396) dL_law_396 kni_3 ?_
  refine J_iaddv (pc := 397) dL_law_397 (nI_add _ _) ?_
  refine J_sld (pc := 398) dL_law_398 (vp_in_nI (by omega) (by omega)) ?_
  refine K_callVi (pc := 399) (id := 140) (As := [_, _, _]) dL_law_399 kl_L_36 rfl job_140 rfl rfl (Nat.le_of_ble_eq_true rfl) (ha) (fun vb mb hb => ?_)
  obtain ⟨hb, hR2⟩ := hb
  refine J_icmp_eq (pc := 402) (tgt := 1455) dL_law_402 (by decide) (fun h402 => ?_) (fun h402 => absurd hb.symm h402)
  exact ih mb hR2
set_option maxRecDepth 100000 in
set_option maxHeartbeats 400000 in
theorem law_pull {x : jX} {m : jm} {d k i : Nat} (hl : (jxS x).2.1 ≤ 3072) (hi : i + 6 ≤ (jxS x).2.1) (hR : RelA m m k) (hk : k < 1000) (ih : ∀ m', RelA m' m' (k + 1) → K x (d + 121) eL_law 1455 [some (.ref (jxS x).1), some (.ref (jxb x + 0)), some (.ref (jxb x + 140)), some (.int (nI i))] [] m' (fun r _ => r = some (.int 1))) : K x (d + 121) eL_law 407 [some (.ref (jxS x).1), some (.ref (jxb x + 0)), some (.ref (jxb x + 140)), some (.int (nI i))] [] m (fun r _ => r = some (.int 1)) := by
  refine J_aload_n (pc := 407) dL_law_407 rfl ?_
  refine J_aload_n (pc := 408) dL_law_408 rfl ?_
  refine J_iload_n (pc := 409) dL_law_409 rfl ?_
  refine J_iconst (pc := 410) dL_law_410 kni_1 ?_
  refine J_iaddv (pc := 411) dL_law_411 (nI_add _ _) ?_
  refine J_sld (pc := 412) dL_law_412 (vp_in_nI (by omega) (by omega)) ?_
  refine J_aload_n (pc := 413) dL_law_413 rfl ?_
  refine J_iload_n (pc := 414) dL_law_414 rfl ?_
  refine J_iconst (pc := 415) dL_law_415 kni_2 ?_
  refine J_iaddv (pc := 416) dL_law_416 (nI_add _ _) ?_
  refine J_sld (pc := 417) dL_law_417 (vp_in_nI (by omega) (by omega)) ?_
  refine K_callVi (pc := 418) (id := 0) (As := [_, _]) dL_law_418 kl_L_37 rfl job_0 rfl rfl (Nat.le_of_ble_eq_true rfl) (q_pull hR _ _) (fun va ma ha => ?_)
  refine J_aload_n (pc := 421) dL_law_421 rfl ?_
  refine J_aload_n (pc := 422) dL_law_422 rfl ?_
  refine J_iload_n (pc := 423) dL_law_423 rfl ?_
  refine J_iconst (pc := 424) dL_law_424 kni_1 ?_
  refine J_iaddv (pc := 425) dL_law_425 (nI_add _ _) ?_
  refine J_sld (pc := 426) dL_law_426 (vp_in_nI (by omega) (by omega)) ?_
  refine J_aload_n (pc := 427) dL_law_427 rfl ?_
  refine J_iload_n (pc := 428) dL_law_428 rfl ?_
  refine J_iconst (pc := 429) dL_law_429 kni_2 ?_
  refine J_iaddv (pc := 430) dL_law_430 (nI_add _ _) ?_
  refine J_sld (pc := 431) dL_law_431 (vp_in_nI (by omega) (by omega)) ?_
  refine K_callVi (pc := 432) (id := 140) (As := [_, _]) dL_law_432 kl_L_40 rfl job_140 rfl rfl (Nat.le_of_ble_eq_true rfl) (ha) (fun vb mb hb => ?_)
  obtain ⟨hb, hR2⟩ := hb
  refine J_icmp_eq (pc := 435) (tgt := 1455) dL_law_435 (by decide) (fun h435 => ?_) (fun h435 => absurd hb.symm h435)
  exact ih mb hR2
set_option maxRecDepth 100000 in
set_option maxHeartbeats 400000 in
theorem law_rule {x : jX} {m : jm} {d k i : Nat} (hl : (jxS x).2.1 ≤ 3072) (hi : i + 6 ≤ (jxS x).2.1) (hR : RelA m m k) (hk : k < 1000) (ih : ∀ m', RelA m' m' (k + 1) → K x (d + 121) eL_law 1455 [some (.ref (jxS x).1), some (.ref (jxb x + 0)), some (.ref (jxb x + 140)), some (.int (nI i))] [] m' (fun r _ => r = some (.int 1))) : K x (d + 121) eL_law 440 [some (.ref (jxS x).1), some (.ref (jxb x + 0)), some (.ref (jxb x + 140)), some (.int (nI i))] [] m (fun r _ => r = some (.int 1)) := by
  refine J_aload_n (pc := 440) dL_law_440 rfl ?_
  refine J_aload_n (pc := 441) dL_law_441 rfl ?_
  refine J_iload_n (pc := 442) dL_law_442 rfl ?_
  refine J_iconst (pc := 443) dL_law_443 kni_1 ?_
  refine J_iaddv (pc := 444) dL_law_444 (nI_add _ _) ?_
  refine J_sld (pc := 445) dL_law_445 (vp_in_nI (by omega) (by omega)) ?_
  refine J_aload_n (pc := 446) dL_law_446 rfl ?_
  refine J_iload_n (pc := 447) dL_law_447 rfl ?_
  refine J_iconst (pc := 448) dL_law_448 kni_2 ?_
  refine J_iaddv (pc := 449) dL_law_449 (nI_add _ _) ?_
  refine J_sld (pc := 450) dL_law_450 (vp_in_nI (by omega) (by omega)) ?_
  refine K_callVi (pc := 451) (id := 0) (As := [_, _]) dL_law_451 kl_L_41 rfl job_0 rfl rfl (Nat.le_of_ble_eq_true rfl) (q_rule hR _ _) (fun va ma ha => ?_)
  refine J_aload_n (pc := 454) dL_law_454 rfl ?_
  refine J_aload_n (pc := 455) dL_law_455 rfl ?_
  refine J_iload_n (pc := 456) dL_law_456 rfl ?_
  refine J_iconst (pc := 457) dL_law_457 kni_1 ?_
  refine J_iaddv (pc := 458) dL_law_458 (nI_add _ _) ?_
  refine J_sld (pc := 459) dL_law_459 (vp_in_nI (by omega) (by omega)) ?_
  refine J_aload_n (pc := 460) dL_law_460 rfl ?_
  refine J_iload_n (pc := 461) dL_law_461 rfl ?_
  refine J_iconst (pc := 462) dL_law_462 kni_2 ?_
  refine J_iaddv (pc := 463) dL_law_463 (nI_add _ _) ?_
  refine J_sld (pc := 464) dL_law_464 (vp_in_nI (by omega) (by omega)) ?_
  refine K_callVi (pc := 465) (id := 140) (As := [_, _]) dL_law_465 kl_L_44 rfl job_140 rfl rfl (Nat.le_of_ble_eq_true rfl) (ha) (fun vb mb hb => ?_)
  obtain ⟨hb, hR2⟩ := hb
  refine J_icmp_eq (pc := 468) (tgt := 1455) dL_law_468 (by decide) (fun h468 => ?_) (fun h468 => absurd hb.symm h468)
  exact ih mb hR2
set_option maxRecDepth 100000 in
set_option maxHeartbeats 400000 in
theorem law_show {x : jX} {m : jm} {d k i : Nat} (hl : (jxS x).2.1 ≤ 3072) (hi : i + 6 ≤ (jxS x).2.1) (hR : RelA m m k) (hk : k < 1000) (ih : ∀ m', RelA m' m' (k + 1) → K x (d + 121) eL_law 1455 [some (.ref (jxS x).1), some (.ref (jxb x + 0)), some (.ref (jxb x + 140)), some (.int (nI i))] [] m' (fun r _ => r = some (.int 1))) : K x (d + 121) eL_law 473 [some (.ref (jxS x).1), some (.ref (jxb x + 0)), some (.ref (jxb x + 140)), some (.int (nI i))] [] m (fun r _ => r = some (.int 1)) := by
  refine J_aload_n (pc := 473) dL_law_473 rfl ?_
  refine J_aload_n (pc := 474) dL_law_474 rfl ?_
  refine J_iload_n (pc := 475) dL_law_475 rfl ?_
  refine J_iconst (pc := 476) dL_law_476 kni_1 ?_
  refine J_iaddv (pc := 477) dL_law_477 (nI_add _ _) ?_
  refine J_sld (pc := 478) dL_law_478 (vp_in_nI (by omega) (by omega)) ?_
  refine J_aload_n (pc := 479) dL_law_479 rfl ?_
  refine J_iload_n (pc := 480) dL_law_480 rfl ?_
  refine J_iconst (pc := 481) dL_law_481 kni_2 ?_
  refine J_iaddv (pc := 482) dL_law_482 (nI_add _ _) ?_
  refine J_sld (pc := 483) dL_law_483 (vp_in_nI (by omega) (by omega)) ?_
  refine K_callVi (pc := 484) (id := 0) (As := [_, _]) dL_law_484 kl_L_45 rfl job_0 rfl rfl (Nat.le_of_ble_eq_true rfl) (q_show hR _ _) (fun va ma ha => ?_)
  refine J_aload_n (pc := 487) dL_law_487 rfl ?_
  refine J_aload_n (pc := 488) dL_law_488 rfl ?_
  refine J_iload_n (pc := 489) dL_law_489 rfl ?_
  refine J_iconst (pc := 490) dL_law_490 kni_1 ?_
  refine J_iaddv (pc := 491) dL_law_491 (nI_add _ _) ?_
  refine J_sld (pc := 492) dL_law_492 (vp_in_nI (by omega) (by omega)) ?_
  refine J_aload_n (pc := 493) dL_law_493 rfl ?_
  refine J_iload_n (pc := 494) dL_law_494 rfl ?_
  refine J_iconst (pc := 495) dL_law_495 kni_2 ?_
  refine J_iaddv (pc := 496) dL_law_496 (nI_add _ _) ?_
  refine J_sld (pc := 497) dL_law_497 (vp_in_nI (by omega) (by omega)) ?_
  refine K_callVi (pc := 498) (id := 140) (As := [_, _]) dL_law_498 kl_L_48 rfl job_140 rfl rfl (Nat.le_of_ble_eq_true rfl) (ha) (fun vb mb hb => ?_)
  obtain ⟨hb, hR2⟩ := hb
  refine J_icmp_eq (pc := 501) (tgt := 1455) dL_law_501 (by decide) (fun h501 => ?_) (fun h501 => absurd hb.symm h501)
  exact ih mb hR2
set_option maxRecDepth 100000 in
set_option maxHeartbeats 400000 in
theorem law_tick {x : jX} {m : jm} {d k i : Nat} (hl : (jxS x).2.1 ≤ 3072) (hi : i + 6 ≤ (jxS x).2.1) (hR : RelA m m k) (hk : k < 1000) (ih : ∀ m', RelA m' m' (k + 1) → K x (d + 121) eL_law 1455 [some (.ref (jxS x).1), some (.ref (jxb x + 0)), some (.ref (jxb x + 140)), some (.int (nI i))] [] m' (fun r _ => r = some (.int 1))) : K x (d + 121) eL_law 506 [some (.ref (jxS x).1), some (.ref (jxb x + 0)), some (.ref (jxb x + 140)), some (.int (nI i))] [] m (fun r _ => r = some (.int 1)) := by
  refine J_aload_n (pc := 506) dL_law_506 rfl ?_
  refine J_aload_n (pc := 507) dL_law_507 rfl ?_
  refine J_iload_n (pc := 508) dL_law_508 rfl ?_
  refine J_iconst (pc := 509) dL_law_509 kni_1 ?_
  refine J_iaddv (pc := 510) dL_law_510 (nI_add _ _) ?_
  refine J_sld (pc := 511) dL_law_511 (vp_in_nI (by omega) (by omega)) ?_
  refine K_callVi (pc := 512) (id := 0) (As := [_]) dL_law_512 kl_L_49 rfl job_0 rfl rfl (Nat.le_of_ble_eq_true rfl) (q_tick hR _) (fun va ma ha => ?_)
  refine J_aload_n (pc := 515) dL_law_515 rfl ?_
  refine J_aload_n (pc := 516) dL_law_516 rfl ?_
  refine J_iload_n (pc := 517) dL_law_517 rfl ?_
  refine J_iconst (pc := 518) dL_law_518 kni_1 ?_
  refine J_iaddv (pc := 519) dL_law_519 (nI_add _ _) ?_
  refine J_sld (pc := 520) dL_law_520 (vp_in_nI (by omega) (by omega)) ?_
  refine K_callVi (pc := 521) (id := 140) (As := [_]) dL_law_521 kl_L_52 rfl job_140 rfl rfl (Nat.le_of_ble_eq_true rfl) (ha) (fun vb mb hb => ?_)
  obtain ⟨hb, hR2⟩ := hb
  refine J_icmp_eq (pc := 524) (tgt := 1455) dL_law_524 (by decide) (fun h524 => ?_) (fun h524 => absurd hb.symm h524)
  exact ih mb hR2
set_option maxRecDepth 100000 in
set_option maxHeartbeats 400000 in
theorem law_rest {x : jX} {m : jm} {d k i : Nat} (hl : (jxS x).2.1 ≤ 3072) (hi : i + 6 ≤ (jxS x).2.1) (hR : RelA m m k) (hk : k < 1000) (ih : ∀ m', RelA m' m' (k + 1) → K x (d + 121) eL_law 1455 [some (.ref (jxS x).1), some (.ref (jxb x + 0)), some (.ref (jxb x + 140)), some (.int (nI i))] [] m' (fun r _ => r = some (.int 1))) : K x (d + 121) eL_law 529 [some (.ref (jxS x).1), some (.ref (jxb x + 0)), some (.ref (jxb x + 140)), some (.int (nI i))] [] m (fun r _ => r = some (.int 1)) := by
  refine J_aload_n (pc := 529) dL_law_529 rfl ?_
  refine K_callVi (pc := 530) (id := 0) (As := []) dL_law_530 kl_L_53 rfl job_0 rfl rfl (Nat.le_of_ble_eq_true rfl) (q_rest hR) (fun va ma ha => ?_)
  refine J_aload_n (pc := 533) dL_law_533 rfl ?_
  refine K_callVi (pc := 534) (id := 140) (As := []) dL_law_534 kl_L_57 rfl job_140 rfl rfl (Nat.le_of_ble_eq_true rfl) (ha) (fun vb mb hb => ?_)
  obtain ⟨hb, hR2⟩ := hb
  refine J_icmp_eq (pc := 537) (tgt := 1455) dL_law_537 (by decide) (fun h537 => ?_) (fun h537 => absurd hb.symm h537)
  exact ih mb hR2
set_option maxRecDepth 100000 in
set_option maxHeartbeats 400000 in
theorem law_still {x : jX} {m : jm} {d k i : Nat} (hl : (jxS x).2.1 ≤ 3072) (hi : i + 6 ≤ (jxS x).2.1) (hR : RelA m m k) (hk : k < 1000) (ih : ∀ m', RelA m' m' (k + 1) → K x (d + 121) eL_law 1455 [some (.ref (jxS x).1), some (.ref (jxb x + 0)), some (.ref (jxb x + 140)), some (.int (nI i))] [] m' (fun r _ => r = some (.int 1))) : K x (d + 121) eL_law 542 [some (.ref (jxS x).1), some (.ref (jxb x + 0)), some (.ref (jxb x + 140)), some (.int (nI i))] [] m (fun r _ => r = some (.int 1)) := by
  refine J_aload_n (pc := 542) dL_law_542 rfl ?_
  refine K_callVi (pc := 543) (id := 0) (As := []) dL_law_543 kl_L_58 rfl job_0 rfl rfl (Nat.le_of_ble_eq_true rfl) (q_still hR) (fun va ma ha => ?_)
  refine J_aload_n (pc := 546) dL_law_546 rfl ?_
  refine K_callVi (pc := 547) (id := 140) (As := []) dL_law_547 kl_L_61 rfl job_140 rfl rfl (Nat.le_of_ble_eq_true rfl) (ha) (fun vb mb hb => ?_)
  obtain ⟨hb, hR2⟩ := hb
  refine J_icmp_eq (pc := 550) (tgt := 1455) dL_law_550 (by decide) (fun h550 => ?_) (fun h550 => absurd hb.symm h550)
  exact ih mb hR2
set_option maxRecDepth 100000 in
set_option maxHeartbeats 400000 in
theorem law_change {x : jX} {m : jm} {d k i : Nat} (hl : (jxS x).2.1 ≤ 3072) (hi : i + 6 ≤ (jxS x).2.1) (hR : RelA m m k) (hk : k < 1000) (ih : ∀ m', RelA m' m' (k + 1) → K x (d + 121) eL_law 1455 [some (.ref (jxS x).1), some (.ref (jxb x + 0)), some (.ref (jxb x + 140)), some (.int (nI i))] [] m' (fun r _ => r = some (.int 1))) : K x (d + 121) eL_law 555 [some (.ref (jxS x).1), some (.ref (jxb x + 0)), some (.ref (jxb x + 140)), some (.int (nI i))] [] m (fun r _ => r = some (.int 1)) := by
  refine J_aload_n (pc := 555) dL_law_555 rfl ?_
  refine K_callVi (pc := 556) (id := 0) (As := []) dL_law_556 kl_L_62 rfl job_0 rfl rfl (Nat.le_of_ble_eq_true rfl) (q_change hR) (fun va ma ha => ?_)
  refine J_aload_n (pc := 559) dL_law_559 rfl ?_
  refine K_callVi (pc := 560) (id := 140) (As := []) dL_law_560 kl_L_65 rfl job_140 rfl rfl (Nat.le_of_ble_eq_true rfl) (ha) (fun vb mb hb => ?_)
  obtain ⟨hb, hR2⟩ := hb
  refine J_icmp_eq (pc := 563) (tgt := 1455) dL_law_563 (by decide) (fun h563 => ?_) (fun h563 => absurd hb.symm h563)
  exact ih mb hR2
set_option maxRecDepth 100000 in
set_option maxHeartbeats 400000 in
theorem law_line {x : jX} {m : jm} {d k i : Nat} (hl : (jxS x).2.1 ≤ 3072) (hi : i + 6 ≤ (jxS x).2.1) (hR : RelA m m k) (hk : k < 1000) (ih : ∀ m', RelA m' m' (k + 1) → K x (d + 121) eL_law 1455 [some (.ref (jxS x).1), some (.ref (jxb x + 0)), some (.ref (jxb x + 140)), some (.int (nI i))] [] m' (fun r _ => r = some (.int 1))) : K x (d + 121) eL_law 568 [some (.ref (jxS x).1), some (.ref (jxb x + 0)), some (.ref (jxb x + 140)), some (.int (nI i))] [] m (fun r _ => r = some (.int 1)) := by
  refine J_aload_n (pc := 568) dL_law_568 rfl ?_
  refine J_aload_n (pc := 569) dL_law_569 rfl ?_
  refine J_iload_n (pc := 570) dL_law_570 rfl ?_
  refine J_iconst (pc := 571) dL_law_571 kni_1 ?_
  refine J_iaddv (pc := 572) dL_law_572 (nI_add _ _) ?_
  refine J_sld (pc := 573) dL_law_573 (vp_in_nI (by omega) (by omega)) ?_
  refine J_aload_n (pc := 574) dL_law_574 rfl ?_
  refine J_iload_n (pc := 575) dL_law_575 rfl ?_
  refine J_iconst (pc := 576) dL_law_576 kni_2 ?_
  refine J_iaddv (pc := 577) dL_law_577 (nI_add _ _) ?_
  refine J_sld (pc := 578) dL_law_578 (vp_in_nI (by omega) (by omega)) ?_
  refine J_aload_n (pc := 579) dL_law_579 rfl ?_
  refine J_iload_n (pc := 580) dL_law_580 rfl ?_
  refine J_iconst (pc := 581) dL_law_581 kni_3 ?_
  refine J_iaddv (pc := 582) dL_law_582 (nI_add _ _) ?_
  refine J_sld (pc := 583) dL_law_583 (vp_in_nI (by omega) (by omega)) ?_
  refine K_callVi (pc := 584) (id := 0) (As := [_, _, _]) dL_law_584 kl_L_66 rfl job_0 rfl rfl (Nat.le_of_ble_eq_true rfl) (q_line hR _ _ _) (fun va ma ha => ?_)
  refine J_aload_n (pc := 587) dL_law_587 rfl ?_
  refine J_aload_n (pc := 588) dL_law_588 rfl ?_
  refine J_iload_n (pc := 589) dL_law_589 rfl ?_
  refine J_iconst (pc := 590) dL_law_590 kni_1 ?_
  refine J_iaddv (pc := 591) dL_law_591 (nI_add _ _) ?_
  refine J_sld (pc := 592) dL_law_592 (vp_in_nI (by omega) (by omega)) ?_
  refine J_aload_n (pc := 593) dL_law_593 rfl ?_
  refine J_iload_n (pc := 594) dL_law_594 rfl ?_
  refine J_iconst (pc := 595) dL_law_595 kni_2 ?_
  refine J_iaddv (pc := 596) dL_law_596 (nI_add _ _) ?_
  refine J_sld (pc := 597) dL_law_597 (vp_in_nI (by omega) (by omega)) ?_
  refine J_aload_n (pc := 598) dL_law_598 rfl ?_
  refine J_iload_n (pc := 599) dL_law_599 rfl ?_
  refine J_iconst (pc := 600) dL_law_600 kni_3 ?_
  refine J_iaddv (pc := 601) dL_law_601 (nI_add _ _) ?_
  refine J_sld (pc := 602) dL_law_602 (vp_in_nI (by omega) (by omega)) ?_
  refine K_callVi (pc := 603) (id := 140) (As := [_, _, _]) dL_law_603 kl_L_69 rfl job_140 rfl rfl (Nat.le_of_ble_eq_true rfl) (ha) (fun vb mb hb => ?_)
  obtain ⟨hb, hR2⟩ := hb
  refine J_icmp_eq (pc := 606) (tgt := 1455) dL_law_606 (by decide) (fun h606 => ?_) (fun h606 => absurd hb.symm h606)
  exact ih mb hR2
set_option maxRecDepth 100000 in
set_option maxHeartbeats 400000 in
theorem law_put {x : jX} {m : jm} {d k i : Nat} (hl : (jxS x).2.1 ≤ 3072) (hi : i + 6 ≤ (jxS x).2.1) (hR : RelA m m k) (hk : k < 1000) (ih : ∀ m', RelA m' m' (k + 1) → K x (d + 121) eL_law 1455 [some (.ref (jxS x).1), some (.ref (jxb x + 0)), some (.ref (jxb x + 140)), some (.int (nI i))] [] m' (fun r _ => r = some (.int 1))) : K x (d + 121) eL_law 611 [some (.ref (jxS x).1), some (.ref (jxb x + 0)), some (.ref (jxb x + 140)), some (.int (nI i))] [] m (fun r _ => r = some (.int 1)) := by
  refine J_aload_n (pc := 611) dL_law_611 rfl ?_
  refine J_aload_n (pc := 612) dL_law_612 rfl ?_
  refine J_iload_n (pc := 613) dL_law_613 rfl ?_
  refine J_iconst (pc := 614) dL_law_614 kni_1 ?_
  refine J_iaddv (pc := 615) dL_law_615 (nI_add _ _) ?_
  refine J_sld (pc := 616) dL_law_616 (vp_in_nI (by omega) (by omega)) ?_
  refine J_aload_n (pc := 617) dL_law_617 rfl ?_
  refine J_iload_n (pc := 618) dL_law_618 rfl ?_
  refine J_iconst (pc := 619) dL_law_619 kni_2 ?_
  refine J_iaddv (pc := 620) dL_law_620 (nI_add _ _) ?_
  refine J_sld (pc := 621) dL_law_621 (vp_in_nI (by omega) (by omega)) ?_
  refine J_aload_n (pc := 622) dL_law_622 rfl ?_
  refine J_iload_n (pc := 623) dL_law_623 rfl ?_
  refine J_iconst (pc := 624) dL_law_624 kni_3 ?_
  refine J_iaddv (pc := 625) dL_law_625 (nI_add _ _) ?_
  refine J_sld (pc := 626) dL_law_626 (vp_in_nI (by omega) (by omega)) ?_
  refine K_callVi (pc := 627) (id := 0) (As := [_, _, _]) dL_law_627 kl_L_70 rfl job_0 rfl rfl (Nat.le_of_ble_eq_true rfl) (q_put hR _ _ _) (fun va ma ha => ?_)
  refine J_aload_n (pc := 630) dL_law_630 rfl ?_
  refine J_aload_n (pc := 631) dL_law_631 rfl ?_
  refine J_iload_n (pc := 632) dL_law_632 rfl ?_
  refine J_iconst (pc := 633) dL_law_633 kni_1 ?_
  refine J_iaddv (pc := 634) dL_law_634 (nI_add _ _) ?_
  refine J_sld (pc := 635) dL_law_635 (vp_in_nI (by omega) (by omega)) ?_
  refine J_aload_n (pc := 636) dL_law_636 rfl ?_
  refine J_iload_n (pc := 637) dL_law_637 rfl ?_
  refine J_iconst (pc := 638) dL_law_638 kni_2 ?_
  refine J_iaddv (pc := 639) dL_law_639 (nI_add _ _) ?_
  refine J_sld (pc := 640) dL_law_640 (vp_in_nI (by omega) (by omega)) ?_
  refine J_aload_n (pc := 641) dL_law_641 rfl ?_
  refine J_iload_n (pc := 642) dL_law_642 rfl ?_
  refine J_iconst (pc := 643) dL_law_643 kni_3 ?_
  refine J_iaddv (pc := 644) dL_law_644 (nI_add _ _) ?_
  refine J_sld (pc := 645) dL_law_645 (vp_in_nI (by omega) (by omega)) ?_
  refine K_callVi (pc := 646) (id := 140) (As := [_, _, _]) dL_law_646 kl_L_73 rfl job_140 rfl rfl (Nat.le_of_ble_eq_true rfl) (ha) (fun vb mb hb => ?_)
  obtain ⟨hb, hR2⟩ := hb
  refine J_icmp_eq (pc := 649) (tgt := 1455) dL_law_649 (by decide) (fun h649 => ?_) (fun h649 => absurd hb.symm h649)
  exact ih mb hR2
set_option maxRecDepth 100000 in
set_option maxHeartbeats 400000 in
theorem law_copy {x : jX} {m : jm} {d k i : Nat} (hl : (jxS x).2.1 ≤ 3072) (hi : i + 6 ≤ (jxS x).2.1) (hR : RelA m m k) (hk : k < 1000) (ih : ∀ m', RelA m' m' (k + 1) → K x (d + 121) eL_law 1455 [some (.ref (jxS x).1), some (.ref (jxb x + 0)), some (.ref (jxb x + 140)), some (.int (nI i))] [] m' (fun r _ => r = some (.int 1))) : K x (d + 121) eL_law 654 [some (.ref (jxS x).1), some (.ref (jxb x + 0)), some (.ref (jxb x + 140)), some (.int (nI i))] [] m (fun r _ => r = some (.int 1)) := by
  refine J_aload_n (pc := 654) dL_law_654 rfl ?_
  refine J_aload_n (pc := 655) dL_law_655 rfl ?_
  refine J_iload_n (pc := 656) dL_law_656 rfl ?_
  refine J_iconst (pc := 657) dL_law_657 kni_1 ?_
  refine J_iaddv (pc := 658) dL_law_658 (nI_add _ _) ?_
  refine J_sld (pc := 659) dL_law_659 (vp_in_nI (by omega) (by omega)) ?_
  refine J_aload_n (pc := 660) dL_law_660 rfl ?_
  refine J_iload_n (pc := 661) dL_law_661 rfl ?_
  refine J_iconst (pc := 662) dL_law_662 kni_2 ?_
  refine J_iaddv (pc := 663) dL_law_663 (nI_add _ _) ?_
  refine J_sld (pc := 664) dL_law_664 (vp_in_nI (by omega) (by omega)) ?_
  refine J_aload_n (pc := 665) dL_law_665 rfl ?_
  refine J_iload_n (pc := 666) dL_law_666 rfl ?_
  refine J_iconst (pc := 667) dL_law_667 kni_3 ?_
  refine J_iaddv (pc := 668) dL_law_668 (nI_add _ _) ?_
  refine J_sld (pc := 669) dL_law_669 (vp_in_nI (by omega) (by omega)) ?_
  refine J_aload_n (pc := 670) dL_law_670 rfl ?_
  refine J_iload_n (pc := 671) dL_law_671 rfl ?_
  refine J_iconst (pc := 672) dL_law_672 kni_4 ?_
  refine J_iaddv (pc := 673) dL_law_673 (nI_add _ _) ?_
  refine J_sld (pc := 674) dL_law_674 (vp_in_nI (by omega) (by omega)) ?_
  refine J_aload_n (pc := 675) dL_law_675 rfl ?_
  refine J_iload_n (pc := 676) dL_law_676 rfl ?_
  refine J_iconst (pc := 677) dL_law_677 kni_5 ?_
  refine J_iaddv (pc := 678) dL_law_678 (nI_add _ _) ?_
  refine J_sld (pc := 679) dL_law_679 (vp_in_nI (by omega) (by omega)) ?_
  refine K_callVi (pc := 680) (id := 0) (As := [_, _, _, _, _]) dL_law_680 kl_L_74 rfl job_0 rfl rfl (Nat.le_of_ble_eq_true rfl) (q_copy hR _ _ _ _ _) (fun va ma ha => ?_)
  refine J_aload_n (pc := 683) dL_law_683 rfl ?_
  refine J_aload_n (pc := 684) dL_law_684 rfl ?_
  refine J_iload_n (pc := 685) dL_law_685 rfl ?_
  refine J_iconst (pc := 686) dL_law_686 kni_1 ?_
  refine J_iaddv (pc := 687) dL_law_687 (nI_add _ _) ?_
  refine J_sld (pc := 688) dL_law_688 (vp_in_nI (by omega) (by omega)) ?_
  refine J_aload_n (pc := 689) dL_law_689 rfl ?_
  refine J_iload_n (pc := 690) dL_law_690 rfl ?_
  refine J_iconst (pc := 691) dL_law_691 kni_2 ?_
  refine J_iaddv (pc := 692) dL_law_692 (nI_add _ _) ?_
  refine J_sld (pc := 693) dL_law_693 (vp_in_nI (by omega) (by omega)) ?_
  refine J_aload_n (pc := 694) dL_law_694 rfl ?_
  refine J_iload_n (pc := 695) dL_law_695 rfl ?_
  refine J_iconst (pc := 696) dL_law_696 kni_3 ?_
  refine J_iaddv (pc := 697) dL_law_697 (nI_add _ _) ?_
  refine J_sld (pc := 698) dL_law_698 (vp_in_nI (by omega) (by omega)) ?_
  refine J_aload_n (pc := 699) dL_law_699 rfl ?_
  refine J_iload_n (pc := 700) dL_law_700 rfl ?_
  refine J_iconst (pc := 701) dL_law_701 kni_4 ?_
  refine J_iaddv (pc := 702) dL_law_702 (nI_add _ _) ?_
  refine J_sld (pc := 703) dL_law_703 (vp_in_nI (by omega) (by omega)) ?_
  refine J_aload_n (pc := 704) dL_law_704 rfl ?_
  refine J_iload_n (pc := 705) dL_law_705 rfl ?_
  refine J_iconst (pc := 706) dL_law_706 kni_5 ?_
  refine J_iaddv (pc := 707) dL_law_707 (nI_add _ _) ?_
  refine J_sld (pc := 708) dL_law_708 (vp_in_nI (by omega) (by omega)) ?_
  refine K_callVi (pc := 709) (id := 140) (As := [_, _, _, _, _]) dL_law_709 kl_L_77 rfl job_140 rfl rfl (Nat.le_of_ble_eq_true rfl) (ha) (fun vb mb hb => ?_)
  obtain ⟨hb, hR2⟩ := hb
  refine J_icmp_eq (pc := 712) (tgt := 1455) dL_law_712 (by decide) (fun h712 => ?_) (fun h712 => absurd hb.symm h712)
  exact ih mb hR2
set_option maxRecDepth 100000 in
set_option maxHeartbeats 400000 in
theorem law_ground {x : jX} {m : jm} {d k i : Nat} (hl : (jxS x).2.1 ≤ 3072) (hi : i + 6 ≤ (jxS x).2.1) (hR : RelA m m k) (hk : k < 1000) (ih : ∀ m', RelA m' m' (k + 1) → K x (d + 121) eL_law 1455 [some (.ref (jxS x).1), some (.ref (jxb x + 0)), some (.ref (jxb x + 140)), some (.int (nI i))] [] m' (fun r _ => r = some (.int 1))) : K x (d + 121) eL_law 717 [some (.ref (jxS x).1), some (.ref (jxb x + 0)), some (.ref (jxb x + 140)), some (.int (nI i))] [] m (fun r _ => r = some (.int 1)) := by
  refine J_aload_n (pc := 717) dL_law_717 rfl ?_
  refine J_aload_n (pc := 718) dL_law_718 rfl ?_
  refine J_iload_n (pc := 719) dL_law_719 rfl ?_
  refine J_iconst (pc := 720) dL_law_720 kni_1 ?_
  refine J_iaddv (pc := 721) dL_law_721 (nI_add _ _) ?_
  refine J_sld (pc := 722) dL_law_722 (vp_in_nI (by omega) (by omega)) ?_
  refine J_aload_n (pc := 723) dL_law_723 rfl ?_
  refine J_iload_n (pc := 724) dL_law_724 rfl ?_
  refine J_iconst (pc := 725) dL_law_725 kni_2 ?_
  refine J_iaddv (pc := 726) dL_law_726 (nI_add _ _) ?_
  refine J_sld (pc := 727) dL_law_727 (vp_in_nI (by omega) (by omega)) ?_
  refine K_callVi (pc := 728) (id := 0) (As := [_, _]) dL_law_728 kl_L_78 rfl job_0 rfl rfl (Nat.le_of_ble_eq_true rfl) (q_ground hR _ _) (fun va ma ha => ?_)
  refine J_aload_n (pc := 731) dL_law_731 rfl ?_
  refine J_aload_n (pc := 732) dL_law_732 rfl ?_
  refine J_iload_n (pc := 733) dL_law_733 rfl ?_
  refine J_iconst (pc := 734) dL_law_734 kni_1 ?_
  refine J_iaddv (pc := 735) dL_law_735 (nI_add _ _) ?_
  refine J_sld (pc := 736) dL_law_736 (vp_in_nI (by omega) (by omega)) ?_
  refine J_aload_n (pc := 737) dL_law_737 rfl ?_
  refine J_iload_n (pc := 738) dL_law_738 rfl ?_
  refine J_iconst (pc := 739) dL_law_739 kni_2 ?_
  refine J_iaddv (pc := 740) dL_law_740 (nI_add _ _) ?_
  refine J_sld (pc := 741) dL_law_741 (vp_in_nI (by omega) (by omega)) ?_
  refine K_callVi (pc := 742) (id := 140) (As := [_, _]) dL_law_742 kl_L_81 rfl job_140 rfl rfl (Nat.le_of_ble_eq_true rfl) (ha) (fun vb mb hb => ?_)
  obtain ⟨hb, hR2⟩ := hb
  refine J_icmp_eq (pc := 745) (tgt := 1455) dL_law_745 (by decide) (fun h745 => ?_) (fun h745 => absurd hb.symm h745)
  exact ih mb hR2
set_option maxRecDepth 100000 in
set_option maxHeartbeats 400000 in
theorem law_ask {x : jX} {m : jm} {d k i : Nat} (hl : (jxS x).2.1 ≤ 3072) (hi : i + 6 ≤ (jxS x).2.1) (hR : RelA m m k) (hk : k < 1000) (ih : ∀ m', RelA m' m' (k + 1) → K x (d + 121) eL_law 1455 [some (.ref (jxS x).1), some (.ref (jxb x + 0)), some (.ref (jxb x + 140)), some (.int (nI i))] [] m' (fun r _ => r = some (.int 1))) : K x (d + 121) eL_law 750 [some (.ref (jxS x).1), some (.ref (jxb x + 0)), some (.ref (jxb x + 140)), some (.int (nI i))] [] m (fun r _ => r = some (.int 1)) := by
  refine J_aload_n (pc := 750) dL_law_750 rfl ?_
  refine J_aload_n (pc := 751) dL_law_751 rfl ?_
  refine J_iload_n (pc := 752) dL_law_752 rfl ?_
  refine J_iconst (pc := 753) dL_law_753 kni_1 ?_
  refine J_iaddv (pc := 754) dL_law_754 (nI_add _ _) ?_
  refine J_sld (pc := 755) dL_law_755 (vp_in_nI (by omega) (by omega)) ?_
  refine J_aload_n (pc := 756) dL_law_756 rfl ?_
  refine J_iload_n (pc := 757) dL_law_757 rfl ?_
  refine J_iconst (pc := 758) dL_law_758 kni_2 ?_
  refine J_iaddv (pc := 759) dL_law_759 (nI_add _ _) ?_
  refine J_sld (pc := 760) dL_law_760 (vp_in_nI (by omega) (by omega)) ?_
  refine K_callVi (pc := 761) (id := 0) (As := [_, _]) dL_law_761 kl_L_82 rfl job_0 rfl rfl (Nat.le_of_ble_eq_true rfl) (q_ask hR _ _) (fun va ma ha => ?_)
  refine J_aload_n (pc := 764) dL_law_764 rfl ?_
  refine J_aload_n (pc := 765) dL_law_765 rfl ?_
  refine J_iload_n (pc := 766) dL_law_766 rfl ?_
  refine J_iconst (pc := 767) dL_law_767 kni_1 ?_
  refine J_iaddv (pc := 768) dL_law_768 (nI_add _ _) ?_
  refine J_sld (pc := 769) dL_law_769 (vp_in_nI (by omega) (by omega)) ?_
  refine J_aload_n (pc := 770) dL_law_770 rfl ?_
  refine J_iload_n (pc := 771) dL_law_771 rfl ?_
  refine J_iconst (pc := 772) dL_law_772 kni_2 ?_
  refine J_iaddv (pc := 773) dL_law_773 (nI_add _ _) ?_
  refine J_sld (pc := 774) dL_law_774 (vp_in_nI (by omega) (by omega)) ?_
  refine K_callVi (pc := 775) (id := 140) (As := [_, _]) dL_law_775 kl_L_85 rfl job_140 rfl rfl (Nat.le_of_ble_eq_true rfl) (ha) (fun vb mb hb => ?_)
  obtain ⟨hb, hR2⟩ := hb
  refine J_icmp_eq (pc := 778) (tgt := 1455) dL_law_778 (by decide) (fun h778 => ?_) (fun h778 => absurd hb.symm h778)
  exact ih mb hR2
set_option maxRecDepth 100000 in
set_option maxHeartbeats 400000 in
theorem law_feed {x : jX} {m : jm} {d k i : Nat} (hl : (jxS x).2.1 ≤ 3072) (hi : i + 6 ≤ (jxS x).2.1) (hR : RelA m m k) (hk : k < 1000) (ih : ∀ m', RelA m' m' (k + 1) → K x (d + 121) eL_law 1455 [some (.ref (jxS x).1), some (.ref (jxb x + 0)), some (.ref (jxb x + 140)), some (.int (nI i))] [] m' (fun r _ => r = some (.int 1))) : K x (d + 121) eL_law 783 [some (.ref (jxS x).1), some (.ref (jxb x + 0)), some (.ref (jxb x + 140)), some (.int (nI i))] [] m (fun r _ => r = some (.int 1)) := by
  refine J_aload_n (pc := 783) dL_law_783 rfl ?_
  refine J_aload_n (pc := 784) dL_law_784 rfl ?_
  refine J_iload_n (pc := 785) dL_law_785 rfl ?_
  refine J_iconst (pc := 786) dL_law_786 kni_1 ?_
  refine J_iaddv (pc := 787) dL_law_787 (nI_add _ _) ?_
  refine J_sld (pc := 788) dL_law_788 (vp_in_nI (by omega) (by omega)) ?_
  refine J_aload_n (pc := 789) dL_law_789 rfl ?_
  refine J_iload_n (pc := 790) dL_law_790 rfl ?_
  refine J_iconst (pc := 791) dL_law_791 kni_2 ?_
  refine J_iaddv (pc := 792) dL_law_792 (nI_add _ _) ?_
  refine J_sld (pc := 793) dL_law_793 (vp_in_nI (by omega) (by omega)) ?_
  refine J_aload_n (pc := 794) dL_law_794 rfl ?_
  refine J_iload_n (pc := 795) dL_law_795 rfl ?_
  refine J_iconst (pc := 796) dL_law_796 kni_3 ?_
  refine J_iaddv (pc := 797) dL_law_797 (nI_add _ _) ?_
  refine J_sld (pc := 798) dL_law_798 (vp_in_nI (by omega) (by omega)) ?_
  refine K_callVi (pc := 799) (id := 0) (As := [_, _, _]) dL_law_799 kl_L_86 rfl job_0 rfl rfl (Nat.le_of_ble_eq_true rfl) (q_feed hR _ _ _) (fun va ma ha => ?_)
  refine J_aload_n (pc := 802) dL_law_802 rfl ?_
  refine J_aload_n (pc := 803) dL_law_803 rfl ?_
  refine J_iload_n (pc := 804) dL_law_804 rfl ?_
  refine J_iconst (pc := 805) dL_law_805 kni_1 ?_
  refine J_iaddv (pc := 806) dL_law_806 (nI_add _ _) ?_
  refine J_sld (pc := 807) dL_law_807 (vp_in_nI (by omega) (by omega)) ?_
  refine J_aload_n (pc := 808) dL_law_808 rfl ?_
  refine J_iload_n (pc := 809) dL_law_809 rfl ?_
  refine J_iconst (pc := 810) dL_law_810 kni_2 ?_
  refine J_iaddv (pc := 811) dL_law_811 (nI_add _ _) ?_
  refine J_sld (pc := 812) dL_law_812 (vp_in_nI (by omega) (by omega)) ?_
  refine J_aload_n (pc := 813) dL_law_813 rfl ?_
  refine J_iload_n (pc := 814) dL_law_814 rfl ?_
  refine J_iconst (pc := 815) dL_law_815 kni_3 ?_
  refine J_iaddv (pc := 816) dL_law_816 (nI_add _ _) ?_
  refine J_sld (pc := 817) dL_law_817 (vp_in_nI (by omega) (by omega)) ?_
  refine K_callVi (pc := 818) (id := 140) (As := [_, _, _]) dL_law_818 kl_L_89 rfl job_140 rfl rfl (Nat.le_of_ble_eq_true rfl) (ha) (fun vb mb hb => ?_)
  obtain ⟨hb, hR2⟩ := hb
  refine J_icmp_eq (pc := 821) (tgt := 1455) dL_law_821 (by decide) (fun h821 => ?_) (fun h821 => absurd hb.symm h821)
  exact ih mb hR2
set_option maxRecDepth 100000 in
set_option maxHeartbeats 400000 in
theorem law_trim {x : jX} {m : jm} {d k i : Nat} (hl : (jxS x).2.1 ≤ 3072) (hi : i + 6 ≤ (jxS x).2.1) (hR : RelA m m k) (hk : k < 1000) (ih : ∀ m', RelA m' m' (k + 1) → K x (d + 121) eL_law 1455 [some (.ref (jxS x).1), some (.ref (jxb x + 0)), some (.ref (jxb x + 140)), some (.int (nI i))] [] m' (fun r _ => r = some (.int 1))) : K x (d + 121) eL_law 826 [some (.ref (jxS x).1), some (.ref (jxb x + 0)), some (.ref (jxb x + 140)), some (.int (nI i))] [] m (fun r _ => r = some (.int 1)) := by
  refine J_aload_n (pc := 826) dL_law_826 rfl ?_
  refine J_aload_n (pc := 827) dL_law_827 rfl ?_
  refine J_iload_n (pc := 828) dL_law_828 rfl ?_
  refine J_iconst (pc := 829) dL_law_829 kni_1 ?_
  refine J_iaddv (pc := 830) dL_law_830 (nI_add _ _) ?_
  refine J_sld (pc := 831) dL_law_831 (vp_in_nI (by omega) (by omega)) ?_
  refine K_callVi (pc := 832) (id := 0) (As := [_]) dL_law_832 kl_L_90 rfl job_0 rfl rfl (Nat.le_of_ble_eq_true rfl) (q_trim hR _) (fun va ma ha => ?_)
  refine J_aload_n (pc := 835) dL_law_835 rfl ?_
  refine J_aload_n (pc := 836) dL_law_836 rfl ?_
  refine J_iload_n (pc := 837) dL_law_837 rfl ?_
  refine J_iconst (pc := 838) dL_law_838 kni_1 ?_
  refine J_iaddv (pc := 839) dL_law_839 (nI_add _ _) ?_
  refine J_sld (pc := 840) dL_law_840 (vp_in_nI (by omega) (by omega)) ?_
  refine K_callVi (pc := 841) (id := 140) (As := [_]) dL_law_841 kl_L_93 rfl job_140 rfl rfl (Nat.le_of_ble_eq_true rfl) (ha) (fun vb mb hb => ?_)
  obtain ⟨hb, hR2⟩ := hb
  refine J_icmp_eq (pc := 844) (tgt := 1455) dL_law_844 (by decide) (fun h844 => ?_) (fun h844 => absurd hb.symm h844)
  exact ih mb hR2
set_option maxRecDepth 100000 in
set_option maxHeartbeats 400000 in
theorem law_text {x : jX} {m : jm} {d k i : Nat} (hl : (jxS x).2.1 ≤ 3072) (hi : i + 6 ≤ (jxS x).2.1) (hR : RelA m m k) (hk : k < 1000) (ih : ∀ m', RelA m' m' (k + 1) → K x (d + 121) eL_law 1455 [some (.ref (jxS x).1), some (.ref (jxb x + 0)), some (.ref (jxb x + 140)), some (.int (nI i))] [] m' (fun r _ => r = some (.int 1))) : K x (d + 121) eL_law 849 [some (.ref (jxS x).1), some (.ref (jxb x + 0)), some (.ref (jxb x + 140)), some (.int (nI i))] [] m (fun r _ => r = some (.int 1)) := by
  refine J_aload_n (pc := 849) dL_law_849 rfl ?_
  refine J_aload_n (pc := 850) dL_law_850 rfl ?_
  refine J_iload_n (pc := 851) dL_law_851 rfl ?_
  refine J_iconst (pc := 852) dL_law_852 kni_1 ?_
  refine J_iaddv (pc := 853) dL_law_853 (nI_add _ _) ?_
  refine J_sld (pc := 854) dL_law_854 (vp_in_nI (by omega) (by omega)) ?_
  refine K_callVi (pc := 855) (id := 0) (As := [_]) dL_law_855 kl_L_94 rfl job_0 rfl rfl (Nat.le_of_ble_eq_true rfl) (q_text hR _) (fun va ma ha => ?_)
  refine J_aload_n (pc := 858) dL_law_858 rfl ?_
  refine J_aload_n (pc := 859) dL_law_859 rfl ?_
  refine J_iload_n (pc := 860) dL_law_860 rfl ?_
  refine J_iconst (pc := 861) dL_law_861 kni_1 ?_
  refine J_iaddv (pc := 862) dL_law_862 (nI_add _ _) ?_
  refine J_sld (pc := 863) dL_law_863 (vp_in_nI (by omega) (by omega)) ?_
  refine K_callVi (pc := 864) (id := 140) (As := [_]) dL_law_864 kl_L_97 rfl job_140 rfl rfl (Nat.le_of_ble_eq_true rfl) (ha) (fun vb mb hb => ?_)
  obtain ⟨hb, hR2⟩ := hb
  refine J_icmp_eq (pc := 867) (tgt := 1455) dL_law_867 (by decide) (fun h867 => ?_) (fun h867 => absurd hb.symm h867)
  exact ih mb hR2
set_option maxRecDepth 100000 in
set_option maxHeartbeats 400000 in
theorem law_of {x : jX} {m : jm} {d k i : Nat} (hl : (jxS x).2.1 ≤ 3072) (hi : i + 6 ≤ (jxS x).2.1) (hR : RelA m m k) (hk : k < 1000) (ih : ∀ m', RelA m' m' (k + 1) → K x (d + 121) eL_law 1455 [some (.ref (jxS x).1), some (.ref (jxb x + 0)), some (.ref (jxb x + 140)), some (.int (nI i))] [] m' (fun r _ => r = some (.int 1))) : K x (d + 121) eL_law 872 [some (.ref (jxS x).1), some (.ref (jxb x + 0)), some (.ref (jxb x + 140)), some (.int (nI i))] [] m (fun r _ => r = some (.int 1)) := by
  refine J_aload_n (pc := 872) dL_law_872 rfl ?_
  refine J_aload_n (pc := 873) dL_law_873 rfl ?_
  refine J_iload_n (pc := 874) dL_law_874 rfl ?_
  refine J_iconst (pc := 875) dL_law_875 kni_1 ?_
  refine J_iaddv (pc := 876) dL_law_876 (nI_add _ _) ?_
  refine J_sld (pc := 877) dL_law_877 (vp_in_nI (by omega) (by omega)) ?_
  refine J_aload_n (pc := 878) dL_law_878 rfl ?_
  refine J_iload_n (pc := 879) dL_law_879 rfl ?_
  refine J_iconst (pc := 880) dL_law_880 kni_2 ?_
  refine J_iaddv (pc := 881) dL_law_881 (nI_add _ _) ?_
  refine J_sld (pc := 882) dL_law_882 (vp_in_nI (by omega) (by omega)) ?_
  refine K_callVi (pc := 883) (id := 0) (As := [_, _]) dL_law_883 kl_L_98 rfl job_0 rfl rfl (Nat.le_of_ble_eq_true rfl) (q_of hR _ _) (fun va ma ha => ?_)
  refine J_aload_n (pc := 886) dL_law_886 rfl ?_
  refine J_aload_n (pc := 887) dL_law_887 rfl ?_
  refine J_iload_n (pc := 888) dL_law_888 rfl ?_
  refine J_iconst (pc := 889) dL_law_889 kni_1 ?_
  refine J_iaddv (pc := 890) dL_law_890 (nI_add _ _) ?_
  refine J_sld (pc := 891) dL_law_891 (vp_in_nI (by omega) (by omega)) ?_
  refine J_aload_n (pc := 892) dL_law_892 rfl ?_
  refine J_iload_n (pc := 893) dL_law_893 rfl ?_
  refine J_iconst (pc := 894) dL_law_894 kni_2 ?_
  refine J_iaddv (pc := 895) dL_law_895 (nI_add _ _) ?_
  refine J_sld (pc := 896) dL_law_896 (vp_in_nI (by omega) (by omega)) ?_
  refine K_callVi (pc := 897) (id := 140) (As := [_, _]) dL_law_897 kl_L_101 rfl job_140 rfl rfl (Nat.le_of_ble_eq_true rfl) (ha) (fun vb mb hb => ?_)
  obtain ⟨hb, hR2⟩ := hb
  refine J_icmp_eq (pc := 900) (tgt := 1455) dL_law_900 (by decide) (fun h900 => ?_) (fun h900 => absurd hb.symm h900)
  exact ih mb hR2
set_option maxRecDepth 100000 in
set_option maxHeartbeats 400000 in
theorem law_why {x : jX} {m : jm} {d k i : Nat} (hl : (jxS x).2.1 ≤ 3072) (hi : i + 6 ≤ (jxS x).2.1) (hR : RelA m m k) (hk : k < 1000) (ih : ∀ m', RelA m' m' (k + 1) → K x (d + 121) eL_law 1455 [some (.ref (jxS x).1), some (.ref (jxb x + 0)), some (.ref (jxb x + 140)), some (.int (nI i))] [] m' (fun r _ => r = some (.int 1))) : K x (d + 121) eL_law 905 [some (.ref (jxS x).1), some (.ref (jxb x + 0)), some (.ref (jxb x + 140)), some (.int (nI i))] [] m (fun r _ => r = some (.int 1)) := by
  refine J_aload_n (pc := 905) dL_law_905 rfl ?_
  refine J_aload_n (pc := 906) dL_law_906 rfl ?_
  refine J_iload_n (pc := 907) dL_law_907 rfl ?_
  refine J_iconst (pc := 908) dL_law_908 kni_1 ?_
  refine J_iaddv (pc := 909) dL_law_909 (nI_add _ _) ?_
  refine J_sld (pc := 910) dL_law_910 (vp_in_nI (by omega) (by omega)) ?_
  refine K_callVi (pc := 911) (id := 0) (As := [_]) dL_law_911 kl_L_102 rfl job_0 rfl rfl (Nat.le_of_ble_eq_true rfl) (q_why hR _) (fun va ma ha => ?_)
  refine J_aload_n (pc := 914) dL_law_914 rfl ?_
  refine J_aload_n (pc := 915) dL_law_915 rfl ?_
  refine J_iload_n (pc := 916) dL_law_916 rfl ?_
  refine J_iconst (pc := 917) dL_law_917 kni_1 ?_
  refine J_iaddv (pc := 918) dL_law_918 (nI_add _ _) ?_
  refine J_sld (pc := 919) dL_law_919 (vp_in_nI (by omega) (by omega)) ?_
  refine K_callVi (pc := 920) (id := 140) (As := [_]) dL_law_920 kl_L_105 rfl job_140 rfl rfl (Nat.le_of_ble_eq_true rfl) (ha) (fun vb mb hb => ?_)
  obtain ⟨hb, hR2⟩ := hb
  refine J_icmp_eq (pc := 923) (tgt := 1455) dL_law_923 (by decide) (fun h923 => ?_) (fun h923 => absurd hb.symm h923)
  exact ih mb hR2
set_option maxRecDepth 100000 in
set_option maxHeartbeats 400000 in
theorem law_gives {x : jX} {m : jm} {d k i : Nat} (hl : (jxS x).2.1 ≤ 3072) (hi : i + 6 ≤ (jxS x).2.1) (hR : RelA m m k) (hk : k < 1000) (ih : ∀ m', RelA m' m' (k + 1) → K x (d + 121) eL_law 1455 [some (.ref (jxS x).1), some (.ref (jxb x + 0)), some (.ref (jxb x + 140)), some (.int (nI i))] [] m' (fun r _ => r = some (.int 1))) : K x (d + 121) eL_law 928 [some (.ref (jxS x).1), some (.ref (jxb x + 0)), some (.ref (jxb x + 140)), some (.int (nI i))] [] m (fun r _ => r = some (.int 1)) := by
  refine J_aload_n (pc := 928) dL_law_928 rfl ?_
  refine J_aload_n (pc := 929) dL_law_929 rfl ?_
  refine J_iload_n (pc := 930) dL_law_930 rfl ?_
  refine J_iconst (pc := 931) dL_law_931 kni_1 ?_
  refine J_iaddv (pc := 932) dL_law_932 (nI_add _ _) ?_
  refine J_sld (pc := 933) dL_law_933 (vp_in_nI (by omega) (by omega)) ?_
  refine J_aload_n (pc := 934) dL_law_934 rfl ?_
  refine J_iload_n (pc := 935) dL_law_935 rfl ?_
  refine J_iconst (pc := 936) dL_law_936 kni_2 ?_
  refine J_iaddv (pc := 937) dL_law_937 (nI_add _ _) ?_
  refine J_sld (pc := 938) dL_law_938 (vp_in_nI (by omega) (by omega)) ?_
  refine J_aload_n (pc := 939) dL_law_939 rfl ?_
  refine J_iload_n (pc := 940) dL_law_940 rfl ?_
  refine J_iconst (pc := 941) dL_law_941 kni_3 ?_
  refine J_iaddv (pc := 942) dL_law_942 (nI_add _ _) ?_
  refine J_sld (pc := 943) dL_law_943 (vp_in_nI (by omega) (by omega)) ?_
  refine J_aload_n (pc := 944) dL_law_944 rfl ?_
  refine J_iload_n (pc := 945) dL_law_945 rfl ?_
  refine J_iconst (pc := 946) dL_law_946 kni_4 ?_
  refine J_iaddv (pc := 947) dL_law_947 (nI_add _ _) ?_
  refine J_sld (pc := 948) dL_law_948 (vp_in_nI (by omega) (by omega)) ?_
  refine J_aload_n (pc := 949) dL_law_949 rfl ?_
  refine J_iload_n (pc := 950) dL_law_950 rfl ?_
  refine J_iconst (pc := 951) dL_law_951 kni_5 ?_
  refine J_iaddv (pc := 952) dL_law_952 (nI_add _ _) ?_
  refine J_sld (pc := 953) dL_law_953 (vp_in_nI (by omega) (by omega)) ?_
  refine K_callVi (pc := 954) (id := 0) (As := [_, _, _, _, _]) dL_law_954 kl_L_106 rfl job_0 rfl rfl (Nat.le_of_ble_eq_true rfl) (q_gives hR _ _ _ _ _) (fun va ma ha => ?_)
  refine J_aload_n (pc := 957) dL_law_957 rfl ?_
  refine J_aload_n (pc := 958) dL_law_958 rfl ?_
  refine J_iload_n (pc := 959) dL_law_959 rfl ?_
  refine J_iconst (pc := 960) dL_law_960 kni_1 ?_
  refine J_iaddv (pc := 961) dL_law_961 (nI_add _ _) ?_
  refine J_sld (pc := 962) dL_law_962 (vp_in_nI (by omega) (by omega)) ?_
  refine J_aload_n (pc := 963) dL_law_963 rfl ?_
  refine J_iload_n (pc := 964) dL_law_964 rfl ?_
  refine J_iconst (pc := 965) dL_law_965 kni_2 ?_
  refine J_iaddv (pc := 966) dL_law_966 (nI_add _ _) ?_
  refine J_sld (pc := 967) dL_law_967 (vp_in_nI (by omega) (by omega)) ?_
  refine J_aload_n (pc := 968) dL_law_968 rfl ?_
  refine J_iload_n (pc := 969) dL_law_969 rfl ?_
  refine J_iconst (pc := 970) dL_law_970 kni_3 ?_
  refine J_iaddv (pc := 971) dL_law_971 (nI_add _ _) ?_
  refine J_sld (pc := 972) dL_law_972 (vp_in_nI (by omega) (by omega)) ?_
  refine J_aload_n (pc := 973) dL_law_973 rfl ?_
  refine J_iload_n (pc := 974) dL_law_974 rfl ?_
  refine J_iconst (pc := 975) dL_law_975 kni_4 ?_
  refine J_iaddv (pc := 976) dL_law_976 (nI_add _ _) ?_
  refine J_sld (pc := 977) dL_law_977 (vp_in_nI (by omega) (by omega)) ?_
  refine J_aload_n (pc := 978) dL_law_978 rfl ?_
  refine J_iload_n (pc := 979) dL_law_979 rfl ?_
  refine J_iconst (pc := 980) dL_law_980 kni_5 ?_
  refine J_iaddv (pc := 981) dL_law_981 (nI_add _ _) ?_
  refine J_sld (pc := 982) dL_law_982 (vp_in_nI (by omega) (by omega)) ?_
  refine K_callVi (pc := 983) (id := 140) (As := [_, _, _, _, _]) dL_law_983 kl_L_109 rfl job_140 rfl rfl (Nat.le_of_ble_eq_true rfl) (ha) (fun vb mb hb => ?_)
  obtain ⟨hb, hR2⟩ := hb
  refine J_icmp_eq (pc := 986) (tgt := 1455) dL_law_986 (by decide) (fun h986 => ?_) (fun h986 => absurd hb.symm h986)
  exact ih mb hR2
set_option maxRecDepth 100000 in
set_option maxHeartbeats 400000 in
theorem law_habit {x : jX} {m : jm} {d k i : Nat} (hl : (jxS x).2.1 ≤ 3072) (hi : i + 6 ≤ (jxS x).2.1) (hR : RelA m m k) (hk : k < 1000) (ih : ∀ m', RelA m' m' (k + 1) → K x (d + 121) eL_law 1455 [some (.ref (jxS x).1), some (.ref (jxb x + 0)), some (.ref (jxb x + 140)), some (.int (nI i))] [] m' (fun r _ => r = some (.int 1))) : K x (d + 121) eL_law 991 [some (.ref (jxS x).1), some (.ref (jxb x + 0)), some (.ref (jxb x + 140)), some (.int (nI i))] [] m (fun r _ => r = some (.int 1)) := by
  refine J_aload_n (pc := 991) dL_law_991 rfl ?_
  refine J_aload_n (pc := 992) dL_law_992 rfl ?_
  refine J_iload_n (pc := 993) dL_law_993 rfl ?_
  refine J_iconst (pc := 994) dL_law_994 kni_1 ?_
  refine J_iaddv (pc := 995) dL_law_995 (nI_add _ _) ?_
  refine J_sld (pc := 996) dL_law_996 (vp_in_nI (by omega) (by omega)) ?_
  refine K_callVi (pc := 997) (id := 0) (As := [_]) dL_law_997 kl_L_110 rfl job_0 rfl rfl (Nat.le_of_ble_eq_true rfl) (q_habit hR _) (fun va ma ha => ?_)
  refine J_aload_n (pc := 1000) dL_law_1000 rfl ?_
  refine J_aload_n (pc := 1001) dL_law_1001 rfl ?_
  refine J_iload_n (pc := 1002) dL_law_1002 rfl ?_
  refine J_iconst (pc := 1003) dL_law_1003 kni_1 ?_
  refine J_iaddv (pc := 1004) dL_law_1004 (nI_add _ _) ?_
  refine J_sld (pc := 1005) dL_law_1005 (vp_in_nI (by omega) (by omega)) ?_
  refine K_callVi (pc := 1006) (id := 140) (As := [_]) dL_law_1006 kl_L_113 rfl job_140 rfl rfl (Nat.le_of_ble_eq_true rfl) (ha) (fun vb mb hb => ?_)
  obtain ⟨hb, hR2⟩ := hb
  refine J_icmp_eq (pc := 1009) (tgt := 1455) dL_law_1009 (by decide) (fun h1009 => ?_) (fun h1009 => absurd hb.symm h1009)
  exact ih mb hR2
set_option maxRecDepth 100000 in
set_option maxHeartbeats 400000 in
theorem law_seen {x : jX} {m : jm} {d k i : Nat} (hl : (jxS x).2.1 ≤ 3072) (hi : i + 6 ≤ (jxS x).2.1) (hR : RelA m m k) (hk : k < 1000) (ih : ∀ m', RelA m' m' (k + 1) → K x (d + 121) eL_law 1455 [some (.ref (jxS x).1), some (.ref (jxb x + 0)), some (.ref (jxb x + 140)), some (.int (nI i))] [] m' (fun r _ => r = some (.int 1))) : K x (d + 121) eL_law 1014 [some (.ref (jxS x).1), some (.ref (jxb x + 0)), some (.ref (jxb x + 140)), some (.int (nI i))] [] m (fun r _ => r = some (.int 1)) := by
  refine J_aload_n (pc := 1014) dL_law_1014 rfl ?_
  refine J_aload_n (pc := 1015) dL_law_1015 rfl ?_
  refine J_iload_n (pc := 1016) dL_law_1016 rfl ?_
  refine J_iconst (pc := 1017) dL_law_1017 kni_1 ?_
  refine J_iaddv (pc := 1018) dL_law_1018 (nI_add _ _) ?_
  refine J_sld (pc := 1019) dL_law_1019 (vp_in_nI (by omega) (by omega)) ?_
  refine J_aload_n (pc := 1020) dL_law_1020 rfl ?_
  refine J_iload_n (pc := 1021) dL_law_1021 rfl ?_
  refine J_iconst (pc := 1022) dL_law_1022 kni_2 ?_
  refine J_iaddv (pc := 1023) dL_law_1023 (nI_add _ _) ?_
  refine J_sld (pc := 1024) dL_law_1024 (vp_in_nI (by omega) (by omega)) ?_
  refine K_callVi (pc := 1025) (id := 0) (As := [_, _]) dL_law_1025 kl_L_114 rfl job_0 rfl rfl (Nat.le_of_ble_eq_true rfl) (q_seen hR _ _) (fun va ma ha => ?_)
  refine J_aload_n (pc := 1028) dL_law_1028 rfl ?_
  refine J_aload_n (pc := 1029) dL_law_1029 rfl ?_
  refine J_iload_n (pc := 1030) dL_law_1030 rfl ?_
  refine J_iconst (pc := 1031) dL_law_1031 kni_1 ?_
  refine J_iaddv (pc := 1032) dL_law_1032 (nI_add _ _) ?_
  refine J_sld (pc := 1033) dL_law_1033 (vp_in_nI (by omega) (by omega)) ?_
  refine J_aload_n (pc := 1034) dL_law_1034 rfl ?_
  refine J_iload_n (pc := 1035) dL_law_1035 rfl ?_
  refine J_iconst (pc := 1036) dL_law_1036 kni_2 ?_
  refine J_iaddv (pc := 1037) dL_law_1037 (nI_add _ _) ?_
  refine J_sld (pc := 1038) dL_law_1038 (vp_in_nI (by omega) (by omega)) ?_
  refine K_callVi (pc := 1039) (id := 140) (As := [_, _]) dL_law_1039 kl_L_117 rfl job_140 rfl rfl (Nat.le_of_ble_eq_true rfl) (ha) (fun vb mb hb => ?_)
  obtain ⟨hb, hR2⟩ := hb
  refine J_icmp_eq (pc := 1042) (tgt := 1455) dL_law_1042 (by decide) (fun h1042 => ?_) (fun h1042 => absurd hb.symm h1042)
  exact ih mb hR2
set_option maxRecDepth 100000 in
set_option maxHeartbeats 400000 in
theorem law_beast {x : jX} {m : jm} {d k i : Nat} (hl : (jxS x).2.1 ≤ 3072) (hi : i + 6 ≤ (jxS x).2.1) (hR : RelA m m k) (hk : k < 1000) (ih : ∀ m', RelA m' m' (k + 1) → K x (d + 121) eL_law 1455 [some (.ref (jxS x).1), some (.ref (jxb x + 0)), some (.ref (jxb x + 140)), some (.int (nI i))] [] m' (fun r _ => r = some (.int 1))) : K x (d + 121) eL_law 1047 [some (.ref (jxS x).1), some (.ref (jxb x + 0)), some (.ref (jxb x + 140)), some (.int (nI i))] [] m (fun r _ => r = some (.int 1)) := by
  refine J_aload_n (pc := 1047) dL_law_1047 rfl ?_
  refine J_aload_n (pc := 1048) dL_law_1048 rfl ?_
  refine J_iload_n (pc := 1049) dL_law_1049 rfl ?_
  refine J_iconst (pc := 1050) dL_law_1050 kni_1 ?_
  refine J_iaddv (pc := 1051) dL_law_1051 (nI_add _ _) ?_
  refine J_sld (pc := 1052) dL_law_1052 (vp_in_nI (by omega) (by omega)) ?_
  refine J_aload_n (pc := 1053) dL_law_1053 rfl ?_
  refine J_iload_n (pc := 1054) dL_law_1054 rfl ?_
  refine J_iconst (pc := 1055) dL_law_1055 kni_2 ?_
  refine J_iaddv (pc := 1056) dL_law_1056 (nI_add _ _) ?_
  refine J_sld (pc := 1057) dL_law_1057 (vp_in_nI (by omega) (by omega)) ?_
  refine K_callVi (pc := 1058) (id := 0) (As := [_, _]) dL_law_1058 kl_L_118 rfl job_0 rfl rfl (Nat.le_of_ble_eq_true rfl) (q_beast hR _ _) (fun va ma ha => ?_)
  refine J_aload_n (pc := 1061) dL_law_1061 rfl ?_
  refine J_aload_n (pc := 1062) dL_law_1062 rfl ?_
  refine J_iload_n (pc := 1063) dL_law_1063 rfl ?_
  refine J_iconst (pc := 1064) dL_law_1064 kni_1 ?_
  refine J_iaddv (pc := 1065) dL_law_1065 (nI_add _ _) ?_
  refine J_sld (pc := 1066) dL_law_1066 (vp_in_nI (by omega) (by omega)) ?_
  refine J_aload_n (pc := 1067) dL_law_1067 rfl ?_
  refine J_iload_n (pc := 1068) dL_law_1068 rfl ?_
  refine J_iconst (pc := 1069) dL_law_1069 kni_2 ?_
  refine J_iaddv (pc := 1070) dL_law_1070 (nI_add _ _) ?_
  refine J_sld (pc := 1071) dL_law_1071 (vp_in_nI (by omega) (by omega)) ?_
  refine K_callVi (pc := 1072) (id := 140) (As := [_, _]) dL_law_1072 kl_L_121 rfl job_140 rfl rfl (Nat.le_of_ble_eq_true rfl) (ha) (fun vb mb hb => ?_)
  obtain ⟨hb, hR2⟩ := hb
  refine J_icmp_eq (pc := 1075) (tgt := 1455) dL_law_1075 (by decide) (fun h1075 => ?_) (fun h1075 => absurd hb.symm h1075)
  exact ih mb hR2
set_option maxRecDepth 100000 in
set_option maxHeartbeats 400000 in
theorem law_hide {x : jX} {m : jm} {d k i : Nat} (hl : (jxS x).2.1 ≤ 3072) (hi : i + 6 ≤ (jxS x).2.1) (hR : RelA m m k) (hk : k < 1000) (ih : ∀ m', RelA m' m' (k + 1) → K x (d + 121) eL_law 1455 [some (.ref (jxS x).1), some (.ref (jxb x + 0)), some (.ref (jxb x + 140)), some (.int (nI i))] [] m' (fun r _ => r = some (.int 1))) : K x (d + 121) eL_law 1080 [some (.ref (jxS x).1), some (.ref (jxb x + 0)), some (.ref (jxb x + 140)), some (.int (nI i))] [] m (fun r _ => r = some (.int 1)) := by
  refine J_aload_n (pc := 1080) dL_law_1080 rfl ?_
  refine J_aload_n (pc := 1081) dL_law_1081 rfl ?_
  refine J_iload_n (pc := 1082) dL_law_1082 rfl ?_
  refine J_iconst (pc := 1083) dL_law_1083 kni_1 ?_
  refine J_iaddv (pc := 1084) dL_law_1084 (nI_add _ _) ?_
  refine J_sld (pc := 1085) dL_law_1085 (vp_in_nI (by omega) (by omega)) ?_
  refine J_aload_n (pc := 1086) dL_law_1086 rfl ?_
  refine J_iload_n (pc := 1087) dL_law_1087 rfl ?_
  refine J_iconst (pc := 1088) dL_law_1088 kni_2 ?_
  refine J_iaddv (pc := 1089) dL_law_1089 (nI_add _ _) ?_
  refine J_sld (pc := 1090) dL_law_1090 (vp_in_nI (by omega) (by omega)) ?_
  refine J_aload_n (pc := 1091) dL_law_1091 rfl ?_
  refine J_iload_n (pc := 1092) dL_law_1092 rfl ?_
  refine J_iconst (pc := 1093) dL_law_1093 kni_3 ?_
  refine J_iaddv (pc := 1094) dL_law_1094 (nI_add _ _) ?_
  refine J_sld (pc := 1095) dL_law_1095 (vp_in_nI (by omega) (by omega)) ?_
  refine K_callVi (pc := 1096) (id := 0) (As := [_, _, _]) dL_law_1096 kl_L_122 rfl job_0 rfl rfl (Nat.le_of_ble_eq_true rfl) (q_hide hR hk _ _ _) (fun va ma ha => ?_)
  refine J_aload_n (pc := 1099) dL_law_1099 rfl ?_
  refine J_aload_n (pc := 1100) dL_law_1100 rfl ?_
  refine J_iload_n (pc := 1101) dL_law_1101 rfl ?_
  refine J_iconst (pc := 1102) dL_law_1102 kni_1 ?_
  refine J_iaddv (pc := 1103) dL_law_1103 (nI_add _ _) ?_
  refine J_sld (pc := 1104) dL_law_1104 (vp_in_nI (by omega) (by omega)) ?_
  refine J_aload_n (pc := 1105) dL_law_1105 rfl ?_
  refine J_iload_n (pc := 1106) dL_law_1106 rfl ?_
  refine J_iconst (pc := 1107) dL_law_1107 kni_2 ?_
  refine J_iaddv (pc := 1108) dL_law_1108 (nI_add _ _) ?_
  refine J_sld (pc := 1109) dL_law_1109 (vp_in_nI (by omega) (by omega)) ?_
  refine J_aload_n (pc := 1110) dL_law_1110 rfl ?_
  refine J_iload_n (pc := 1111) dL_law_1111 rfl ?_
  refine J_iconst (pc := 1112) dL_law_1112 kni_3 ?_
  refine J_iaddv (pc := 1113) dL_law_1113 (nI_add _ _) ?_
  refine J_sld (pc := 1114) dL_law_1114 (vp_in_nI (by omega) (by omega)) ?_
  refine K_callVi (pc := 1115) (id := 140) (As := [_, _, _]) dL_law_1115 kl_L_125 rfl job_140 rfl rfl (Nat.le_of_ble_eq_true rfl) (ha) (fun vb mb hb => ?_)
  obtain ⟨hb, hR2⟩ := hb
  refine J_icmp_eq (pc := 1118) (tgt := 1455) dL_law_1118 (by decide) (fun h1118 => ?_) (fun h1118 => absurd hb.symm h1118)
  exact ih mb hR2
set_option maxRecDepth 100000 in
set_option maxHeartbeats 400000 in
theorem law_misses {x : jX} {m : jm} {d k i : Nat} (hl : (jxS x).2.1 ≤ 3072) (hi : i + 6 ≤ (jxS x).2.1) (hR : RelA m m k) (hk : k < 1000) (ih : ∀ m', RelA m' m' (k + 1) → K x (d + 121) eL_law 1455 [some (.ref (jxS x).1), some (.ref (jxb x + 0)), some (.ref (jxb x + 140)), some (.int (nI i))] [] m' (fun r _ => r = some (.int 1))) : K x (d + 121) eL_law 1123 [some (.ref (jxS x).1), some (.ref (jxb x + 0)), some (.ref (jxb x + 140)), some (.int (nI i))] [] m (fun r _ => r = some (.int 1)) := by
  refine J_aload_n (pc := 1123) dL_law_1123 rfl ?_
  refine J_aload_n (pc := 1124) dL_law_1124 rfl ?_
  refine J_iload_n (pc := 1125) dL_law_1125 rfl ?_
  refine J_iconst (pc := 1126) dL_law_1126 kni_1 ?_
  refine J_iaddv (pc := 1127) dL_law_1127 (nI_add _ _) ?_
  refine J_sld (pc := 1128) dL_law_1128 (vp_in_nI (by omega) (by omega)) ?_
  refine J_aload_n (pc := 1129) dL_law_1129 rfl ?_
  refine J_iload_n (pc := 1130) dL_law_1130 rfl ?_
  refine J_iconst (pc := 1131) dL_law_1131 kni_2 ?_
  refine J_iaddv (pc := 1132) dL_law_1132 (nI_add _ _) ?_
  refine J_sld (pc := 1133) dL_law_1133 (vp_in_nI (by omega) (by omega)) ?_
  refine J_aload_n (pc := 1134) dL_law_1134 rfl ?_
  refine J_iload_n (pc := 1135) dL_law_1135 rfl ?_
  refine J_iconst (pc := 1136) dL_law_1136 kni_3 ?_
  refine J_iaddv (pc := 1137) dL_law_1137 (nI_add _ _) ?_
  refine J_sld (pc := 1138) dL_law_1138 (vp_in_nI (by omega) (by omega)) ?_
  refine K_callVi (pc := 1139) (id := 0) (As := [_, _, _]) dL_law_1139 kl_L_126 rfl job_0 rfl rfl (Nat.le_of_ble_eq_true rfl) (q_misses hR hk _ _ _) (fun va ma ha => ?_)
  refine J_aload_n (pc := 1142) dL_law_1142 rfl ?_
  refine J_aload_n (pc := 1143) dL_law_1143 rfl ?_
  refine J_iload_n (pc := 1144) dL_law_1144 rfl ?_
  refine J_iconst (pc := 1145) dL_law_1145 kni_1 ?_
  refine J_iaddv (pc := 1146) dL_law_1146 (nI_add _ _) ?_
  refine J_sld (pc := 1147) dL_law_1147 (vp_in_nI (by omega) (by omega)) ?_
  refine J_aload_n (pc := 1148) dL_law_1148 rfl ?_
  refine J_iload_n (pc := 1149) dL_law_1149 rfl ?_
  refine J_iconst (pc := 1150) dL_law_1150 kni_2 ?_
  refine J_iaddv (pc := 1151) dL_law_1151 (nI_add _ _) ?_
  refine J_sld (pc := 1152) dL_law_1152 (vp_in_nI (by omega) (by omega)) ?_
  refine J_aload_n (pc := 1153) dL_law_1153 rfl ?_
  refine J_iload_n (pc := 1154) dL_law_1154 rfl ?_
  refine J_iconst (pc := 1155) dL_law_1155 kni_3 ?_
  refine J_iaddv (pc := 1156) dL_law_1156 (nI_add _ _) ?_
  refine J_sld (pc := 1157) dL_law_1157 (vp_in_nI (by omega) (by omega)) ?_
  refine K_callVi (pc := 1158) (id := 140) (As := [_, _, _]) dL_law_1158 kl_L_129 rfl job_140 rfl rfl (Nat.le_of_ble_eq_true rfl) (ha) (fun vb mb hb => ?_)
  obtain ⟨hb, hR2⟩ := hb
  refine J_icmp_eq (pc := 1161) (tgt := 1455) dL_law_1161 (by decide) (fun h1161 => ?_) (fun h1161 => absurd hb.symm h1161)
  exact ih mb hR2
set_option maxRecDepth 100000 in
set_option maxHeartbeats 400000 in
theorem law_half {x : jX} {m : jm} {d k i : Nat} (hl : (jxS x).2.1 ≤ 3072) (hi : i + 6 ≤ (jxS x).2.1) (hR : RelA m m k) (hk : k < 1000) (ih : ∀ m', RelA m' m' (k + 1) → K x (d + 121) eL_law 1455 [some (.ref (jxS x).1), some (.ref (jxb x + 0)), some (.ref (jxb x + 140)), some (.int (nI i))] [] m' (fun r _ => r = some (.int 1))) : K x (d + 121) eL_law 1166 [some (.ref (jxS x).1), some (.ref (jxb x + 0)), some (.ref (jxb x + 140)), some (.int (nI i))] [] m (fun r _ => r = some (.int 1)) := by
  refine J_aload_n (pc := 1166) dL_law_1166 rfl ?_
  refine J_aload_n (pc := 1167) dL_law_1167 rfl ?_
  refine J_iload_n (pc := 1168) dL_law_1168 rfl ?_
  refine J_iconst (pc := 1169) dL_law_1169 kni_1 ?_
  refine J_iaddv (pc := 1170) dL_law_1170 (nI_add _ _) ?_
  refine J_sld (pc := 1171) dL_law_1171 (vp_in_nI (by omega) (by omega)) ?_
  refine J_aload_n (pc := 1172) dL_law_1172 rfl ?_
  refine J_iload_n (pc := 1173) dL_law_1173 rfl ?_
  refine J_iconst (pc := 1174) dL_law_1174 kni_2 ?_
  refine J_iaddv (pc := 1175) dL_law_1175 (nI_add _ _) ?_
  refine J_sld (pc := 1176) dL_law_1176 (vp_in_nI (by omega) (by omega)) ?_
  refine K_callVi (pc := 1177) (id := 0) (As := [_, _]) dL_law_1177 kl_L_130 rfl job_0 rfl rfl (Nat.le_of_ble_eq_true rfl) (q_half hR _ _) (fun va ma ha => ?_)
  refine J_aload_n (pc := 1180) dL_law_1180 rfl ?_
  refine J_aload_n (pc := 1181) dL_law_1181 rfl ?_
  refine J_iload_n (pc := 1182) dL_law_1182 rfl ?_
  refine J_iconst (pc := 1183) dL_law_1183 kni_1 ?_
  refine J_iaddv (pc := 1184) dL_law_1184 (nI_add _ _) ?_
  refine J_sld (pc := 1185) dL_law_1185 (vp_in_nI (by omega) (by omega)) ?_
  refine J_aload_n (pc := 1186) dL_law_1186 rfl ?_
  refine J_iload_n (pc := 1187) dL_law_1187 rfl ?_
  refine J_iconst (pc := 1188) dL_law_1188 kni_2 ?_
  refine J_iaddv (pc := 1189) dL_law_1189 (nI_add _ _) ?_
  refine J_sld (pc := 1190) dL_law_1190 (vp_in_nI (by omega) (by omega)) ?_
  refine K_callVi (pc := 1191) (id := 140) (As := [_, _]) dL_law_1191 kl_L_133 rfl job_140 rfl rfl (Nat.le_of_ble_eq_true rfl) (ha) (fun vb mb hb => ?_)
  obtain ⟨hb, hR2⟩ := hb
  refine J_icmp_eq (pc := 1194) (tgt := 1455) dL_law_1194 (by decide) (fun h1194 => ?_) (fun h1194 => absurd hb.symm h1194)
  exact ih mb hR2
set_option maxRecDepth 100000 in
set_option maxHeartbeats 400000 in
theorem law_learn {x : jX} {m : jm} {d k i : Nat} (hl : (jxS x).2.1 ≤ 3072) (hi : i + 6 ≤ (jxS x).2.1) (hR : RelA m m k) (hk : k < 1000) (ih : ∀ m', RelA m' m' (k + 1) → K x (d + 121) eL_law 1455 [some (.ref (jxS x).1), some (.ref (jxb x + 0)), some (.ref (jxb x + 140)), some (.int (nI i))] [] m' (fun r _ => r = some (.int 1))) : K x (d + 121) eL_law 1199 [some (.ref (jxS x).1), some (.ref (jxb x + 0)), some (.ref (jxb x + 140)), some (.int (nI i))] [] m (fun r _ => r = some (.int 1)) := by
  refine J_aload_n (pc := 1199) dL_law_1199 rfl ?_
  refine J_aload_n (pc := 1200) dL_law_1200 rfl ?_
  refine J_iload_n (pc := 1201) dL_law_1201 rfl ?_
  refine J_iconst (pc := 1202) dL_law_1202 kni_1 ?_
  refine J_iaddv (pc := 1203) dL_law_1203 (nI_add _ _) ?_
  refine J_sld (pc := 1204) dL_law_1204 (vp_in_nI (by omega) (by omega)) ?_
  refine J_aload_n (pc := 1205) dL_law_1205 rfl ?_
  refine J_iload_n (pc := 1206) dL_law_1206 rfl ?_
  refine J_iconst (pc := 1207) dL_law_1207 kni_2 ?_
  refine J_iaddv (pc := 1208) dL_law_1208 (nI_add _ _) ?_
  refine J_sld (pc := 1209) dL_law_1209 (vp_in_nI (by omega) (by omega)) ?_
  refine K_callVi (pc := 1210) (id := 0) (As := [_, _]) dL_law_1210 kl_L_134 rfl job_0 rfl rfl (Nat.le_of_ble_eq_true rfl) (q_learn hR _ _) (fun va ma ha => ?_)
  refine J_aload_n (pc := 1213) dL_law_1213 rfl ?_
  refine J_aload_n (pc := 1214) dL_law_1214 rfl ?_
  refine J_iload_n (pc := 1215) dL_law_1215 rfl ?_
  refine J_iconst (pc := 1216) dL_law_1216 kni_1 ?_
  refine J_iaddv (pc := 1217) dL_law_1217 (nI_add _ _) ?_
  refine J_sld (pc := 1218) dL_law_1218 (vp_in_nI (by omega) (by omega)) ?_
  refine J_aload_n (pc := 1219) dL_law_1219 rfl ?_
  refine J_iload_n (pc := 1220) dL_law_1220 rfl ?_
  refine J_iconst (pc := 1221) dL_law_1221 kni_2 ?_
  refine J_iaddv (pc := 1222) dL_law_1222 (nI_add _ _) ?_
  refine J_sld (pc := 1223) dL_law_1223 (vp_in_nI (by omega) (by omega)) ?_
  refine K_callVi (pc := 1224) (id := 140) (As := [_, _]) dL_law_1224 kl_L_137 rfl job_140 rfl rfl (Nat.le_of_ble_eq_true rfl) (ha) (fun vb mb hb => ?_)
  obtain ⟨hb, hR2⟩ := hb
  refine J_icmp_eq (pc := 1227) (tgt := 1455) dL_law_1227 (by decide) (fun h1227 => ?_) (fun h1227 => absurd hb.symm h1227)
  exact ih mb hR2
set_option maxRecDepth 100000 in
set_option maxHeartbeats 400000 in
theorem law_apart {x : jX} {m : jm} {d k i : Nat} (hl : (jxS x).2.1 ≤ 3072) (hi : i + 6 ≤ (jxS x).2.1) (hR : RelA m m k) (hk : k < 1000) (ih : ∀ m', RelA m' m' (k + 1) → K x (d + 121) eL_law 1455 [some (.ref (jxS x).1), some (.ref (jxb x + 0)), some (.ref (jxb x + 140)), some (.int (nI i))] [] m' (fun r _ => r = some (.int 1))) : K x (d + 121) eL_law 1232 [some (.ref (jxS x).1), some (.ref (jxb x + 0)), some (.ref (jxb x + 140)), some (.int (nI i))] [] m (fun r _ => r = some (.int 1)) := by
  refine J_aload_n (pc := 1232) dL_law_1232 rfl ?_
  refine J_aload_n (pc := 1233) dL_law_1233 rfl ?_
  refine J_iload_n (pc := 1234) dL_law_1234 rfl ?_
  refine J_iconst (pc := 1235) dL_law_1235 kni_1 ?_
  refine J_iaddv (pc := 1236) dL_law_1236 (nI_add _ _) ?_
  refine J_sld (pc := 1237) dL_law_1237 (vp_in_nI (by omega) (by omega)) ?_
  refine K_callVi (pc := 1238) (id := 0) (As := [_]) dL_law_1238 kl_L_138 rfl job_0 rfl rfl (Nat.le_of_ble_eq_true rfl) (q_apart hR _) (fun va ma ha => ?_)
  refine J_aload_n (pc := 1241) dL_law_1241 rfl ?_
  refine J_aload_n (pc := 1242) dL_law_1242 rfl ?_
  refine J_iload_n (pc := 1243) dL_law_1243 rfl ?_
  refine J_iconst (pc := 1244) dL_law_1244 kni_1 ?_
  refine J_iaddv (pc := 1245) dL_law_1245 (nI_add _ _) ?_
  refine J_sld (pc := 1246) dL_law_1246 (vp_in_nI (by omega) (by omega)) ?_
  refine K_callVi (pc := 1247) (id := 140) (As := [_]) dL_law_1247 kl_L_141 rfl job_140 rfl rfl (Nat.le_of_ble_eq_true rfl) (ha) (fun vb mb hb => ?_)
  obtain ⟨hb, hR2⟩ := hb
  refine J_icmp_eq (pc := 1250) (tgt := 1455) dL_law_1250 (by decide) (fun h1250 => ?_) (fun h1250 => absurd hb.symm h1250)
  exact ih mb hR2
set_option maxRecDepth 100000 in
set_option maxHeartbeats 400000 in
theorem law_fewest {x : jX} {m : jm} {d k i : Nat} (hl : (jxS x).2.1 ≤ 3072) (hi : i + 6 ≤ (jxS x).2.1) (hR : RelA m m k) (hk : k < 1000) (ih : ∀ m', RelA m' m' (k + 1) → K x (d + 121) eL_law 1455 [some (.ref (jxS x).1), some (.ref (jxb x + 0)), some (.ref (jxb x + 140)), some (.int (nI i))] [] m' (fun r _ => r = some (.int 1))) : K x (d + 121) eL_law 1255 [some (.ref (jxS x).1), some (.ref (jxb x + 0)), some (.ref (jxb x + 140)), some (.int (nI i))] [] m (fun r _ => r = some (.int 1)) := by
  refine J_aload_n (pc := 1255) dL_law_1255 rfl ?_
  refine K_callVi (pc := 1256) (id := 0) (As := []) dL_law_1256 kl_L_142 rfl job_0 rfl rfl (Nat.le_of_ble_eq_true rfl) (q_fewest hR) (fun va ma ha => ?_)
  refine J_aload_n (pc := 1259) dL_law_1259 rfl ?_
  refine K_callVi (pc := 1260) (id := 140) (As := []) dL_law_1260 kl_L_145 rfl job_140 rfl rfl (Nat.le_of_ble_eq_true rfl) (ha) (fun vb mb hb => ?_)
  obtain ⟨hb, hR2⟩ := hb
  refine J_icmp_eq (pc := 1263) (tgt := 1455) dL_law_1263 (by decide) (fun h1263 => ?_) (fun h1263 => absurd hb.symm h1263)
  exact ih mb hR2
set_option maxRecDepth 100000 in
set_option maxHeartbeats 400000 in
theorem law_watch {x : jX} {m : jm} {d k i : Nat} (hl : (jxS x).2.1 ≤ 3072) (hi : i + 6 ≤ (jxS x).2.1) (hR : RelA m m k) (hk : k < 1000) (ih : ∀ m', RelA m' m' (k + 1) → K x (d + 121) eL_law 1455 [some (.ref (jxS x).1), some (.ref (jxb x + 0)), some (.ref (jxb x + 140)), some (.int (nI i))] [] m' (fun r _ => r = some (.int 1))) : K x (d + 121) eL_law 1268 [some (.ref (jxS x).1), some (.ref (jxb x + 0)), some (.ref (jxb x + 140)), some (.int (nI i))] [] m (fun r _ => r = some (.int 1)) := by
  refine J_aload_n (pc := 1268) dL_law_1268 rfl ?_
  refine J_aload_n (pc := 1269) dL_law_1269 rfl ?_
  refine J_iload_n (pc := 1270) dL_law_1270 rfl ?_
  refine J_iconst (pc := 1271) dL_law_1271 kni_1 ?_
  refine J_iaddv (pc := 1272) dL_law_1272 (nI_add _ _) ?_
  refine J_sld (pc := 1273) dL_law_1273 (vp_in_nI (by omega) (by omega)) ?_
  refine K_callVi (pc := 1274) (id := 0) (As := [_]) dL_law_1274 kl_L_146 rfl job_0 rfl rfl (Nat.le_of_ble_eq_true rfl) (q_watch hR _) (fun va ma ha => ?_)
  refine J_aload_n (pc := 1277) dL_law_1277 rfl ?_
  refine J_aload_n (pc := 1278) dL_law_1278 rfl ?_
  refine J_iload_n (pc := 1279) dL_law_1279 rfl ?_
  refine J_iconst (pc := 1280) dL_law_1280 kni_1 ?_
  refine J_iaddv (pc := 1281) dL_law_1281 (nI_add _ _) ?_
  refine J_sld (pc := 1282) dL_law_1282 (vp_in_nI (by omega) (by omega)) ?_
  refine K_callVi (pc := 1283) (id := 140) (As := [_]) dL_law_1283 kl_L_149 rfl job_140 rfl rfl (Nat.le_of_ble_eq_true rfl) (ha) (fun vb mb hb => ?_)
  obtain ⟨hb, hR2⟩ := hb
  refine J_icmp_eq (pc := 1286) (tgt := 1455) dL_law_1286 (by decide) (fun h1286 => ?_) (fun h1286 => absurd hb.symm h1286)
  exact ih mb hR2
set_option maxRecDepth 100000 in
set_option maxHeartbeats 400000 in
theorem law_alike {x : jX} {m : jm} {d k i : Nat} (hl : (jxS x).2.1 ≤ 3072) (hi : i + 6 ≤ (jxS x).2.1) (hR : RelA m m k) (hk : k < 1000) (ih : ∀ m', RelA m' m' (k + 1) → K x (d + 121) eL_law 1455 [some (.ref (jxS x).1), some (.ref (jxb x + 0)), some (.ref (jxb x + 140)), some (.int (nI i))] [] m' (fun r _ => r = some (.int 1))) : K x (d + 121) eL_law 1291 [some (.ref (jxS x).1), some (.ref (jxb x + 0)), some (.ref (jxb x + 140)), some (.int (nI i))] [] m (fun r _ => r = some (.int 1)) := by
  refine J_aload_n (pc := 1291) dL_law_1291 rfl ?_
  refine J_aload_n (pc := 1292) dL_law_1292 rfl ?_
  refine J_iload_n (pc := 1293) dL_law_1293 rfl ?_
  refine J_iconst (pc := 1294) dL_law_1294 kni_1 ?_
  refine J_iaddv (pc := 1295) dL_law_1295 (nI_add _ _) ?_
  refine J_sld (pc := 1296) dL_law_1296 (vp_in_nI (by omega) (by omega)) ?_
  refine J_aload_n (pc := 1297) dL_law_1297 rfl ?_
  refine J_iload_n (pc := 1298) dL_law_1298 rfl ?_
  refine J_iconst (pc := 1299) dL_law_1299 kni_2 ?_
  refine J_iaddv (pc := 1300) dL_law_1300 (nI_add _ _) ?_
  refine J_sld (pc := 1301) dL_law_1301 (vp_in_nI (by omega) (by omega)) ?_
  refine K_callVi (pc := 1302) (id := 0) (As := [_, _]) dL_law_1302 kl_L_150 rfl job_0 rfl rfl (Nat.le_of_ble_eq_true rfl) (q_alike hR _ _) (fun va ma ha => ?_)
  refine J_aload_n (pc := 1305) dL_law_1305 rfl ?_
  refine J_aload_n (pc := 1306) dL_law_1306 rfl ?_
  refine J_iload_n (pc := 1307) dL_law_1307 rfl ?_
  refine J_iconst (pc := 1308) dL_law_1308 kni_1 ?_
  refine J_iaddv (pc := 1309) dL_law_1309 (nI_add _ _) ?_
  refine J_sld (pc := 1310) dL_law_1310 (vp_in_nI (by omega) (by omega)) ?_
  refine J_aload_n (pc := 1311) dL_law_1311 rfl ?_
  refine J_iload_n (pc := 1312) dL_law_1312 rfl ?_
  refine J_iconst (pc := 1313) dL_law_1313 kni_2 ?_
  refine J_iaddv (pc := 1314) dL_law_1314 (nI_add _ _) ?_
  refine J_sld (pc := 1315) dL_law_1315 (vp_in_nI (by omega) (by omega)) ?_
  refine K_callVi (pc := 1316) (id := 140) (As := [_, _]) dL_law_1316 kl_L_153 rfl job_140 rfl rfl (Nat.le_of_ble_eq_true rfl) (ha) (fun vb mb hb => ?_)
  obtain ⟨hb, hR2⟩ := hb
  refine J_icmp_eq (pc := 1319) (tgt := 1455) dL_law_1319 (by decide) (fun h1319 => ?_) (fun h1319 => absurd hb.symm h1319)
  exact ih mb hR2
set_option maxRecDepth 100000 in
set_option maxHeartbeats 400000 in
theorem law_kinds {x : jX} {m : jm} {d k i : Nat} (hl : (jxS x).2.1 ≤ 3072) (hi : i + 6 ≤ (jxS x).2.1) (hR : RelA m m k) (hk : k < 1000) (ih : ∀ m', RelA m' m' (k + 1) → K x (d + 121) eL_law 1455 [some (.ref (jxS x).1), some (.ref (jxb x + 0)), some (.ref (jxb x + 140)), some (.int (nI i))] [] m' (fun r _ => r = some (.int 1))) : K x (d + 121) eL_law 1324 [some (.ref (jxS x).1), some (.ref (jxb x + 0)), some (.ref (jxb x + 140)), some (.int (nI i))] [] m (fun r _ => r = some (.int 1)) := by
  refine J_aload_n (pc := 1324) dL_law_1324 rfl ?_
  refine J_aload_n (pc := 1325) dL_law_1325 rfl ?_
  refine J_iload_n (pc := 1326) dL_law_1326 rfl ?_
  refine J_iconst (pc := 1327) dL_law_1327 kni_1 ?_
  refine J_iaddv (pc := 1328) dL_law_1328 (nI_add _ _) ?_
  refine J_sld (pc := 1329) dL_law_1329 (vp_in_nI (by omega) (by omega)) ?_
  refine K_callVi (pc := 1330) (id := 0) (As := [_]) dL_law_1330 kl_L_154 rfl job_0 rfl rfl (Nat.le_of_ble_eq_true rfl) (q_kinds hR _) (fun va ma ha => ?_)
  refine J_aload_n (pc := 1333) dL_law_1333 rfl ?_
  refine J_aload_n (pc := 1334) dL_law_1334 rfl ?_
  refine J_iload_n (pc := 1335) dL_law_1335 rfl ?_
  refine J_iconst (pc := 1336) dL_law_1336 kni_1 ?_
  refine J_iaddv (pc := 1337) dL_law_1337 (nI_add _ _) ?_
  refine J_sld (pc := 1338) dL_law_1338 (vp_in_nI (by omega) (by omega)) ?_
  refine K_callVi (pc := 1339) (id := 140) (As := [_]) dL_law_1339 kl_L_157 rfl job_140 rfl rfl (Nat.le_of_ble_eq_true rfl) (ha) (fun vb mb hb => ?_)
  obtain ⟨hb, hR2⟩ := hb
  refine J_icmp_eq (pc := 1342) (tgt := 1455) dL_law_1342 (by decide) (fun h1342 => ?_) (fun h1342 => absurd hb.symm h1342)
  exact ih mb hR2
set_option maxRecDepth 100000 in
set_option maxHeartbeats 400000 in
theorem law_parts {x : jX} {m : jm} {d k i : Nat} (hl : (jxS x).2.1 ≤ 3072) (hi : i + 6 ≤ (jxS x).2.1) (hR : RelA m m k) (hk : k < 1000) (ih : ∀ m', RelA m' m' (k + 1) → K x (d + 121) eL_law 1455 [some (.ref (jxS x).1), some (.ref (jxb x + 0)), some (.ref (jxb x + 140)), some (.int (nI i))] [] m' (fun r _ => r = some (.int 1))) : K x (d + 121) eL_law 1347 [some (.ref (jxS x).1), some (.ref (jxb x + 0)), some (.ref (jxb x + 140)), some (.int (nI i))] [] m (fun r _ => r = some (.int 1)) := by
  refine J_aload_n (pc := 1347) dL_law_1347 rfl ?_
  refine K_callVi (pc := 1348) (id := 0) (As := []) dL_law_1348 kl_L_158 rfl job_0 rfl rfl (Nat.le_of_ble_eq_true rfl) (q_parts hR) (fun va ma ha => ?_)
  refine J_aload_n (pc := 1351) dL_law_1351 rfl ?_
  refine K_callVi (pc := 1352) (id := 140) (As := []) dL_law_1352 kl_L_161 rfl job_140 rfl rfl (Nat.le_of_ble_eq_true rfl) (ha) (fun vb mb hb => ?_)
  obtain ⟨hb, hR2⟩ := hb
  refine J_icmp_eq (pc := 1355) (tgt := 1455) dL_law_1355 (by decide) (fun h1355 => ?_) (fun h1355 => absurd hb.symm h1355)
  exact ih mb hR2
set_option maxRecDepth 100000 in
set_option maxHeartbeats 400000 in
theorem law_tell {x : jX} {m : jm} {d k i : Nat} (hl : (jxS x).2.1 ≤ 3072) (hi : i + 6 ≤ (jxS x).2.1) (hR : RelA m m k) (hk : k < 1000) (ih : ∀ m', RelA m' m' (k + 1) → K x (d + 121) eL_law 1455 [some (.ref (jxS x).1), some (.ref (jxb x + 0)), some (.ref (jxb x + 140)), some (.int (nI i))] [] m' (fun r _ => r = some (.int 1))) : K x (d + 121) eL_law 1360 [some (.ref (jxS x).1), some (.ref (jxb x + 0)), some (.ref (jxb x + 140)), some (.int (nI i))] [] m (fun r _ => r = some (.int 1)) := by
  refine J_aload_n (pc := 1360) dL_law_1360 rfl ?_
  refine J_aload_n (pc := 1361) dL_law_1361 rfl ?_
  refine J_iload_n (pc := 1362) dL_law_1362 rfl ?_
  refine J_iconst (pc := 1363) dL_law_1363 kni_1 ?_
  refine J_iaddv (pc := 1364) dL_law_1364 (nI_add _ _) ?_
  refine J_sld (pc := 1365) dL_law_1365 (vp_in_nI (by omega) (by omega)) ?_
  refine K_callVi (pc := 1366) (id := 0) (As := [_]) dL_law_1366 kl_L_162 rfl job_0 rfl rfl (Nat.le_of_ble_eq_true rfl) (q_tell hR _) (fun va ma ha => ?_)
  refine J_aload_n (pc := 1369) dL_law_1369 rfl ?_
  refine J_aload_n (pc := 1370) dL_law_1370 rfl ?_
  refine J_iload_n (pc := 1371) dL_law_1371 rfl ?_
  refine J_iconst (pc := 1372) dL_law_1372 kni_1 ?_
  refine J_iaddv (pc := 1373) dL_law_1373 (nI_add _ _) ?_
  refine J_sld (pc := 1374) dL_law_1374 (vp_in_nI (by omega) (by omega)) ?_
  refine K_callVi (pc := 1375) (id := 140) (As := [_]) dL_law_1375 kl_L_165 rfl job_140 rfl rfl (Nat.le_of_ble_eq_true rfl) (ha) (fun vb mb hb => ?_)
  obtain ⟨hb, hR2⟩ := hb
  refine J_icmp_eq (pc := 1378) (tgt := 1455) dL_law_1378 (by decide) (fun h1378 => ?_) (fun h1378 => absurd hb.symm h1378)
  exact ih mb hR2
set_option maxRecDepth 100000 in
set_option maxHeartbeats 400000 in
theorem law_check {x : jX} {m : jm} {d k i : Nat} (hl : (jxS x).2.1 ≤ 3072) (hi : i + 6 ≤ (jxS x).2.1) (hR : RelA m m k) (hk : k < 1000) (ih : ∀ m', RelA m' m' (k + 1) → K x (d + 121) eL_law 1455 [some (.ref (jxS x).1), some (.ref (jxb x + 0)), some (.ref (jxb x + 140)), some (.int (nI i))] [] m' (fun r _ => r = some (.int 1))) : K x (d + 121) eL_law 1383 [some (.ref (jxS x).1), some (.ref (jxb x + 0)), some (.ref (jxb x + 140)), some (.int (nI i))] [] m (fun r _ => r = some (.int 1)) := by
  refine J_aload_n (pc := 1383) dL_law_1383 rfl ?_
  refine J_aload_n (pc := 1384) dL_law_1384 rfl ?_
  refine J_iload_n (pc := 1385) dL_law_1385 rfl ?_
  refine J_iconst (pc := 1386) dL_law_1386 kni_1 ?_
  refine J_iaddv (pc := 1387) dL_law_1387 (nI_add _ _) ?_
  refine J_sld (pc := 1388) dL_law_1388 (vp_in_nI (by omega) (by omega)) ?_
  refine K_callVi (pc := 1389) (id := 0) (As := [_]) dL_law_1389 kl_L_166 rfl job_0 rfl rfl (Nat.le_of_ble_eq_true rfl) (q_check hR _) (fun va ma ha => ?_)
  refine J_aload_n (pc := 1392) dL_law_1392 rfl ?_
  refine J_aload_n (pc := 1393) dL_law_1393 rfl ?_
  refine J_iload_n (pc := 1394) dL_law_1394 rfl ?_
  refine J_iconst (pc := 1395) dL_law_1395 kni_1 ?_
  refine J_iaddv (pc := 1396) dL_law_1396 (nI_add _ _) ?_
  refine J_sld (pc := 1397) dL_law_1397 (vp_in_nI (by omega) (by omega)) ?_
  refine K_callVi (pc := 1398) (id := 140) (As := [_]) dL_law_1398 kl_L_169 rfl job_140 rfl rfl (Nat.le_of_ble_eq_true rfl) (ha) (fun vb mb hb => ?_)
  obtain ⟨hb, hR2⟩ := hb
  refine J_icmp_eq (pc := 1401) (tgt := 1455) dL_law_1401 (by decide) (fun h1401 => ?_) (fun h1401 => absurd hb.symm h1401)
  exact ih mb hR2
set_option maxRecDepth 100000 in
set_option maxHeartbeats 400000 in
theorem law_keep {x : jX} {m : jm} {d k i : Nat} (hl : (jxS x).2.1 ≤ 3072) (hi : i + 6 ≤ (jxS x).2.1) (hR : RelA m m k) (hk : k < 1000) (ih : ∀ m', RelA m' m' (k + 1) → K x (d + 121) eL_law 1455 [some (.ref (jxS x).1), some (.ref (jxb x + 0)), some (.ref (jxb x + 140)), some (.int (nI i))] [] m' (fun r _ => r = some (.int 1))) : K x (d + 121) eL_law 1406 [some (.ref (jxS x).1), some (.ref (jxb x + 0)), some (.ref (jxb x + 140)), some (.int (nI i))] [] m (fun r _ => r = some (.int 1)) := by
  refine J_aload_n (pc := 1406) dL_law_1406 rfl ?_
  refine K_callVi (pc := 1407) (id := 0) (As := []) dL_law_1407 kl_L_170 rfl job_0 rfl rfl (Nat.le_of_ble_eq_true rfl) (q_keep hR) (fun va ma ha => ?_)
  refine J_aload_n (pc := 1410) dL_law_1410 rfl ?_
  refine K_callVi (pc := 1411) (id := 140) (As := []) dL_law_1411 kl_L_173 rfl job_140 rfl rfl (Nat.le_of_ble_eq_true rfl) (ha) (fun vb mb hb => ?_)
  obtain ⟨hb, hR2⟩ := hb
  refine J_icmp_eq (pc := 1414) (tgt := 1455) dL_law_1414 (by decide) (fun h1414 => ?_) (fun h1414 => absurd hb.symm h1414)
  exact ih mb hR2
set_option maxRecDepth 100000 in
set_option maxHeartbeats 400000 in
theorem law_back {x : jX} {m : jm} {d k i : Nat} (hl : (jxS x).2.1 ≤ 3072) (hi : i + 6 ≤ (jxS x).2.1) (hR : RelA m m k) (hk : k < 1000) (ih : ∀ m', RelA m' m' (k + 1) → K x (d + 121) eL_law 1455 [some (.ref (jxS x).1), some (.ref (jxb x + 0)), some (.ref (jxb x + 140)), some (.int (nI i))] [] m' (fun r _ => r = some (.int 1))) : K x (d + 121) eL_law 1419 [some (.ref (jxS x).1), some (.ref (jxb x + 0)), some (.ref (jxb x + 140)), some (.int (nI i))] [] m (fun r _ => r = some (.int 1)) := by
  refine J_aload_n (pc := 1419) dL_law_1419 rfl ?_
  refine K_callVi (pc := 1420) (id := 0) (As := []) dL_law_1420 kl_L_174 rfl job_0 rfl rfl (Nat.le_of_ble_eq_true rfl) (q_back hR) (fun va ma ha => ?_)
  refine J_aload_n (pc := 1423) dL_law_1423 rfl ?_
  refine K_callVi (pc := 1424) (id := 140) (As := []) dL_law_1424 kl_L_177 rfl job_140 rfl rfl (Nat.le_of_ble_eq_true rfl) (ha) (fun vb mb hb => ?_)
  obtain ⟨hb, hR2⟩ := hb
  refine J_icmp_eq (pc := 1427) (tgt := 1455) dL_law_1427 (by decide) (fun h1427 => ?_) (fun h1427 => absurd hb.symm h1427)
  exact ih mb hR2
set_option maxRecDepth 100000 in
set_option maxHeartbeats 400000 in
theorem law_count {x : jX} {m : jm} {d k i : Nat} (hl : (jxS x).2.1 ≤ 3072) (hi : i + 6 ≤ (jxS x).2.1) (hR : RelA m m k) (hk : k < 1000) (ih : ∀ m', RelA m' m' (k + 1) → K x (d + 121) eL_law 1455 [some (.ref (jxS x).1), some (.ref (jxb x + 0)), some (.ref (jxb x + 140)), some (.int (nI i))] [] m' (fun r _ => r = some (.int 1))) : K x (d + 121) eL_law 1432 [some (.ref (jxS x).1), some (.ref (jxb x + 0)), some (.ref (jxb x + 140)), some (.int (nI i))] [] m (fun r _ => r = some (.int 1)) := by
  refine J_aload_n (pc := 1432) dL_law_1432 rfl ?_
  refine J_aload_n (pc := 1433) dL_law_1433 rfl ?_
  refine J_iload_n (pc := 1434) dL_law_1434 rfl ?_
  refine J_iconst (pc := 1435) dL_law_1435 kni_1 ?_
  refine J_iaddv (pc := 1436) dL_law_1436 (nI_add _ _) ?_
  refine J_sld (pc := 1437) dL_law_1437 (vp_in_nI (by omega) (by omega)) ?_
  refine K_callVi (pc := 1438) (id := 0) (As := [_]) dL_law_1438 kl_L_178 rfl job_0 rfl rfl (Nat.le_of_ble_eq_true rfl) (q_count hR _) (fun va ma ha => ?_)
  refine J_aload_n (pc := 1441) dL_law_1441 rfl ?_
  refine J_aload_n (pc := 1442) dL_law_1442 rfl ?_
  refine J_iload_n (pc := 1443) dL_law_1443 rfl ?_
  refine J_iconst (pc := 1444) dL_law_1444 kni_1 ?_
  refine J_iaddv (pc := 1445) dL_law_1445 (nI_add _ _) ?_
  refine J_sld (pc := 1446) dL_law_1446 (vp_in_nI (by omega) (by omega)) ?_
  refine K_callVi (pc := 1447) (id := 140) (As := [_]) dL_law_1447 kl_L_181 rfl job_140 rfl rfl (Nat.le_of_ble_eq_true rfl) (ha) (fun vb mb hb => ?_)
  obtain ⟨hb, hR2⟩ := hb
  refine J_icmp_eq (pc := 1450) (tgt := 1455) dL_law_1450 (by decide) (fun h1450 => ?_) (fun h1450 => absurd hb.symm h1450)
  exact ih mb hR2
theorem law_exit {x : jX} {m : jm} {d i : Nat} (hl : (jxS x).2.1 ≤ 3072) (hi : i ≤ 3100) (h : (jxS x).2.1 < i + 6) : K x (d + 121) eL_law 18 [some (.ref (jxS x).1), some (.ref (jxb x + 0)), some (.ref (jxb x + 140)), some (.int (nI i))] [] m (fun r _ => r = some (.int 1)) := by
  refine J_iload_n (pc := 18) dL_law_18 rfl ?_
  refine J_aload_n (pc := 19) dL_law_19 rfl ?_
  refine J_slen (pc := 20) dL_law_20 ?_
  refine J_bipush (pc := 21) dL_law_21 knb_6 ?_
  refine J_isub (pc := 23) dL_law_23 ?_
  refine J_icmp_gt (pc := 24) (tgt := 1461) dL_law_24 (by decide) (fun h24 => ?_) (fun h24 => absurd (law_gt hl hi h) h24)
  refine J_iconst (pc := 1461) dL_law_1461 kni_1 ?_
  refine K_zret (pc := 1462) dL_law_1462 rfl rfl rfl
set_option maxRecDepth 100000 in
set_option maxHeartbeats 400000 in
theorem law_turn {x : jX} {m : jm} {d k i : Nat} (hl : (jxS x).2.1 ≤ 3072) (hi : i + 6 ≤ (jxS x).2.1) (hR : RelA m m k) (hk : k < 1000) (ih : ∀ m', RelA m' m' (k + 1) → K x (d + 121) eL_law 18 [some (.ref (jxS x).1), some (.ref (jxb x + 0)), some (.ref (jxb x + 140)), some (.int (nI (i + 6)))] [] m' (fun r _ => r = some (.int 1))) : K x (d + 121) eL_law 18 [some (.ref (jxS x).1), some (.ref (jxb x + 0)), some (.ref (jxb x + 140)), some (.int (nI i))] [] m (fun r _ => r = some (.int 1)) := by
  have ih2 : ∀ m', RelA m' m' (k + 1) → K x (d + 121) eL_law 1455 [some (.ref (jxS x).1), some (.ref (jxb x + 0)), some (.ref (jxb x + 140)), some (.int (nI i))] [] m' (fun r _ => r = some (.int 1)) := fun m' h => by
    refine Jn_iinc (pc := 1455) (ls' := [some _, some _, some _, some _]) dL_law_1455 rfl knz_6 rfl rfl ?_
    refine J_goto (pc := 1458) (tgt := 18) dL_law_1458 (by decide) ?_
    exact ih m' h
  refine J_iload_n (pc := 18) dL_law_18 rfl ?_
  refine J_aload_n (pc := 19) dL_law_19 rfl ?_
  refine J_slen (pc := 20) dL_law_20 ?_
  refine J_bipush (pc := 21) dL_law_21 knb_6 ?_
  refine J_isubv (pc := 23) dL_law_23 (pk_sub (by omega)) ?_
  refine Jn_gt (pc := 24) (tgt := 1461) dL_law_24 (by decide) (by omega) (by omega) (fun h24 => absurd h24 (by omega)) (fun h24 => ?_)
  refine J_aload_n (pc := 27) dL_law_27 rfl ?_
  refine J_iload_n (pc := 28) dL_law_28 rfl ?_
  refine J_sld (pc := 29) dL_law_29 (vp_in_nI (by omega) (by omega)) ?_
  refine J_bipush (pc := 30) dL_law_30 knb_63 ?_
  refine J_iand (pc := 32) dL_law_32 ?_
  by_cases c33_0 : (((((jxS x).2.2 (nI i).toNatClampNeg)) &&& nI 63)) = nI 0
  ·
    refine J_tsIn (pc := 33) (tgt := 212) (off := 179) dL_law_33 (by rw [c33_0]; decide) (by rw [c33_0]; decide) (by rw [c33_0]; rfl) (by decide) ?_
    exact law_part hl hi hR hk ih2
  by_cases c33_1 : (((((jxS x).2.2 (nI i).toNatClampNeg)) &&& nI 63)) = nI 1
  ·
    refine J_tsIn (pc := 33) (tgt := 275) (off := 242) dL_law_33 (by rw [c33_1]; decide) (by rw [c33_1]; decide) (by rw [c33_1]; rfl) (by decide) ?_
    exact law_told hl hi hR hk ih2
  by_cases c33_2 : (((((jxS x).2.2 (nI i).toNatClampNeg)) &&& nI 63)) = nI 2
  ·
    refine J_tsIn (pc := 33) (tgt := 308) (off := 275) dL_law_33 (by rw [c33_2]; decide) (by rw [c33_2]; decide) (by rw [c33_2]; rfl) (by decide) ?_
    exact law_as hl hi hR hk ih2
  by_cases c33_3 : (((((jxS x).2.2 (nI i).toNatClampNeg)) &&& nI 63)) = nI 3
  ·
    refine J_tsIn (pc := 33) (tgt := 341) (off := 308) dL_law_33 (by rw [c33_3]; decide) (by rw [c33_3]; decide) (by rw [c33_3]; rfl) (by decide) ?_
    exact law_dies hl hi hR hk ih2
  by_cases c33_4 : (((((jxS x).2.2 (nI i).toNatClampNeg)) &&& nI 63)) = nI 4
  ·
    refine J_tsIn (pc := 33) (tgt := 364) (off := 331) dL_law_33 (by rw [c33_4]; decide) (by rw [c33_4]; decide) (by rw [c33_4]; rfl) (by decide) ?_
    exact law_nerve hl hi hR hk ih2
  by_cases c33_5 : (((((jxS x).2.2 (nI i).toNatClampNeg)) &&& nI 63)) = nI 5
  ·
    refine J_tsIn (pc := 33) (tgt := 407) (off := 374) dL_law_33 (by rw [c33_5]; decide) (by rw [c33_5]; decide) (by rw [c33_5]; rfl) (by decide) ?_
    exact law_pull hl hi hR hk ih2
  by_cases c33_6 : (((((jxS x).2.2 (nI i).toNatClampNeg)) &&& nI 63)) = nI 6
  ·
    refine J_tsIn (pc := 33) (tgt := 440) (off := 407) dL_law_33 (by rw [c33_6]; decide) (by rw [c33_6]; decide) (by rw [c33_6]; rfl) (by decide) ?_
    exact law_rule hl hi hR hk ih2
  by_cases c33_7 : (((((jxS x).2.2 (nI i).toNatClampNeg)) &&& nI 63)) = nI 7
  ·
    refine J_tsIn (pc := 33) (tgt := 473) (off := 440) dL_law_33 (by rw [c33_7]; decide) (by rw [c33_7]; decide) (by rw [c33_7]; rfl) (by decide) ?_
    exact law_show hl hi hR hk ih2
  by_cases c33_8 : (((((jxS x).2.2 (nI i).toNatClampNeg)) &&& nI 63)) = nI 8
  ·
    refine J_tsIn (pc := 33) (tgt := 506) (off := 473) dL_law_33 (by rw [c33_8]; decide) (by rw [c33_8]; decide) (by rw [c33_8]; rfl) (by decide) ?_
    exact law_tick hl hi hR hk ih2
  by_cases c33_9 : (((((jxS x).2.2 (nI i).toNatClampNeg)) &&& nI 63)) = nI 9
  ·
    refine J_tsIn (pc := 33) (tgt := 529) (off := 496) dL_law_33 (by rw [c33_9]; decide) (by rw [c33_9]; decide) (by rw [c33_9]; rfl) (by decide) ?_
    exact law_rest hl hi hR hk ih2
  by_cases c33_10 : (((((jxS x).2.2 (nI i).toNatClampNeg)) &&& nI 63)) = nI 10
  ·
    refine J_tsIn (pc := 33) (tgt := 542) (off := 509) dL_law_33 (by rw [c33_10]; decide) (by rw [c33_10]; decide) (by rw [c33_10]; rfl) (by decide) ?_
    exact law_still hl hi hR hk ih2
  by_cases c33_11 : (((((jxS x).2.2 (nI i).toNatClampNeg)) &&& nI 63)) = nI 11
  ·
    refine J_tsIn (pc := 33) (tgt := 555) (off := 522) dL_law_33 (by rw [c33_11]; decide) (by rw [c33_11]; decide) (by rw [c33_11]; rfl) (by decide) ?_
    exact law_change hl hi hR hk ih2
  by_cases c33_12 : (((((jxS x).2.2 (nI i).toNatClampNeg)) &&& nI 63)) = nI 12
  ·
    refine J_tsIn (pc := 33) (tgt := 568) (off := 535) dL_law_33 (by rw [c33_12]; decide) (by rw [c33_12]; decide) (by rw [c33_12]; rfl) (by decide) ?_
    exact law_line hl hi hR hk ih2
  by_cases c33_13 : (((((jxS x).2.2 (nI i).toNatClampNeg)) &&& nI 63)) = nI 13
  ·
    refine J_tsIn (pc := 33) (tgt := 611) (off := 578) dL_law_33 (by rw [c33_13]; decide) (by rw [c33_13]; decide) (by rw [c33_13]; rfl) (by decide) ?_
    exact law_put hl hi hR hk ih2
  by_cases c33_14 : (((((jxS x).2.2 (nI i).toNatClampNeg)) &&& nI 63)) = nI 14
  ·
    refine J_tsIn (pc := 33) (tgt := 654) (off := 621) dL_law_33 (by rw [c33_14]; decide) (by rw [c33_14]; decide) (by rw [c33_14]; rfl) (by decide) ?_
    exact law_copy hl hi hR hk ih2
  by_cases c33_15 : (((((jxS x).2.2 (nI i).toNatClampNeg)) &&& nI 63)) = nI 15
  ·
    refine J_tsIn (pc := 33) (tgt := 717) (off := 684) dL_law_33 (by rw [c33_15]; decide) (by rw [c33_15]; decide) (by rw [c33_15]; rfl) (by decide) ?_
    exact law_ground hl hi hR hk ih2
  by_cases c33_16 : (((((jxS x).2.2 (nI i).toNatClampNeg)) &&& nI 63)) = nI 16
  ·
    refine J_tsIn (pc := 33) (tgt := 750) (off := 717) dL_law_33 (by rw [c33_16]; decide) (by rw [c33_16]; decide) (by rw [c33_16]; rfl) (by decide) ?_
    exact law_ask hl hi hR hk ih2
  by_cases c33_17 : (((((jxS x).2.2 (nI i).toNatClampNeg)) &&& nI 63)) = nI 17
  ·
    refine J_tsIn (pc := 33) (tgt := 783) (off := 750) dL_law_33 (by rw [c33_17]; decide) (by rw [c33_17]; decide) (by rw [c33_17]; rfl) (by decide) ?_
    exact law_feed hl hi hR hk ih2
  by_cases c33_18 : (((((jxS x).2.2 (nI i).toNatClampNeg)) &&& nI 63)) = nI 18
  ·
    refine J_tsIn (pc := 33) (tgt := 826) (off := 793) dL_law_33 (by rw [c33_18]; decide) (by rw [c33_18]; decide) (by rw [c33_18]; rfl) (by decide) ?_
    exact law_trim hl hi hR hk ih2
  by_cases c33_19 : (((((jxS x).2.2 (nI i).toNatClampNeg)) &&& nI 63)) = nI 19
  ·
    refine J_tsIn (pc := 33) (tgt := 849) (off := 816) dL_law_33 (by rw [c33_19]; decide) (by rw [c33_19]; decide) (by rw [c33_19]; rfl) (by decide) ?_
    exact law_text hl hi hR hk ih2
  by_cases c33_20 : (((((jxS x).2.2 (nI i).toNatClampNeg)) &&& nI 63)) = nI 20
  ·
    refine J_tsIn (pc := 33) (tgt := 872) (off := 839) dL_law_33 (by rw [c33_20]; decide) (by rw [c33_20]; decide) (by rw [c33_20]; rfl) (by decide) ?_
    exact law_of hl hi hR hk ih2
  by_cases c33_21 : (((((jxS x).2.2 (nI i).toNatClampNeg)) &&& nI 63)) = nI 21
  ·
    refine J_tsIn (pc := 33) (tgt := 905) (off := 872) dL_law_33 (by rw [c33_21]; decide) (by rw [c33_21]; decide) (by rw [c33_21]; rfl) (by decide) ?_
    exact law_why hl hi hR hk ih2
  by_cases c33_22 : (((((jxS x).2.2 (nI i).toNatClampNeg)) &&& nI 63)) = nI 22
  ·
    refine J_tsIn (pc := 33) (tgt := 928) (off := 895) dL_law_33 (by rw [c33_22]; decide) (by rw [c33_22]; decide) (by rw [c33_22]; rfl) (by decide) ?_
    exact law_gives hl hi hR hk ih2
  by_cases c33_23 : (((((jxS x).2.2 (nI i).toNatClampNeg)) &&& nI 63)) = nI 23
  ·
    refine J_tsIn (pc := 33) (tgt := 991) (off := 958) dL_law_33 (by rw [c33_23]; decide) (by rw [c33_23]; decide) (by rw [c33_23]; rfl) (by decide) ?_
    exact law_habit hl hi hR hk ih2
  by_cases c33_24 : (((((jxS x).2.2 (nI i).toNatClampNeg)) &&& nI 63)) = nI 24
  ·
    refine J_tsIn (pc := 33) (tgt := 1014) (off := 981) dL_law_33 (by rw [c33_24]; decide) (by rw [c33_24]; decide) (by rw [c33_24]; rfl) (by decide) ?_
    exact law_seen hl hi hR hk ih2
  by_cases c33_25 : (((((jxS x).2.2 (nI i).toNatClampNeg)) &&& nI 63)) = nI 25
  ·
    refine J_tsIn (pc := 33) (tgt := 1047) (off := 1014) dL_law_33 (by rw [c33_25]; decide) (by rw [c33_25]; decide) (by rw [c33_25]; rfl) (by decide) ?_
    exact law_beast hl hi hR hk ih2
  by_cases c33_26 : (((((jxS x).2.2 (nI i).toNatClampNeg)) &&& nI 63)) = nI 26
  ·
    refine J_tsIn (pc := 33) (tgt := 1080) (off := 1047) dL_law_33 (by rw [c33_26]; decide) (by rw [c33_26]; decide) (by rw [c33_26]; rfl) (by decide) ?_
    exact law_hide hl hi hR hk ih2
  by_cases c33_27 : (((((jxS x).2.2 (nI i).toNatClampNeg)) &&& nI 63)) = nI 27
  ·
    refine J_tsIn (pc := 33) (tgt := 1123) (off := 1090) dL_law_33 (by rw [c33_27]; decide) (by rw [c33_27]; decide) (by rw [c33_27]; rfl) (by decide) ?_
    exact law_misses hl hi hR hk ih2
  by_cases c33_28 : (((((jxS x).2.2 (nI i).toNatClampNeg)) &&& nI 63)) = nI 28
  ·
    refine J_tsIn (pc := 33) (tgt := 1166) (off := 1133) dL_law_33 (by rw [c33_28]; decide) (by rw [c33_28]; decide) (by rw [c33_28]; rfl) (by decide) ?_
    exact law_half hl hi hR hk ih2
  by_cases c33_29 : (((((jxS x).2.2 (nI i).toNatClampNeg)) &&& nI 63)) = nI 29
  ·
    refine J_tsIn (pc := 33) (tgt := 1199) (off := 1166) dL_law_33 (by rw [c33_29]; decide) (by rw [c33_29]; decide) (by rw [c33_29]; rfl) (by decide) ?_
    exact law_learn hl hi hR hk ih2
  by_cases c33_30 : (((((jxS x).2.2 (nI i).toNatClampNeg)) &&& nI 63)) = nI 30
  ·
    refine J_tsIn (pc := 33) (tgt := 1232) (off := 1199) dL_law_33 (by rw [c33_30]; decide) (by rw [c33_30]; decide) (by rw [c33_30]; rfl) (by decide) ?_
    exact law_apart hl hi hR hk ih2
  by_cases c33_31 : (((((jxS x).2.2 (nI i).toNatClampNeg)) &&& nI 63)) = nI 31
  ·
    refine J_tsIn (pc := 33) (tgt := 1255) (off := 1222) dL_law_33 (by rw [c33_31]; decide) (by rw [c33_31]; decide) (by rw [c33_31]; rfl) (by decide) ?_
    exact law_fewest hl hi hR hk ih2
  by_cases c33_32 : (((((jxS x).2.2 (nI i).toNatClampNeg)) &&& nI 63)) = nI 32
  ·
    refine J_tsIn (pc := 33) (tgt := 1268) (off := 1235) dL_law_33 (by rw [c33_32]; decide) (by rw [c33_32]; decide) (by rw [c33_32]; rfl) (by decide) ?_
    exact law_watch hl hi hR hk ih2
  by_cases c33_33 : (((((jxS x).2.2 (nI i).toNatClampNeg)) &&& nI 63)) = nI 33
  ·
    refine J_tsIn (pc := 33) (tgt := 1291) (off := 1258) dL_law_33 (by rw [c33_33]; decide) (by rw [c33_33]; decide) (by rw [c33_33]; rfl) (by decide) ?_
    exact law_alike hl hi hR hk ih2
  by_cases c33_34 : (((((jxS x).2.2 (nI i).toNatClampNeg)) &&& nI 63)) = nI 34
  ·
    refine J_tsIn (pc := 33) (tgt := 1324) (off := 1291) dL_law_33 (by rw [c33_34]; decide) (by rw [c33_34]; decide) (by rw [c33_34]; rfl) (by decide) ?_
    exact law_kinds hl hi hR hk ih2
  by_cases c33_35 : (((((jxS x).2.2 (nI i).toNatClampNeg)) &&& nI 63)) = nI 35
  ·
    refine J_tsIn (pc := 33) (tgt := 1347) (off := 1314) dL_law_33 (by rw [c33_35]; decide) (by rw [c33_35]; decide) (by rw [c33_35]; rfl) (by decide) ?_
    exact law_parts hl hi hR hk ih2
  by_cases c33_36 : (((((jxS x).2.2 (nI i).toNatClampNeg)) &&& nI 63)) = nI 36
  ·
    refine J_tsIn (pc := 33) (tgt := 1360) (off := 1327) dL_law_33 (by rw [c33_36]; decide) (by rw [c33_36]; decide) (by rw [c33_36]; rfl) (by decide) ?_
    exact law_tell hl hi hR hk ih2
  by_cases c33_37 : (((((jxS x).2.2 (nI i).toNatClampNeg)) &&& nI 63)) = nI 37
  ·
    refine J_tsIn (pc := 33) (tgt := 1383) (off := 1350) dL_law_33 (by rw [c33_37]; decide) (by rw [c33_37]; decide) (by rw [c33_37]; rfl) (by decide) ?_
    exact law_check hl hi hR hk ih2
  by_cases c33_38 : (((((jxS x).2.2 (nI i).toNatClampNeg)) &&& nI 63)) = nI 38
  ·
    refine J_tsIn (pc := 33) (tgt := 1406) (off := 1373) dL_law_33 (by rw [c33_38]; decide) (by rw [c33_38]; decide) (by rw [c33_38]; rfl) (by decide) ?_
    exact law_keep hl hi hR hk ih2
  by_cases c33_39 : (((((jxS x).2.2 (nI i).toNatClampNeg)) &&& nI 63)) = nI 39
  ·
    refine J_tsIn (pc := 33) (tgt := 1419) (off := 1386) dL_law_33 (by rw [c33_39]; decide) (by rw [c33_39]; decide) (by rw [c33_39]; rfl) (by decide) ?_
    exact law_back hl hi hR hk ih2
  by_cases c33_40 : (((((jxS x).2.2 (nI i).toNatClampNeg)) &&& nI 63)) = nI 40
  ·
    refine J_tsIn (pc := 33) (tgt := 1432) (off := 1399) dL_law_33 (by rw [c33_40]; decide) (by rw [c33_40]; decide) (by rw [c33_40]; rfl) (by decide) ?_
    exact law_count hl hi hR hk ih2
  refine J_tsOut (pc := 33) (tgt := 1455) dL_law_33 (by have qc33_0 := jsw_ne c33_0 (by decide); have qc33_1 := jsw_ne c33_1 (by decide); have qc33_2 := jsw_ne c33_2 (by decide); have qc33_3 := jsw_ne c33_3 (by decide); have qc33_4 := jsw_ne c33_4 (by decide); have qc33_5 := jsw_ne c33_5 (by decide); have qc33_6 := jsw_ne c33_6 (by decide); have qc33_7 := jsw_ne c33_7 (by decide); have qc33_8 := jsw_ne c33_8 (by decide); have qc33_9 := jsw_ne c33_9 (by decide); have qc33_10 := jsw_ne c33_10 (by decide); have qc33_11 := jsw_ne c33_11 (by decide); have qc33_12 := jsw_ne c33_12 (by decide); have qc33_13 := jsw_ne c33_13 (by decide); have qc33_14 := jsw_ne c33_14 (by decide); have qc33_15 := jsw_ne c33_15 (by decide); have qc33_16 := jsw_ne c33_16 (by decide); have qc33_17 := jsw_ne c33_17 (by decide); have qc33_18 := jsw_ne c33_18 (by decide); have qc33_19 := jsw_ne c33_19 (by decide); have qc33_20 := jsw_ne c33_20 (by decide); have qc33_21 := jsw_ne c33_21 (by decide); have qc33_22 := jsw_ne c33_22 (by decide); have qc33_23 := jsw_ne c33_23 (by decide); have qc33_24 := jsw_ne c33_24 (by decide); have qc33_25 := jsw_ne c33_25 (by decide); have qc33_26 := jsw_ne c33_26 (by decide); have qc33_27 := jsw_ne c33_27 (by decide); have qc33_28 := jsw_ne c33_28 (by decide); have qc33_29 := jsw_ne c33_29 (by decide); have qc33_30 := jsw_ne c33_30 (by decide); have qc33_31 := jsw_ne c33_31 (by decide); have qc33_32 := jsw_ne c33_32 (by decide); have qc33_33 := jsw_ne c33_33 (by decide); have qc33_34 := jsw_ne c33_34 (by decide); have qc33_35 := jsw_ne c33_35 (by decide); have qc33_36 := jsw_ne c33_36 (by decide); have qc33_37 := jsw_ne c33_37 (by decide); have qc33_38 := jsw_ne c33_38 (by decide); have qc33_39 := jsw_ne c33_39 (by decide); have qc33_40 := jsw_ne c33_40 (by decide); omega) (by decide) ?_
  exact ih2 m (RelA_k hR)
theorem law_run {x : jX} {d : Nat} (hl : (jxS x).2.1 ≤ 3072) : ∀ (n : Nat) {i k : Nat} {m : jm}, RelA m m k → (jxS x).2.1 < i + 6 * n + 6 → i ≤ 3100 → k + n < 1000 → K x (d + 121) eL_law 18 [some (.ref (jxS x).1), some (.ref (jxb x + 0)), some (.ref (jxb x + 140)), some (.int (nI i))] [] m (fun r _ => r = some (.int 1))
  | 0, i, k, m, h, h1, h2, h3 => law_exit hl h2 (by omega)
  | n + 1, i, k, m, h, h1, h2, h3 => by
    by_cases c : i + 6 ≤ (jxS x).2.1
    · exact law_turn hl c h (by omega) (fun m' h' => law_run hl n h' (by omega) (by omega) (by omega))
    · exact law_exit hl h2 (by omega)
