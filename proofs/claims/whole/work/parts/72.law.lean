/-! the law: one call of both; the loop -/
section LAWC
variable {b L : Nat} {xs : Nat → Int32} {g : zG} {w : zWd} {K : Option Value → zWd → Prop} {S : zSt} {i : Int}
set_option maxRecDepth 100000 in
set_option maxHeartbeats 4000000 in
theorem law_0 (hbg : b < g.base) (hL0 : L ≤ 384) (hi : 0 ≤ i ∧ i + 6 ≤ (L : Int)) (hC : zCl g w S) (hM : zMo g w S) (hO : zOKS S) (k : ∀ S' w', zCl g w' S' → zMo g w' S' → zOKS S' → zRunsX (zScp b L xs) g 9 mL_law 0 0 1739 [some (.ref b), some (zR g 0), some (zR g 72), some (zI i)] [] w' K) : zRunsX (zScp b L xs) g 9 mL_law 0 0 236 [some (.ref b), some (zR g 0), some (zR g 72), some (zI i)] [] w K := by
  refine x_aload_n (pc := 236) dL_law_236 rfl rfl ?_
  refine x_aload_n (pc := 237) dL_law_237 rfl rfl ?_
  refine x_iload_n (pc := 238) dL_law_238 rfl ?_
  refine x_iconst (pc := 239) dL_law_239 ?_
  refine x_iadd (pc := 240) dL_law_240 ?_
  refine x_sld (pc := 241) hbg hL0 (by omega) dL_law_241 ?_
  refine x_invokevirtual (pc := 242) (d' := 9 - 1) (mc' := 0) (ms' := 0) (As := [_]) (TX7, 15) cl_L_13 dL_law_242 rfl rfl (by first | exact h72 | exact hC.1) rfl (by omega) rfl 0 0 (Nat.le_refl 0) (Nat.le_refl 0) ?_
  refine c_X7_store (by omega) hC hO zXs_R (fun w1 hs1 hC1 => ?_)
  have hM1 := hM.keep hs1 (by omega)
  obtain ⟨⟨p0, p1, p2, p3, p4, it, sm, h72⟩, -⟩ := id hM1
  refine x_aload_n (pc := 245) dL_law_245 rfl rfl ?_
  refine x_aload_n (pc := 246) dL_law_246 rfl rfl ?_
  refine x_iload_n (pc := 247) dL_law_247 rfl ?_
  refine x_iconst (pc := 248) dL_law_248 ?_
  refine x_iadd (pc := 249) dL_law_249 ?_
  refine x_sld (pc := 250) hbg hL0 (by omega) dL_law_250 ?_
  refine x_invokevirtual (pc := 251) (d' := 9 - 1) (mc' := 0) (ms' := 0) (As := [_]) (TX8, 26) cl_L_17 dL_law_251 rfl rfl (by first | exact h72 | exact hC.1) rfl (by omega) rfl 0 0 (Nat.le_refl 0) (Nat.le_refl 0) ?_
  refine c_X8_store (by omega) hM1 hO zXs_R (fun w2 hs2 hM2 => ?_)
  refine x_same (pc := 254) 1739 dL_law_254 rfl ?_
  exact k _ w2 (hC1.keep hs2 (by omega)) hM2 (k_store hO)
set_option maxRecDepth 100000 in
set_option maxHeartbeats 4000000 in
theorem law_1 (hbg : b < g.base) (hL0 : L ≤ 384) (hi : 0 ≤ i ∧ i + 6 ≤ (L : Int)) (hC : zCl g w S) (hM : zMo g w S) (hO : zOKS S) (k : ∀ S' w', zCl g w' S' → zMo g w' S' → zOKS S' → zRunsX (zScp b L xs) g 9 mL_law 0 0 1739 [some (.ref b), some (zR g 0), some (zR g 72), some (zI i)] [] w' K) : zRunsX (zScp b L xs) g 9 mL_law 0 0 259 [some (.ref b), some (zR g 0), some (zR g 72), some (zI i)] [] w K := by
  refine x_aload_n (pc := 259) dL_law_259 rfl rfl ?_
  refine x_aload_n (pc := 260) dL_law_260 rfl rfl ?_
  refine x_iload_n (pc := 261) dL_law_261 rfl ?_
  refine x_iconst (pc := 262) dL_law_262 ?_
  refine x_iadd (pc := 263) dL_law_263 ?_
  refine x_sld (pc := 264) hbg hL0 (by omega) dL_law_264 ?_
  refine x_aload_n (pc := 265) dL_law_265 rfl rfl ?_
  refine x_iload_n (pc := 266) dL_law_266 rfl ?_
  refine x_iconst (pc := 267) dL_law_267 ?_
  refine x_iadd (pc := 268) dL_law_268 ?_
  refine x_sld (pc := 269) hbg hL0 (by omega) dL_law_269 ?_
  refine x_invokevirtual (pc := 270) (d' := 9 - 1) (mc' := 0) (ms' := 0) (As := [_, _]) (TX7, 15) cl_L_18 dL_law_270 rfl rfl (by first | exact h72 | exact hC.1) rfl (by omega) rfl 0 0 (Nat.le_refl 0) (Nat.le_refl 0) ?_
  refine c_X7_cellar (by omega) hC hO zXs_R zXs_R (fun w1 hs1 hC1 => ?_)
  have hM1 := hM.keep hs1 (by omega)
  obtain ⟨⟨p0, p1, p2, p3, p4, it, sm, h72⟩, -⟩ := id hM1
  refine x_aload_n (pc := 273) dL_law_273 rfl rfl ?_
  refine x_aload_n (pc := 274) dL_law_274 rfl rfl ?_
  refine x_iload_n (pc := 275) dL_law_275 rfl ?_
  refine x_iconst (pc := 276) dL_law_276 ?_
  refine x_iadd (pc := 277) dL_law_277 ?_
  refine x_sld (pc := 278) hbg hL0 (by omega) dL_law_278 ?_
  refine x_aload_n (pc := 279) dL_law_279 rfl rfl ?_
  refine x_iload_n (pc := 280) dL_law_280 rfl ?_
  refine x_iconst (pc := 281) dL_law_281 ?_
  refine x_iadd (pc := 282) dL_law_282 ?_
  refine x_sld (pc := 283) hbg hL0 (by omega) dL_law_283 ?_
  refine x_invokevirtual (pc := 284) (d' := 9 - 1) (mc' := 0) (ms' := 0) (As := [_, _]) (TX8, 26) cl_L_22 dL_law_284 rfl rfl (by first | exact h72 | exact hC.1) rfl (by omega) rfl 0 0 (Nat.le_refl 0) (Nat.le_refl 0) ?_
  refine c_X8_cellar (by omega) hM1 hO zXs_R zXs_R (fun w2 hs2 hM2 => ?_)
  refine x_same (pc := 287) 1739 dL_law_287 rfl ?_
  exact k _ w2 (hC1.keep hs2 (by omega)) hM2 (k_cellar hO)
set_option maxRecDepth 100000 in
set_option maxHeartbeats 4000000 in
theorem law_2 (hbg : b < g.base) (hL0 : L ≤ 384) (hi : 0 ≤ i ∧ i + 6 ≤ (L : Int)) (hC : zCl g w S) (hM : zMo g w S) (hO : zOKS S) (k : ∀ S' w', zCl g w' S' → zMo g w' S' → zOKS S' → zRunsX (zScp b L xs) g 9 mL_law 0 0 1739 [some (.ref b), some (zR g 0), some (zR g 72), some (zI i)] [] w' K) : zRunsX (zScp b L xs) g 9 mL_law 0 0 292 [some (.ref b), some (zR g 0), some (zR g 72), some (zI i)] [] w K := by
  refine x_aload_n (pc := 292) dL_law_292 rfl rfl ?_
  refine x_aload_n (pc := 293) dL_law_293 rfl rfl ?_
  refine x_iload_n (pc := 294) dL_law_294 rfl ?_
  refine x_iconst (pc := 295) dL_law_295 ?_
  refine x_iadd (pc := 296) dL_law_296 ?_
  refine x_sld (pc := 297) hbg hL0 (by omega) dL_law_297 ?_
  refine x_aload_n (pc := 298) dL_law_298 rfl rfl ?_
  refine x_iload_n (pc := 299) dL_law_299 rfl ?_
  refine x_iconst (pc := 300) dL_law_300 ?_
  refine x_iadd (pc := 301) dL_law_301 ?_
  refine x_sld (pc := 302) hbg hL0 (by omega) dL_law_302 ?_
  refine x_aload_n (pc := 303) dL_law_303 rfl rfl ?_
  refine x_iload_n (pc := 304) dL_law_304 rfl ?_
  refine x_iconst (pc := 305) dL_law_305 ?_
  refine x_iadd (pc := 306) dL_law_306 ?_
  refine x_sld (pc := 307) hbg hL0 (by omega) dL_law_307 ?_
  refine x_invokevirtual (pc := 308) (d' := 9 - 1) (mc' := 0) (ms' := 0) (As := [_, _, _]) (TX7, 15) cl_L_23 dL_law_308 rfl rfl (by first | exact h72 | exact hC.1) rfl (by omega) rfl 0 0 (Nat.le_refl 0) (Nat.le_refl 0) ?_
  refine c_X7_stones (by omega) hC hO zXs_R zXs_R zXs_R (fun w1 hs1 hC1 => ?_)
  have hM1 := hM.keep hs1 (by omega)
  obtain ⟨⟨p0, p1, p2, p3, p4, it, sm, h72⟩, -⟩ := id hM1
  refine x_aload_n (pc := 311) dL_law_311 rfl rfl ?_
  refine x_aload_n (pc := 312) dL_law_312 rfl rfl ?_
  refine x_iload_n (pc := 313) dL_law_313 rfl ?_
  refine x_iconst (pc := 314) dL_law_314 ?_
  refine x_iadd (pc := 315) dL_law_315 ?_
  refine x_sld (pc := 316) hbg hL0 (by omega) dL_law_316 ?_
  refine x_aload_n (pc := 317) dL_law_317 rfl rfl ?_
  refine x_iload_n (pc := 318) dL_law_318 rfl ?_
  refine x_iconst (pc := 319) dL_law_319 ?_
  refine x_iadd (pc := 320) dL_law_320 ?_
  refine x_sld (pc := 321) hbg hL0 (by omega) dL_law_321 ?_
  refine x_aload_n (pc := 322) dL_law_322 rfl rfl ?_
  refine x_iload_n (pc := 323) dL_law_323 rfl ?_
  refine x_iconst (pc := 324) dL_law_324 ?_
  refine x_iadd (pc := 325) dL_law_325 ?_
  refine x_sld (pc := 326) hbg hL0 (by omega) dL_law_326 ?_
  refine x_invokevirtual (pc := 327) (d' := 9 - 1) (mc' := 0) (ms' := 0) (As := [_, _, _]) (TX8, 26) cl_L_27 dL_law_327 rfl rfl (by first | exact h72 | exact hC.1) rfl (by omega) rfl 0 0 (Nat.le_refl 0) (Nat.le_refl 0) ?_
  refine c_X8_stones (by omega) hM1 hO zXs_R zXs_R zXs_R (fun w2 hs2 hM2 => ?_)
  refine x_same (pc := 330) 1739 dL_law_330 rfl ?_
  exact k _ w2 (hC1.keep hs2 (by omega)) hM2 (k_stones hO)
set_option maxRecDepth 100000 in
set_option maxHeartbeats 4000000 in
theorem law_3 (hbg : b < g.base) (hL0 : L ≤ 384) (hi : 0 ≤ i ∧ i + 6 ≤ (L : Int)) (hC : zCl g w S) (hM : zMo g w S) (hO : zOKS S) (k : ∀ S' w', zCl g w' S' → zMo g w' S' → zOKS S' → zRunsX (zScp b L xs) g 9 mL_law 0 0 1739 [some (.ref b), some (zR g 0), some (zR g 72), some (zI i)] [] w' K) : zRunsX (zScp b L xs) g 9 mL_law 0 0 335 [some (.ref b), some (zR g 0), some (zR g 72), some (zI i)] [] w K := by
  refine x_aload_n (pc := 335) dL_law_335 rfl rfl ?_
  refine x_aload_n (pc := 336) dL_law_336 rfl rfl ?_
  refine x_iload_n (pc := 337) dL_law_337 rfl ?_
  refine x_iconst (pc := 338) dL_law_338 ?_
  refine x_iadd (pc := 339) dL_law_339 ?_
  refine x_sld (pc := 340) hbg hL0 (by omega) dL_law_340 ?_
  refine x_aload_n (pc := 341) dL_law_341 rfl rfl ?_
  refine x_iload_n (pc := 342) dL_law_342 rfl ?_
  refine x_iconst (pc := 343) dL_law_343 ?_
  refine x_iadd (pc := 344) dL_law_344 ?_
  refine x_sld (pc := 345) hbg hL0 (by omega) dL_law_345 ?_
  refine x_invokevirtual (pc := 346) (d' := 9 - 1) (mc' := 0) (ms' := 0) (As := [_, _]) (TX7, 15) cl_L_28 dL_law_346 rfl rfl (by first | exact h72 | exact hC.1) rfl (by omega) rfl 0 0 (Nat.le_refl 0) (Nat.le_refl 0) ?_
  refine c_X7_straw (by omega) hC hO zXs_R zXs_R (fun w1 hs1 hC1 => ?_)
  have hM1 := hM.keep hs1 (by omega)
  obtain ⟨⟨p0, p1, p2, p3, p4, it, sm, h72⟩, -⟩ := id hM1
  refine x_aload_n (pc := 349) dL_law_349 rfl rfl ?_
  refine x_aload_n (pc := 350) dL_law_350 rfl rfl ?_
  refine x_iload_n (pc := 351) dL_law_351 rfl ?_
  refine x_iconst (pc := 352) dL_law_352 ?_
  refine x_iadd (pc := 353) dL_law_353 ?_
  refine x_sld (pc := 354) hbg hL0 (by omega) dL_law_354 ?_
  refine x_aload_n (pc := 355) dL_law_355 rfl rfl ?_
  refine x_iload_n (pc := 356) dL_law_356 rfl ?_
  refine x_iconst (pc := 357) dL_law_357 ?_
  refine x_iadd (pc := 358) dL_law_358 ?_
  refine x_sld (pc := 359) hbg hL0 (by omega) dL_law_359 ?_
  refine x_invokevirtual (pc := 360) (d' := 9 - 1) (mc' := 0) (ms' := 0) (As := [_, _]) (TX8, 26) cl_L_31 dL_law_360 rfl rfl (by first | exact h72 | exact hC.1) rfl (by omega) rfl 0 0 (Nat.le_refl 0) (Nat.le_refl 0) ?_
  refine c_X8_straw (by omega) hM1 hO zXs_R zXs_R (fun w2 hs2 hM2 => ?_)
  refine x_same (pc := 363) 1739 dL_law_363 rfl ?_
  exact k _ w2 (hC1.keep hs2 (by omega)) hM2 (k_straw hO)
set_option maxRecDepth 100000 in
set_option maxHeartbeats 4000000 in
theorem law_4 (hbg : b < g.base) (hL0 : L ≤ 384) (hi : 0 ≤ i ∧ i + 6 ≤ (L : Int)) (hC : zCl g w S) (hM : zMo g w S) (hO : zOKS S) (k : ∀ S' w', zCl g w' S' → zMo g w' S' → zOKS S' → zRunsX (zScp b L xs) g 9 mL_law 0 0 1739 [some (.ref b), some (zR g 0), some (zR g 72), some (zI i)] [] w' K) : zRunsX (zScp b L xs) g 9 mL_law 0 0 368 [some (.ref b), some (zR g 0), some (zR g 72), some (zI i)] [] w K := by
  refine x_aload_n (pc := 368) dL_law_368 rfl rfl ?_
  refine x_aload_n (pc := 369) dL_law_369 rfl rfl ?_
  refine x_iload_n (pc := 370) dL_law_370 rfl ?_
  refine x_iconst (pc := 371) dL_law_371 ?_
  refine x_iadd (pc := 372) dL_law_372 ?_
  refine x_sld (pc := 373) hbg hL0 (by omega) dL_law_373 ?_
  refine x_aload_n (pc := 374) dL_law_374 rfl rfl ?_
  refine x_iload_n (pc := 375) dL_law_375 rfl ?_
  refine x_iconst (pc := 376) dL_law_376 ?_
  refine x_iadd (pc := 377) dL_law_377 ?_
  refine x_sld (pc := 378) hbg hL0 (by omega) dL_law_378 ?_
  refine x_invokevirtual (pc := 379) (d' := 9 - 1) (mc' := 0) (ms' := 0) (As := [_, _]) (TX7, 15) cl_L_32 dL_law_379 rfl rfl (by first | exact h72 | exact hC.1) rfl (by omega) rfl 0 0 (Nat.le_refl 0) (Nat.le_refl 0) ?_
  refine c_X7_slinger (by omega) hC hO zXs_R zXs_R (fun w1 hs1 hC1 => ?_)
  have hM1 := hM.keep hs1 (by omega)
  obtain ⟨⟨p0, p1, p2, p3, p4, it, sm, h72⟩, -⟩ := id hM1
  refine x_aload_n (pc := 382) dL_law_382 rfl rfl ?_
  refine x_aload_n (pc := 383) dL_law_383 rfl rfl ?_
  refine x_iload_n (pc := 384) dL_law_384 rfl ?_
  refine x_iconst (pc := 385) dL_law_385 ?_
  refine x_iadd (pc := 386) dL_law_386 ?_
  refine x_sld (pc := 387) hbg hL0 (by omega) dL_law_387 ?_
  refine x_aload_n (pc := 388) dL_law_388 rfl rfl ?_
  refine x_iload_n (pc := 389) dL_law_389 rfl ?_
  refine x_iconst (pc := 390) dL_law_390 ?_
  refine x_iadd (pc := 391) dL_law_391 ?_
  refine x_sld (pc := 392) hbg hL0 (by omega) dL_law_392 ?_
  refine x_invokevirtual (pc := 393) (d' := 9 - 1) (mc' := 0) (ms' := 0) (As := [_, _]) (TX8, 26) cl_L_35 dL_law_393 rfl rfl (by first | exact h72 | exact hC.1) rfl (by omega) rfl 0 0 (Nat.le_refl 0) (Nat.le_refl 0) ?_
  refine c_X8_slinger (by omega) hM1 hO zXs_R zXs_R (fun w2 hs2 hM2 => ?_)
  refine x_same (pc := 396) 1739 dL_law_396 rfl ?_
  exact k _ w2 (hC1.keep hs2 (by omega)) hM2 (k_slinger hO)
set_option maxRecDepth 100000 in
set_option maxHeartbeats 4000000 in
theorem law_5 (hbg : b < g.base) (hL0 : L ≤ 384) (hi : 0 ≤ i ∧ i + 6 ≤ (L : Int)) (hC : zCl g w S) (hM : zMo g w S) (hO : zOKS S) (k : ∀ S' w', zCl g w' S' → zMo g w' S' → zOKS S' → zRunsX (zScp b L xs) g 9 mL_law 0 0 1739 [some (.ref b), some (zR g 0), some (zR g 72), some (zI i)] [] w' K) : zRunsX (zScp b L xs) g 9 mL_law 0 0 401 [some (.ref b), some (zR g 0), some (zR g 72), some (zI i)] [] w K := by
  refine x_aload_n (pc := 401) dL_law_401 rfl rfl ?_
  refine x_aload_n (pc := 402) dL_law_402 rfl rfl ?_
  refine x_iload_n (pc := 403) dL_law_403 rfl ?_
  refine x_iconst (pc := 404) dL_law_404 ?_
  refine x_iadd (pc := 405) dL_law_405 ?_
  refine x_sld (pc := 406) hbg hL0 (by omega) dL_law_406 ?_
  refine x_aload_n (pc := 407) dL_law_407 rfl rfl ?_
  refine x_iload_n (pc := 408) dL_law_408 rfl ?_
  refine x_iconst (pc := 409) dL_law_409 ?_
  refine x_iadd (pc := 410) dL_law_410 ?_
  refine x_sld (pc := 411) hbg hL0 (by omega) dL_law_411 ?_
  refine x_invokevirtual (pc := 412) (d' := 9 - 1) (mc' := 0) (ms' := 0) (As := [_, _]) (TX7, 15) cl_L_36 dL_law_412 rfl rfl (by first | exact h72 | exact hC.1) rfl (by omega) rfl 0 0 (Nat.le_refl 0) (Nat.le_refl 0) ?_
  refine c_X7_cloud (by omega) hC hO zXs_R zXs_R (fun w1 hs1 hC1 => ?_)
  have hM1 := hM.keep hs1 (by omega)
  obtain ⟨⟨p0, p1, p2, p3, p4, it, sm, h72⟩, -⟩ := id hM1
  refine x_aload_n (pc := 415) dL_law_415 rfl rfl ?_
  refine x_aload_n (pc := 416) dL_law_416 rfl rfl ?_
  refine x_iload_n (pc := 417) dL_law_417 rfl ?_
  refine x_iconst (pc := 418) dL_law_418 ?_
  refine x_iadd (pc := 419) dL_law_419 ?_
  refine x_sld (pc := 420) hbg hL0 (by omega) dL_law_420 ?_
  refine x_aload_n (pc := 421) dL_law_421 rfl rfl ?_
  refine x_iload_n (pc := 422) dL_law_422 rfl ?_
  refine x_iconst (pc := 423) dL_law_423 ?_
  refine x_iadd (pc := 424) dL_law_424 ?_
  refine x_sld (pc := 425) hbg hL0 (by omega) dL_law_425 ?_
  refine x_invokevirtual (pc := 426) (d' := 9 - 1) (mc' := 0) (ms' := 0) (As := [_, _]) (TX8, 26) cl_L_39 dL_law_426 rfl rfl (by first | exact h72 | exact hC.1) rfl (by omega) rfl 0 0 (Nat.le_refl 0) (Nat.le_refl 0) ?_
  refine c_X8_cloud (by omega) hM1 hO zXs_R zXs_R (fun w2 hs2 hM2 => ?_)
  refine x_same (pc := 429) 1739 dL_law_429 rfl ?_
  exact k _ w2 (hC1.keep hs2 (by omega)) hM2 (k_cloud hO)
set_option maxRecDepth 100000 in
set_option maxHeartbeats 4000000 in
theorem law_6 (hbg : b < g.base) (hL0 : L ≤ 384) (hi : 0 ≤ i ∧ i + 6 ≤ (L : Int)) (hC : zCl g w S) (hM : zMo g w S) (hO : zOKS S) (k : ∀ S' w', zCl g w' S' → zMo g w' S' → zOKS S' → zRunsX (zScp b L xs) g 9 mL_law 0 0 1739 [some (.ref b), some (zR g 0), some (zR g 72), some (zI i)] [] w' K) : zRunsX (zScp b L xs) g 9 mL_law 0 0 434 [some (.ref b), some (zR g 0), some (zR g 72), some (zI i)] [] w K := by
  refine x_aload_n (pc := 434) dL_law_434 rfl rfl ?_
  refine x_aload_n (pc := 435) dL_law_435 rfl rfl ?_
  refine x_iload_n (pc := 436) dL_law_436 rfl ?_
  refine x_iconst (pc := 437) dL_law_437 ?_
  refine x_iadd (pc := 438) dL_law_438 ?_
  refine x_sld (pc := 439) hbg hL0 (by omega) dL_law_439 ?_
  refine x_invokevirtual (pc := 440) (d' := 9 - 1) (mc' := 0) (ms' := 0) (As := [_]) (TX7, 15) cl_L_40 dL_law_440 rfl rfl (by first | exact h72 | exact hC.1) rfl (by omega) rfl 0 0 (Nat.le_refl 0) (Nat.le_refl 0) ?_
  refine c_X7_type (by omega) hC hO zXs_R (fun w1 hs1 hC1 => ?_)
  have hM1 := hM.keep hs1 (by omega)
  obtain ⟨⟨p0, p1, p2, p3, p4, it, sm, h72⟩, -⟩ := id hM1
  refine x_aload_n (pc := 443) dL_law_443 rfl rfl ?_
  refine x_aload_n (pc := 444) dL_law_444 rfl rfl ?_
  refine x_iload_n (pc := 445) dL_law_445 rfl ?_
  refine x_iconst (pc := 446) dL_law_446 ?_
  refine x_iadd (pc := 447) dL_law_447 ?_
  refine x_sld (pc := 448) hbg hL0 (by omega) dL_law_448 ?_
  refine x_invokevirtual (pc := 449) (d' := 9 - 1) (mc' := 0) (ms' := 0) (As := [_]) (TX8, 26) cl_L_43 dL_law_449 rfl rfl (by first | exact h72 | exact hC.1) rfl (by omega) rfl 0 0 (Nat.le_refl 0) (Nat.le_refl 0) ?_
  refine c_X8_type (by omega) hM1 hO zXs_R (fun w2 hs2 hM2 => ?_)
  refine x_same (pc := 452) 1739 dL_law_452 rfl ?_
  exact k _ w2 (hC1.keep hs2 (by omega)) hM2 (k_type hO)
set_option maxRecDepth 100000 in
set_option maxHeartbeats 4000000 in
theorem law_7 (hbg : b < g.base) (hL0 : L ≤ 384) (hi : 0 ≤ i ∧ i + 6 ≤ (L : Int)) (hC : zCl g w S) (hM : zMo g w S) (hO : zOKS S) (k : ∀ S' w', zCl g w' S' → zMo g w' S' → zOKS S' → zRunsX (zScp b L xs) g 9 mL_law 0 0 1739 [some (.ref b), some (zR g 0), some (zR g 72), some (zI i)] [] w' K) : zRunsX (zScp b L xs) g 9 mL_law 0 0 457 [some (.ref b), some (zR g 0), some (zR g 72), some (zI i)] [] w K := by
  refine x_aload_n (pc := 457) dL_law_457 rfl rfl ?_
  refine x_invokevirtual (pc := 458) (d' := 9 - 1) (mc' := 0) (ms' := 0) (As := []) (TX7, 15) cl_L_44 dL_law_458 rfl rfl (by first | exact h72 | exact hC.1) rfl (by omega) rfl 0 0 (Nat.le_refl 0) (Nat.le_refl 0) ?_
  refine c_X7_clear (by omega) hC hO (fun w1 hs1 hC1 => ?_)
  have hM1 := hM.keep hs1 (by omega)
  obtain ⟨⟨p0, p1, p2, p3, p4, it, sm, h72⟩, -⟩ := id hM1
  refine x_aload_n (pc := 461) dL_law_461 rfl rfl ?_
  refine x_invokevirtual (pc := 462) (d' := 9 - 1) (mc' := 0) (ms' := 0) (As := []) (TX8, 26) cl_L_48 dL_law_462 rfl rfl (by first | exact h72 | exact hC.1) rfl (by omega) rfl 0 0 (Nat.le_refl 0) (Nat.le_refl 0) ?_
  refine c_X8_clear (by omega) hM1 hO (fun w2 hs2 hM2 => ?_)
  refine x_same (pc := 465) 1739 dL_law_465 rfl ?_
  exact k _ w2 (hC1.keep hs2 (by omega)) hM2 (k_clear hO)
set_option maxRecDepth 100000 in
set_option maxHeartbeats 4000000 in
theorem law_8 (hbg : b < g.base) (hL0 : L ≤ 384) (hi : 0 ≤ i ∧ i + 6 ≤ (L : Int)) (hC : zCl g w S) (hM : zMo g w S) (hO : zOKS S) (k : ∀ S' w', zCl g w' S' → zMo g w' S' → zOKS S' → zRunsX (zScp b L xs) g 9 mL_law 0 0 1739 [some (.ref b), some (zR g 0), some (zR g 72), some (zI i)] [] w' K) : zRunsX (zScp b L xs) g 9 mL_law 0 0 470 [some (.ref b), some (zR g 0), some (zR g 72), some (zI i)] [] w K := by
  refine x_aload_n (pc := 470) dL_law_470 rfl rfl ?_
  refine x_invokevirtual (pc := 471) (d' := 9 - 1) (mc' := 0) (ms' := 0) (As := []) (TX7, 15) cl_L_49 dL_law_471 rfl rfl (by first | exact h72 | exact hC.1) rfl (by omega) rfl 0 0 (Nat.le_refl 0) (Nat.le_refl 0) ?_
  refine c_X7_read (by omega) hC hO (fun w1 hs1 hC1 => ?_)
  have hM1 := hM.keep hs1 (by omega)
  obtain ⟨⟨p0, p1, p2, p3, p4, it, sm, h72⟩, -⟩ := id hM1
  refine x_aload_n (pc := 474) dL_law_474 rfl rfl ?_
  refine x_invokevirtual (pc := 475) (d' := 9 - 1) (mc' := 0) (ms' := 0) (As := []) (TX8, 26) cl_L_52 dL_law_475 rfl rfl (by first | exact h72 | exact hC.1) rfl (by omega) rfl 0 0 (Nat.le_refl 0) (Nat.le_refl 0) ?_
  refine c_X8_read (by omega) hM1 hO (fun w2 hs2 hM2 => ?_)
  refine x_same (pc := 478) 1739 dL_law_478 rfl ?_
  exact k _ w2 (hC1.keep hs2 (by omega)) hM2 (k_read hO)
set_option maxRecDepth 100000 in
set_option maxHeartbeats 4000000 in
theorem law_9 (hbg : b < g.base) (hL0 : L ≤ 384) (hi : 0 ≤ i ∧ i + 6 ≤ (L : Int)) (hC : zCl g w S) (hM : zMo g w S) (hO : zOKS S) (k : ∀ S' w', zCl g w' S' → zMo g w' S' → zOKS S' → zRunsX (zScp b L xs) g 9 mL_law 0 0 1739 [some (.ref b), some (zR g 0), some (zR g 72), some (zI i)] [] w' K) : zRunsX (zScp b L xs) g 9 mL_law 0 0 483 [some (.ref b), some (zR g 0), some (zR g 72), some (zI i)] [] w K := by
  refine x_aload_n (pc := 483) dL_law_483 rfl rfl ?_
  refine x_aload_n (pc := 484) dL_law_484 rfl rfl ?_
  refine x_iload_n (pc := 485) dL_law_485 rfl ?_
  refine x_iconst (pc := 486) dL_law_486 ?_
  refine x_iadd (pc := 487) dL_law_487 ?_
  refine x_sld (pc := 488) hbg hL0 (by omega) dL_law_488 ?_
  refine x_invokevirtual (pc := 489) (d' := 9 - 1) (mc' := 0) (ms' := 0) (As := [_]) (TX7, 15) cl_L_53 dL_law_489 rfl rfl (by first | exact h72 | exact hC.1) rfl (by omega) rfl 0 0 (Nat.le_refl 0) (Nat.le_refl 0) ?_
  refine c_X7_week (by omega) hC hO zXs_R (fun w1 hs1 hC1 => ?_)
  have hM1 := hM.keep hs1 (by omega)
  obtain ⟨⟨p0, p1, p2, p3, p4, it, sm, h72⟩, -⟩ := id hM1
  refine x_aload_n (pc := 492) dL_law_492 rfl rfl ?_
  refine x_aload_n (pc := 493) dL_law_493 rfl rfl ?_
  refine x_iload_n (pc := 494) dL_law_494 rfl ?_
  refine x_iconst (pc := 495) dL_law_495 ?_
  refine x_iadd (pc := 496) dL_law_496 ?_
  refine x_sld (pc := 497) hbg hL0 (by omega) dL_law_497 ?_
  refine x_invokevirtual (pc := 498) (d' := 9 - 1) (mc' := 0) (ms' := 0) (As := [_]) (TX8, 26) cl_L_56 dL_law_498 rfl rfl (by first | exact h72 | exact hC.1) rfl (by omega) rfl 0 0 (Nat.le_refl 0) (Nat.le_refl 0) ?_
  refine c_X8_week (by omega) hM1 hO zXs_R (fun w2 hs2 hM2 => ?_)
  refine x_same (pc := 501) 1739 dL_law_501 rfl ?_
  exact k _ w2 (hC1.keep hs2 (by omega)) hM2 (k_week hO)
set_option maxRecDepth 100000 in
set_option maxHeartbeats 4000000 in
theorem law_10 (hbg : b < g.base) (hL0 : L ≤ 384) (hi : 0 ≤ i ∧ i + 6 ≤ (L : Int)) (hC : zCl g w S) (hM : zMo g w S) (hO : zOKS S) (k : ∀ S' w', zCl g w' S' → zMo g w' S' → zOKS S' → zRunsX (zScp b L xs) g 9 mL_law 0 0 1739 [some (.ref b), some (zR g 0), some (zR g 72), some (zI i)] [] w' K) : zRunsX (zScp b L xs) g 9 mL_law 0 0 506 [some (.ref b), some (zR g 0), some (zR g 72), some (zI i)] [] w K := by
  refine x_aload_n (pc := 506) dL_law_506 rfl rfl ?_
  refine x_aload_n (pc := 507) dL_law_507 rfl rfl ?_
  refine x_iload_n (pc := 508) dL_law_508 rfl ?_
  refine x_iconst (pc := 509) dL_law_509 ?_
  refine x_iadd (pc := 510) dL_law_510 ?_
  refine x_sld (pc := 511) hbg hL0 (by omega) dL_law_511 ?_
  refine x_invokevirtual (pc := 512) (d' := 9 - 1) (mc' := 0) (ms' := 0) (As := [_]) (TX7, 15) cl_L_57 dL_law_512 rfl rfl (by first | exact h72 | exact hC.1) rfl (by omega) rfl 0 0 (Nat.le_refl 0) (Nat.le_refl 0) ?_
  refine c_X7_door (by omega) hC hO zXs_R (fun w1 hs1 hC1 => ?_)
  have hM1 := hM.keep hs1 (by omega)
  obtain ⟨⟨p0, p1, p2, p3, p4, it, sm, h72⟩, -⟩ := id hM1
  refine x_aload_n (pc := 515) dL_law_515 rfl rfl ?_
  refine x_aload_n (pc := 516) dL_law_516 rfl rfl ?_
  refine x_iload_n (pc := 517) dL_law_517 rfl ?_
  refine x_iconst (pc := 518) dL_law_518 ?_
  refine x_iadd (pc := 519) dL_law_519 ?_
  refine x_sld (pc := 520) hbg hL0 (by omega) dL_law_520 ?_
  refine x_invokevirtual (pc := 521) (d' := 9 - 1) (mc' := 0) (ms' := 0) (As := [_]) (TX8, 26) cl_L_60 dL_law_521 rfl rfl (by first | exact h72 | exact hC.1) rfl (by omega) rfl 0 0 (Nat.le_refl 0) (Nat.le_refl 0) ?_
  refine c_X8_door (by omega) hM1 hO zXs_R (fun w2 hs2 hM2 => ?_)
  refine x_same (pc := 524) 1739 dL_law_524 rfl ?_
  exact k _ w2 (hC1.keep hs2 (by omega)) hM2 (k_door hO)
set_option maxRecDepth 100000 in
set_option maxHeartbeats 4000000 in
theorem law_11 (hbg : b < g.base) (hL0 : L ≤ 384) (hi : 0 ≤ i ∧ i + 6 ≤ (L : Int)) (hC : zCl g w S) (hM : zMo g w S) (hO : zOKS S) (k : ∀ S' w', zCl g w' S' → zMo g w' S' → zOKS S' → zRunsX (zScp b L xs) g 9 mL_law 0 0 1739 [some (.ref b), some (zR g 0), some (zR g 72), some (zI i)] [] w' K) : zRunsX (zScp b L xs) g 9 mL_law 0 0 529 [some (.ref b), some (zR g 0), some (zR g 72), some (zI i)] [] w K := by
  refine x_aload_n (pc := 529) dL_law_529 rfl rfl ?_
  refine x_aload_n (pc := 530) dL_law_530 rfl rfl ?_
  refine x_iload_n (pc := 531) dL_law_531 rfl ?_
  refine x_iconst (pc := 532) dL_law_532 ?_
  refine x_iadd (pc := 533) dL_law_533 ?_
  refine x_sld (pc := 534) hbg hL0 (by omega) dL_law_534 ?_
  refine x_aload_n (pc := 535) dL_law_535 rfl rfl ?_
  refine x_iload_n (pc := 536) dL_law_536 rfl ?_
  refine x_iconst (pc := 537) dL_law_537 ?_
  refine x_iadd (pc := 538) dL_law_538 ?_
  refine x_sld (pc := 539) hbg hL0 (by omega) dL_law_539 ?_
  refine x_aload_n (pc := 540) dL_law_540 rfl rfl ?_
  refine x_iload_n (pc := 541) dL_law_541 rfl ?_
  refine x_iconst (pc := 542) dL_law_542 ?_
  refine x_iadd (pc := 543) dL_law_543 ?_
  refine x_sld (pc := 544) hbg hL0 (by omega) dL_law_544 ?_
  refine x_aload_n (pc := 545) dL_law_545 rfl rfl ?_
  refine x_iload_n (pc := 546) dL_law_546 rfl ?_
  refine x_iconst (pc := 547) dL_law_547 ?_
  refine x_iadd (pc := 548) dL_law_548 ?_
  refine x_sld (pc := 549) hbg hL0 (by omega) dL_law_549 ?_
  refine x_invokevirtual (pc := 550) (d' := 9 - 1) (mc' := 0) (ms' := 0) (As := [_, _, _, _]) (TX7, 15) cl_L_61 dL_law_550 rfl rfl (by first | exact h72 | exact hC.1) rfl (by omega) rfl 0 0 (Nat.le_refl 0) (Nat.le_refl 0) ?_
  refine c_X7_throwing (by omega) hC hO zXs_R zXs_R zXs_R zXs_R (fun w1 hs1 hC1 => ?_)
  have hM1 := hM.keep hs1 (by omega)
  obtain ⟨⟨p0, p1, p2, p3, p4, it, sm, h72⟩, -⟩ := id hM1
  refine x_aload_n (pc := 553) dL_law_553 rfl rfl ?_
  refine x_aload_n (pc := 554) dL_law_554 rfl rfl ?_
  refine x_iload_n (pc := 555) dL_law_555 rfl ?_
  refine x_iconst (pc := 556) dL_law_556 ?_
  refine x_iadd (pc := 557) dL_law_557 ?_
  refine x_sld (pc := 558) hbg hL0 (by omega) dL_law_558 ?_
  refine x_aload_n (pc := 559) dL_law_559 rfl rfl ?_
  refine x_iload_n (pc := 560) dL_law_560 rfl ?_
  refine x_iconst (pc := 561) dL_law_561 ?_
  refine x_iadd (pc := 562) dL_law_562 ?_
  refine x_sld (pc := 563) hbg hL0 (by omega) dL_law_563 ?_
  refine x_aload_n (pc := 564) dL_law_564 rfl rfl ?_
  refine x_iload_n (pc := 565) dL_law_565 rfl ?_
  refine x_iconst (pc := 566) dL_law_566 ?_
  refine x_iadd (pc := 567) dL_law_567 ?_
  refine x_sld (pc := 568) hbg hL0 (by omega) dL_law_568 ?_
  refine x_aload_n (pc := 569) dL_law_569 rfl rfl ?_
  refine x_iload_n (pc := 570) dL_law_570 rfl ?_
  refine x_iconst (pc := 571) dL_law_571 ?_
  refine x_iadd (pc := 572) dL_law_572 ?_
  refine x_sld (pc := 573) hbg hL0 (by omega) dL_law_573 ?_
  refine x_invokevirtual (pc := 574) (d' := 9 - 1) (mc' := 0) (ms' := 0) (As := [_, _, _, _]) (TX8, 26) cl_L_65 dL_law_574 rfl rfl (by first | exact h72 | exact hC.1) rfl (by omega) rfl 0 0 (Nat.le_refl 0) (Nat.le_refl 0) ?_
  refine c_X8_throwing (by omega) hM1 hO zXs_R zXs_R zXs_R zXs_R (fun w2 hs2 hM2 => ?_)
  refine x_same (pc := 577) 1739 dL_law_577 rfl ?_
  exact k _ w2 (hC1.keep hs2 (by omega)) hM2 (k_throwing hO)
set_option maxRecDepth 100000 in
set_option maxHeartbeats 4000000 in
theorem law_12 (hbg : b < g.base) (hL0 : L ≤ 384) (hi : 0 ≤ i ∧ i + 6 ≤ (L : Int)) (hC : zCl g w S) (hM : zMo g w S) (hO : zOKS S) (k : ∀ S' w', zCl g w' S' → zMo g w' S' → zOKS S' → zRunsX (zScp b L xs) g 9 mL_law 0 0 1739 [some (.ref b), some (zR g 0), some (zR g 72), some (zI i)] [] w' K) : zRunsX (zScp b L xs) g 9 mL_law 0 0 582 [some (.ref b), some (zR g 0), some (zR g 72), some (zI i)] [] w K := by
  refine x_aload_n (pc := 582) dL_law_582 rfl rfl ?_
  refine x_invokevirtual (pc := 583) (d' := 9 - 1) (mc' := 0) (ms' := 0) (As := []) (TX7, 15) cl_L_66 dL_law_583 rfl rfl (by first | exact h72 | exact hC.1) rfl (by omega) rfl 0 0 (Nat.le_refl 0) (Nat.le_refl 0) ?_
  refine c_X7_hour (by omega) hC hO (fun w1 hs1 hC1 => ?_)
  have hM1 := hM.keep hs1 (by omega)
  obtain ⟨⟨p0, p1, p2, p3, p4, it, sm, h72⟩, -⟩ := id hM1
  refine x_aload_n (pc := 586) dL_law_586 rfl rfl ?_
  refine x_invokevirtual (pc := 587) (d' := 9 - 1) (mc' := 0) (ms' := 0) (As := []) (TX8, 26) cl_L_69 dL_law_587 rfl rfl (by first | exact h72 | exact hC.1) rfl (by omega) rfl 0 0 (Nat.le_refl 0) (Nat.le_refl 0) ?_
  refine c_X8_hour (by omega) hM1 hO (fun w2 hs2 hM2 => ?_)
  refine x_same (pc := 590) 1739 dL_law_590 rfl ?_
  exact k _ w2 (hC1.keep hs2 (by omega)) hM2 (k_hour hO)
set_option maxRecDepth 100000 in
set_option maxHeartbeats 4000000 in
theorem law_13 (hbg : b < g.base) (hL0 : L ≤ 384) (hi : 0 ≤ i ∧ i + 6 ≤ (L : Int)) (hC : zCl g w S) (hM : zMo g w S) (hO : zOKS S) (k : ∀ S' w', zCl g w' S' → zMo g w' S' → zOKS S' → zRunsX (zScp b L xs) g 9 mL_law 0 0 1739 [some (.ref b), some (zR g 0), some (zR g 72), some (zI i)] [] w' K) : zRunsX (zScp b L xs) g 9 mL_law 0 0 595 [some (.ref b), some (zR g 0), some (zR g 72), some (zI i)] [] w K := by
  refine x_aload_n (pc := 595) dL_law_595 rfl rfl ?_
  refine x_aload_n (pc := 596) dL_law_596 rfl rfl ?_
  refine x_iload_n (pc := 597) dL_law_597 rfl ?_
  refine x_iconst (pc := 598) dL_law_598 ?_
  refine x_iadd (pc := 599) dL_law_599 ?_
  refine x_sld (pc := 600) hbg hL0 (by omega) dL_law_600 ?_
  refine x_invokevirtual (pc := 601) (d' := 9 - 1) (mc' := 0) (ms' := 0) (As := [_]) (TX7, 15) cl_L_70 dL_law_601 rfl rfl (by first | exact h72 | exact hC.1) rfl (by omega) rfl 0 0 (Nat.le_refl 0) (Nat.le_refl 0) ?_
  refine c_X7_wind (by omega) hC hO zXs_R (fun w1 hs1 hC1 => ?_)
  have hM1 := hM.keep hs1 (by omega)
  obtain ⟨⟨p0, p1, p2, p3, p4, it, sm, h72⟩, -⟩ := id hM1
  refine x_aload_n (pc := 604) dL_law_604 rfl rfl ?_
  refine x_aload_n (pc := 605) dL_law_605 rfl rfl ?_
  refine x_iload_n (pc := 606) dL_law_606 rfl ?_
  refine x_iconst (pc := 607) dL_law_607 ?_
  refine x_iadd (pc := 608) dL_law_608 ?_
  refine x_sld (pc := 609) hbg hL0 (by omega) dL_law_609 ?_
  refine x_invokevirtual (pc := 610) (d' := 9 - 1) (mc' := 0) (ms' := 0) (As := [_]) (TX8, 26) cl_L_73 dL_law_610 rfl rfl (by first | exact h72 | exact hC.1) rfl (by omega) rfl 0 0 (Nat.le_refl 0) (Nat.le_refl 0) ?_
  refine c_X8_wind (by omega) hM1 hO zXs_R (fun w2 hs2 hM2 => ?_)
  refine x_same (pc := 613) 1739 dL_law_613 rfl ?_
  exact k _ w2 (hC1.keep hs2 (by omega)) hM2 (k_wind hO)
set_option maxRecDepth 100000 in
set_option maxHeartbeats 4000000 in
theorem law_14 (hbg : b < g.base) (hL0 : L ≤ 384) (hi : 0 ≤ i ∧ i + 6 ≤ (L : Int)) (hC : zCl g w S) (hM : zMo g w S) (hO : zOKS S) (k : ∀ S' w', zCl g w' S' → zMo g w' S' → zOKS S' → zRunsX (zScp b L xs) g 9 mL_law 0 0 1739 [some (.ref b), some (zR g 0), some (zR g 72), some (zI i)] [] w' K) : zRunsX (zScp b L xs) g 9 mL_law 0 0 618 [some (.ref b), some (zR g 0), some (zR g 72), some (zI i)] [] w K := by
  refine x_aload_n (pc := 618) dL_law_618 rfl rfl ?_
  refine x_invokevirtual (pc := 619) (d' := 9 - 1) (mc' := 0) (ms' := 0) (As := []) (TX7, 15) cl_L_74 dL_law_619 rfl rfl (by first | exact h72 | exact hC.1) rfl (by omega) rfl 0 0 (Nat.le_refl 0) (Nat.le_refl 0) ?_
  refine c_X7_undo (by omega) hC hO (fun w1 hs1 hC1 => ?_)
  have hM1 := hM.keep hs1 (by omega)
  obtain ⟨⟨p0, p1, p2, p3, p4, it, sm, h72⟩, -⟩ := id hM1
  refine x_aload_n (pc := 622) dL_law_622 rfl rfl ?_
  refine x_invokevirtual (pc := 623) (d' := 9 - 1) (mc' := 0) (ms' := 0) (As := []) (TX8, 26) cl_L_77 dL_law_623 rfl rfl (by first | exact h72 | exact hC.1) rfl (by omega) rfl 0 0 (Nat.le_refl 0) (Nat.le_refl 0) ?_
  refine c_X8_undo (by omega) hM1 hO (fun w2 hs2 hM2 => ?_)
  refine x_same (pc := 626) 1739 dL_law_626 rfl ?_
  exact k _ w2 (hC1.keep hs2 (by omega)) hM2 (k_undo hO)
set_option maxRecDepth 100000 in
set_option maxHeartbeats 4000000 in
theorem law_15 (hbg : b < g.base) (hL0 : L ≤ 384) (hi : 0 ≤ i ∧ i + 6 ≤ (L : Int)) (hC : zCl g w S) (hM : zMo g w S) (hO : zOKS S) (k : ∀ S' w', zCl g w' S' → zMo g w' S' → zOKS S' → zRunsX (zScp b L xs) g 9 mL_law 0 0 1739 [some (.ref b), some (zR g 0), some (zR g 72), some (zI i)] [] w' K) : zRunsX (zScp b L xs) g 9 mL_law 0 0 631 [some (.ref b), some (zR g 0), some (zR g 72), some (zI i)] [] w K := by
  refine x_aload_n (pc := 631) dL_law_631 rfl rfl ?_
  refine x_aload_n (pc := 632) dL_law_632 rfl rfl ?_
  refine x_iload_n (pc := 633) dL_law_633 rfl ?_
  refine x_iconst (pc := 634) dL_law_634 ?_
  refine x_iadd (pc := 635) dL_law_635 ?_
  refine x_sld (pc := 636) hbg hL0 (by omega) dL_law_636 ?_
  refine x_aload_n (pc := 637) dL_law_637 rfl rfl ?_
  refine x_iload_n (pc := 638) dL_law_638 rfl ?_
  refine x_iconst (pc := 639) dL_law_639 ?_
  refine x_iadd (pc := 640) dL_law_640 ?_
  refine x_sld (pc := 641) hbg hL0 (by omega) dL_law_641 ?_
  refine x_invokevirtual (pc := 642) (d' := 9 - 1) (mc' := 0) (ms' := 0) (As := [_, _]) (TX7, 15) cl_L_78 dL_law_642 rfl rfl (by first | exact h72 | exact hC.1) rfl (by omega) rfl 0 0 (Nat.le_refl 0) (Nat.le_refl 0) ?_
  refine c_X7_of (by omega) hC hO zXs_R zXs_R (fun w1 hs1 hC1 => ?_)
  have hM1 := hM.keep hs1 (by omega)
  obtain ⟨⟨p0, p1, p2, p3, p4, it, sm, h72⟩, -⟩ := id hM1
  refine x_aload_n (pc := 645) dL_law_645 rfl rfl ?_
  refine x_aload_n (pc := 646) dL_law_646 rfl rfl ?_
  refine x_iload_n (pc := 647) dL_law_647 rfl ?_
  refine x_iconst (pc := 648) dL_law_648 ?_
  refine x_iadd (pc := 649) dL_law_649 ?_
  refine x_sld (pc := 650) hbg hL0 (by omega) dL_law_650 ?_
  refine x_aload_n (pc := 651) dL_law_651 rfl rfl ?_
  refine x_iload_n (pc := 652) dL_law_652 rfl ?_
  refine x_iconst (pc := 653) dL_law_653 ?_
  refine x_iadd (pc := 654) dL_law_654 ?_
  refine x_sld (pc := 655) hbg hL0 (by omega) dL_law_655 ?_
  refine x_invokevirtual (pc := 656) (d' := 9 - 1) (mc' := 0) (ms' := 0) (As := [_, _]) (TX8, 26) cl_L_81 dL_law_656 rfl rfl (by first | exact h72 | exact hC.1) rfl (by omega) rfl 0 0 (Nat.le_refl 0) (Nat.le_refl 0) ?_
  refine c_X8_of (by omega) hM1 hO zXs_R zXs_R (fun w2 hs2 hM2 => ?_)
  refine x_same (pc := 659) 1739 dL_law_659 rfl ?_
  exact k _ w2 (hC1.keep hs2 (by omega)) hM2 (k_of hO)
set_option maxRecDepth 100000 in
set_option maxHeartbeats 4000000 in
theorem law_16 (hbg : b < g.base) (hL0 : L ≤ 384) (hi : 0 ≤ i ∧ i + 6 ≤ (L : Int)) (hC : zCl g w S) (hM : zMo g w S) (hO : zOKS S) (k : ∀ S' w', zCl g w' S' → zMo g w' S' → zOKS S' → zRunsX (zScp b L xs) g 9 mL_law 0 0 1739 [some (.ref b), some (zR g 0), some (zR g 72), some (zI i)] [] w' K) : zRunsX (zScp b L xs) g 9 mL_law 0 0 664 [some (.ref b), some (zR g 0), some (zR g 72), some (zI i)] [] w K := by
  refine x_aload_n (pc := 664) dL_law_664 rfl rfl ?_
  refine x_aload_n (pc := 665) dL_law_665 rfl rfl ?_
  refine x_iload_n (pc := 666) dL_law_666 rfl ?_
  refine x_iconst (pc := 667) dL_law_667 ?_
  refine x_iadd (pc := 668) dL_law_668 ?_
  refine x_sld (pc := 669) hbg hL0 (by omega) dL_law_669 ?_
  refine x_aload_n (pc := 670) dL_law_670 rfl rfl ?_
  refine x_iload_n (pc := 671) dL_law_671 rfl ?_
  refine x_iconst (pc := 672) dL_law_672 ?_
  refine x_iadd (pc := 673) dL_law_673 ?_
  refine x_sld (pc := 674) hbg hL0 (by omega) dL_law_674 ?_
  refine x_invokevirtual (pc := 675) (d' := 9 - 1) (mc' := 0) (ms' := 0) (As := [_, _]) (TX7, 15) cl_L_82 dL_law_675 rfl rfl (by first | exact h72 | exact hC.1) rfl (by omega) rfl 0 0 (Nat.le_refl 0) (Nat.le_refl 0) ?_
  refine c_X7_has (by omega) hC hO zXs_R zXs_R (fun w1 hs1 hC1 => ?_)
  have hM1 := hM.keep hs1 (by omega)
  obtain ⟨⟨p0, p1, p2, p3, p4, it, sm, h72⟩, -⟩ := id hM1
  refine x_aload_n (pc := 678) dL_law_678 rfl rfl ?_
  refine x_aload_n (pc := 679) dL_law_679 rfl rfl ?_
  refine x_iload_n (pc := 680) dL_law_680 rfl ?_
  refine x_iconst (pc := 681) dL_law_681 ?_
  refine x_iadd (pc := 682) dL_law_682 ?_
  refine x_sld (pc := 683) hbg hL0 (by omega) dL_law_683 ?_
  refine x_aload_n (pc := 684) dL_law_684 rfl rfl ?_
  refine x_iload_n (pc := 685) dL_law_685 rfl ?_
  refine x_iconst (pc := 686) dL_law_686 ?_
  refine x_iadd (pc := 687) dL_law_687 ?_
  refine x_sld (pc := 688) hbg hL0 (by omega) dL_law_688 ?_
  refine x_invokevirtual (pc := 689) (d' := 9 - 1) (mc' := 0) (ms' := 0) (As := [_, _]) (TX8, 26) cl_L_85 dL_law_689 rfl rfl (by first | exact h72 | exact hC.1) rfl (by omega) rfl 0 0 (Nat.le_refl 0) (Nat.le_refl 0) ?_
  refine c_X8_has (by omega) hM1 hO zXs_R zXs_R (fun w2 hs2 hM2 => ?_)
  refine x_same (pc := 692) 1739 dL_law_692 rfl ?_
  exact k _ w2 (hC1.keep hs2 (by omega)) hM2 (k_has hO)
set_option maxRecDepth 100000 in
set_option maxHeartbeats 4000000 in
theorem law_17 (hbg : b < g.base) (hL0 : L ≤ 384) (hi : 0 ≤ i ∧ i + 6 ≤ (L : Int)) (hC : zCl g w S) (hM : zMo g w S) (hO : zOKS S) (k : ∀ S' w', zCl g w' S' → zMo g w' S' → zOKS S' → zRunsX (zScp b L xs) g 9 mL_law 0 0 1739 [some (.ref b), some (zR g 0), some (zR g 72), some (zI i)] [] w' K) : zRunsX (zScp b L xs) g 9 mL_law 0 0 697 [some (.ref b), some (zR g 0), some (zR g 72), some (zI i)] [] w K := by
  refine x_aload_n (pc := 697) dL_law_697 rfl rfl ?_
  refine x_aload_n (pc := 698) dL_law_698 rfl rfl ?_
  refine x_iload_n (pc := 699) dL_law_699 rfl ?_
  refine x_iconst (pc := 700) dL_law_700 ?_
  refine x_iadd (pc := 701) dL_law_701 ?_
  refine x_sld (pc := 702) hbg hL0 (by omega) dL_law_702 ?_
  refine x_aload_n (pc := 703) dL_law_703 rfl rfl ?_
  refine x_iload_n (pc := 704) dL_law_704 rfl ?_
  refine x_iconst (pc := 705) dL_law_705 ?_
  refine x_iadd (pc := 706) dL_law_706 ?_
  refine x_sld (pc := 707) hbg hL0 (by omega) dL_law_707 ?_
  refine x_invokevirtual (pc := 708) (d' := 9 - 1) (mc' := 0) (ms' := 0) (As := [_, _]) (TX7, 15) cl_L_86 dL_law_708 rfl rfl (by first | exact h72 | exact hC.1) rfl (by omega) rfl 0 0 (Nat.le_refl 0) (Nat.le_refl 0) ?_
  refine c_X7_about (by omega) hC hO zXs_R zXs_R (fun w1 hs1 hC1 => ?_)
  have hM1 := hM.keep hs1 (by omega)
  obtain ⟨⟨p0, p1, p2, p3, p4, it, sm, h72⟩, -⟩ := id hM1
  refine x_aload_n (pc := 711) dL_law_711 rfl rfl ?_
  refine x_aload_n (pc := 712) dL_law_712 rfl rfl ?_
  refine x_iload_n (pc := 713) dL_law_713 rfl ?_
  refine x_iconst (pc := 714) dL_law_714 ?_
  refine x_iadd (pc := 715) dL_law_715 ?_
  refine x_sld (pc := 716) hbg hL0 (by omega) dL_law_716 ?_
  refine x_aload_n (pc := 717) dL_law_717 rfl rfl ?_
  refine x_iload_n (pc := 718) dL_law_718 rfl ?_
  refine x_iconst (pc := 719) dL_law_719 ?_
  refine x_iadd (pc := 720) dL_law_720 ?_
  refine x_sld (pc := 721) hbg hL0 (by omega) dL_law_721 ?_
  refine x_invokevirtual (pc := 722) (d' := 9 - 1) (mc' := 0) (ms' := 0) (As := [_, _]) (TX8, 26) cl_L_89 dL_law_722 rfl rfl (by first | exact h72 | exact hC.1) rfl (by omega) rfl 0 0 (Nat.le_refl 0) (Nat.le_refl 0) ?_
  refine c_X8_about (by omega) hM1 hO zXs_R zXs_R (fun w2 hs2 hM2 => ?_)
  refine x_same (pc := 725) 1739 dL_law_725 rfl ?_
  exact k _ w2 (hC1.keep hs2 (by omega)) hM2 (k_about hO)
set_option maxRecDepth 100000 in
set_option maxHeartbeats 4000000 in
theorem law_18 (hbg : b < g.base) (hL0 : L ≤ 384) (hi : 0 ≤ i ∧ i + 6 ≤ (L : Int)) (hC : zCl g w S) (hM : zMo g w S) (hO : zOKS S) (k : ∀ S' w', zCl g w' S' → zMo g w' S' → zOKS S' → zRunsX (zScp b L xs) g 9 mL_law 0 0 1739 [some (.ref b), some (zR g 0), some (zR g 72), some (zI i)] [] w' K) : zRunsX (zScp b L xs) g 9 mL_law 0 0 730 [some (.ref b), some (zR g 0), some (zR g 72), some (zI i)] [] w K := by
  refine x_aload_n (pc := 730) dL_law_730 rfl rfl ?_
  refine x_aload_n (pc := 731) dL_law_731 rfl rfl ?_
  refine x_iload_n (pc := 732) dL_law_732 rfl ?_
  refine x_iconst (pc := 733) dL_law_733 ?_
  refine x_iadd (pc := 734) dL_law_734 ?_
  refine x_sld (pc := 735) hbg hL0 (by omega) dL_law_735 ?_
  refine x_aload_n (pc := 736) dL_law_736 rfl rfl ?_
  refine x_iload_n (pc := 737) dL_law_737 rfl ?_
  refine x_iconst (pc := 738) dL_law_738 ?_
  refine x_iadd (pc := 739) dL_law_739 ?_
  refine x_sld (pc := 740) hbg hL0 (by omega) dL_law_740 ?_
  refine x_invokevirtual (pc := 741) (d' := 9 - 1) (mc' := 0) (ms' := 0) (As := [_, _]) (TX7, 15) cl_L_90 dL_law_741 rfl rfl (by first | exact h72 | exact hC.1) rfl (by omega) rfl 0 0 (Nat.le_refl 0) (Nat.le_refl 0) ?_
  refine c_X7_sky (by omega) hC hO zXs_R zXs_R (fun w1 hs1 hC1 => ?_)
  have hM1 := hM.keep hs1 (by omega)
  obtain ⟨⟨p0, p1, p2, p3, p4, it, sm, h72⟩, -⟩ := id hM1
  refine x_aload_n (pc := 744) dL_law_744 rfl rfl ?_
  refine x_aload_n (pc := 745) dL_law_745 rfl rfl ?_
  refine x_iload_n (pc := 746) dL_law_746 rfl ?_
  refine x_iconst (pc := 747) dL_law_747 ?_
  refine x_iadd (pc := 748) dL_law_748 ?_
  refine x_sld (pc := 749) hbg hL0 (by omega) dL_law_749 ?_
  refine x_aload_n (pc := 750) dL_law_750 rfl rfl ?_
  refine x_iload_n (pc := 751) dL_law_751 rfl ?_
  refine x_iconst (pc := 752) dL_law_752 ?_
  refine x_iadd (pc := 753) dL_law_753 ?_
  refine x_sld (pc := 754) hbg hL0 (by omega) dL_law_754 ?_
  refine x_invokevirtual (pc := 755) (d' := 9 - 1) (mc' := 0) (ms' := 0) (As := [_, _]) (TX8, 26) cl_L_93 dL_law_755 rfl rfl (by first | exact h72 | exact hC.1) rfl (by omega) rfl 0 0 (Nat.le_refl 0) (Nat.le_refl 0) ?_
  refine c_X8_sky (by omega) hM1 hO zXs_R zXs_R (fun w2 hs2 hM2 => ?_)
  refine x_same (pc := 758) 1739 dL_law_758 rfl ?_
  exact k _ w2 (hC1.keep hs2 (by omega)) hM2 (k_sky hO)
set_option maxRecDepth 100000 in
set_option maxHeartbeats 4000000 in
theorem law_19 (hbg : b < g.base) (hL0 : L ≤ 384) (hi : 0 ≤ i ∧ i + 6 ≤ (L : Int)) (hC : zCl g w S) (hM : zMo g w S) (hO : zOKS S) (k : ∀ S' w', zCl g w' S' → zMo g w' S' → zOKS S' → zRunsX (zScp b L xs) g 9 mL_law 0 0 1739 [some (.ref b), some (zR g 0), some (zR g 72), some (zI i)] [] w' K) : zRunsX (zScp b L xs) g 9 mL_law 0 0 763 [some (.ref b), some (zR g 0), some (zR g 72), some (zI i)] [] w K := by
  refine x_aload_n (pc := 763) dL_law_763 rfl rfl ?_
  refine x_aload_n (pc := 764) dL_law_764 rfl rfl ?_
  refine x_iload_n (pc := 765) dL_law_765 rfl ?_
  refine x_iconst (pc := 766) dL_law_766 ?_
  refine x_iadd (pc := 767) dL_law_767 ?_
  refine x_sld (pc := 768) hbg hL0 (by omega) dL_law_768 ?_
  refine x_aload_n (pc := 769) dL_law_769 rfl rfl ?_
  refine x_iload_n (pc := 770) dL_law_770 rfl ?_
  refine x_iconst (pc := 771) dL_law_771 ?_
  refine x_iadd (pc := 772) dL_law_772 ?_
  refine x_sld (pc := 773) hbg hL0 (by omega) dL_law_773 ?_
  refine x_invokevirtual (pc := 774) (d' := 9 - 1) (mc' := 0) (ms' := 0) (As := [_, _]) (TX7, 15) cl_L_94 dL_law_774 rfl rfl (by first | exact h72 | exact hC.1) rfl (by omega) rfl 0 0 (Nat.le_refl 0) (Nat.le_refl 0) ?_
  refine c_X7_melts (by omega) hC hO zXs_R zXs_R (fun w1 hs1 hC1 => ?_)
  have hM1 := hM.keep hs1 (by omega)
  obtain ⟨⟨p0, p1, p2, p3, p4, it, sm, h72⟩, -⟩ := id hM1
  refine x_aload_n (pc := 777) dL_law_777 rfl rfl ?_
  refine x_aload_n (pc := 778) dL_law_778 rfl rfl ?_
  refine x_iload_n (pc := 779) dL_law_779 rfl ?_
  refine x_iconst (pc := 780) dL_law_780 ?_
  refine x_iadd (pc := 781) dL_law_781 ?_
  refine x_sld (pc := 782) hbg hL0 (by omega) dL_law_782 ?_
  refine x_aload_n (pc := 783) dL_law_783 rfl rfl ?_
  refine x_iload_n (pc := 784) dL_law_784 rfl ?_
  refine x_iconst (pc := 785) dL_law_785 ?_
  refine x_iadd (pc := 786) dL_law_786 ?_
  refine x_sld (pc := 787) hbg hL0 (by omega) dL_law_787 ?_
  refine x_invokevirtual (pc := 788) (d' := 9 - 1) (mc' := 0) (ms' := 0) (As := [_, _]) (TX8, 26) cl_L_97 dL_law_788 rfl rfl (by first | exact h72 | exact hC.1) rfl (by omega) rfl 0 0 (Nat.le_refl 0) (Nat.le_refl 0) ?_
  refine c_X8_melts (by omega) hM1 hO zXs_R zXs_R (fun w2 hs2 hM2 => ?_)
  refine x_same (pc := 791) 1739 dL_law_791 rfl ?_
  exact k _ w2 (hC1.keep hs2 (by omega)) hM2 (k_melts hO)
set_option maxRecDepth 100000 in
set_option maxHeartbeats 4000000 in
theorem law_20 (hbg : b < g.base) (hL0 : L ≤ 384) (hi : 0 ≤ i ∧ i + 6 ≤ (L : Int)) (hC : zCl g w S) (hM : zMo g w S) (hO : zOKS S) (k : ∀ S' w', zCl g w' S' → zMo g w' S' → zOKS S' → zRunsX (zScp b L xs) g 9 mL_law 0 0 1739 [some (.ref b), some (zR g 0), some (zR g 72), some (zI i)] [] w' K) : zRunsX (zScp b L xs) g 9 mL_law 0 0 796 [some (.ref b), some (zR g 0), some (zR g 72), some (zI i)] [] w K := by
  refine x_aload_n (pc := 796) dL_law_796 rfl rfl ?_
  refine x_aload_n (pc := 797) dL_law_797 rfl rfl ?_
  refine x_iload_n (pc := 798) dL_law_798 rfl ?_
  refine x_iconst (pc := 799) dL_law_799 ?_
  refine x_iadd (pc := 800) dL_law_800 ?_
  refine x_sld (pc := 801) hbg hL0 (by omega) dL_law_801 ?_
  refine x_aload_n (pc := 802) dL_law_802 rfl rfl ?_
  refine x_iload_n (pc := 803) dL_law_803 rfl ?_
  refine x_iconst (pc := 804) dL_law_804 ?_
  refine x_iadd (pc := 805) dL_law_805 ?_
  refine x_sld (pc := 806) hbg hL0 (by omega) dL_law_806 ?_
  refine x_aload_n (pc := 807) dL_law_807 rfl rfl ?_
  refine x_iload_n (pc := 808) dL_law_808 rfl ?_
  refine x_iconst (pc := 809) dL_law_809 ?_
  refine x_iadd (pc := 810) dL_law_810 ?_
  refine x_sld (pc := 811) hbg hL0 (by omega) dL_law_811 ?_
  refine x_aload_n (pc := 812) dL_law_812 rfl rfl ?_
  refine x_iload_n (pc := 813) dL_law_813 rfl ?_
  refine x_iconst (pc := 814) dL_law_814 ?_
  refine x_iadd (pc := 815) dL_law_815 ?_
  refine x_sld (pc := 816) hbg hL0 (by omega) dL_law_816 ?_
  refine x_invokevirtual (pc := 817) (d' := 9 - 1) (mc' := 0) (ms' := 0) (As := [_, _, _, _]) (TX7, 15) cl_L_98 dL_law_817 rfl rfl (by first | exact h72 | exact hC.1) rfl (by omega) rfl 0 0 (Nat.le_refl 0) (Nat.le_refl 0) ?_
  refine c_X7_then (by omega) hC hO zXs_R zXs_R zXs_R zXs_R (fun w1 hs1 hC1 => ?_)
  have hM1 := hM.keep hs1 (by omega)
  obtain ⟨⟨p0, p1, p2, p3, p4, it, sm, h72⟩, -⟩ := id hM1
  refine x_aload_n (pc := 820) dL_law_820 rfl rfl ?_
  refine x_aload_n (pc := 821) dL_law_821 rfl rfl ?_
  refine x_iload_n (pc := 822) dL_law_822 rfl ?_
  refine x_iconst (pc := 823) dL_law_823 ?_
  refine x_iadd (pc := 824) dL_law_824 ?_
  refine x_sld (pc := 825) hbg hL0 (by omega) dL_law_825 ?_
  refine x_aload_n (pc := 826) dL_law_826 rfl rfl ?_
  refine x_iload_n (pc := 827) dL_law_827 rfl ?_
  refine x_iconst (pc := 828) dL_law_828 ?_
  refine x_iadd (pc := 829) dL_law_829 ?_
  refine x_sld (pc := 830) hbg hL0 (by omega) dL_law_830 ?_
  refine x_aload_n (pc := 831) dL_law_831 rfl rfl ?_
  refine x_iload_n (pc := 832) dL_law_832 rfl ?_
  refine x_iconst (pc := 833) dL_law_833 ?_
  refine x_iadd (pc := 834) dL_law_834 ?_
  refine x_sld (pc := 835) hbg hL0 (by omega) dL_law_835 ?_
  refine x_aload_n (pc := 836) dL_law_836 rfl rfl ?_
  refine x_iload_n (pc := 837) dL_law_837 rfl ?_
  refine x_iconst (pc := 838) dL_law_838 ?_
  refine x_iadd (pc := 839) dL_law_839 ?_
  refine x_sld (pc := 840) hbg hL0 (by omega) dL_law_840 ?_
  refine x_invokevirtual (pc := 841) (d' := 9 - 1) (mc' := 0) (ms' := 0) (As := [_, _, _, _]) (TX8, 26) cl_L_101 dL_law_841 rfl rfl (by first | exact h72 | exact hC.1) rfl (by omega) rfl 0 0 (Nat.le_refl 0) (Nat.le_refl 0) ?_
  refine c_X8_then (by omega) hM1 hO zXs_R zXs_R zXs_R zXs_R (fun w2 hs2 hM2 => ?_)
  refine x_same (pc := 844) 1739 dL_law_844 rfl ?_
  exact k _ w2 (hC1.keep hs2 (by omega)) hM2 (k_then hO)
set_option maxRecDepth 100000 in
set_option maxHeartbeats 4000000 in
theorem law_21 (hbg : b < g.base) (hL0 : L ≤ 384) (hi : 0 ≤ i ∧ i + 6 ≤ (L : Int)) (hC : zCl g w S) (hM : zMo g w S) (hO : zOKS S) (k : ∀ S' w', zCl g w' S' → zMo g w' S' → zOKS S' → zRunsX (zScp b L xs) g 9 mL_law 0 0 1739 [some (.ref b), some (zR g 0), some (zR g 72), some (zI i)] [] w' K) : zRunsX (zScp b L xs) g 9 mL_law 0 0 849 [some (.ref b), some (zR g 0), some (zR g 72), some (zI i)] [] w K := by
  refine x_aload_n (pc := 849) dL_law_849 rfl rfl ?_
  refine x_aload_n (pc := 850) dL_law_850 rfl rfl ?_
  refine x_iload_n (pc := 851) dL_law_851 rfl ?_
  refine x_iconst (pc := 852) dL_law_852 ?_
  refine x_iadd (pc := 853) dL_law_853 ?_
  refine x_sld (pc := 854) hbg hL0 (by omega) dL_law_854 ?_
  refine x_aload_n (pc := 855) dL_law_855 rfl rfl ?_
  refine x_iload_n (pc := 856) dL_law_856 rfl ?_
  refine x_iconst (pc := 857) dL_law_857 ?_
  refine x_iadd (pc := 858) dL_law_858 ?_
  refine x_sld (pc := 859) hbg hL0 (by omega) dL_law_859 ?_
  refine x_invokevirtual (pc := 860) (d' := 9 - 1) (mc' := 0) (ms' := 0) (As := [_, _]) (TX7, 15) cl_L_102 dL_law_860 rfl rfl (by first | exact h72 | exact hC.1) rfl (by omega) rfl 0 0 (Nat.le_refl 0) (Nat.le_refl 0) ?_
  refine c_X7_lasts (by omega) hC hO zXs_R zXs_R (fun w1 hs1 hC1 => ?_)
  have hM1 := hM.keep hs1 (by omega)
  obtain ⟨⟨p0, p1, p2, p3, p4, it, sm, h72⟩, -⟩ := id hM1
  refine x_aload_n (pc := 863) dL_law_863 rfl rfl ?_
  refine x_aload_n (pc := 864) dL_law_864 rfl rfl ?_
  refine x_iload_n (pc := 865) dL_law_865 rfl ?_
  refine x_iconst (pc := 866) dL_law_866 ?_
  refine x_iadd (pc := 867) dL_law_867 ?_
  refine x_sld (pc := 868) hbg hL0 (by omega) dL_law_868 ?_
  refine x_aload_n (pc := 869) dL_law_869 rfl rfl ?_
  refine x_iload_n (pc := 870) dL_law_870 rfl ?_
  refine x_iconst (pc := 871) dL_law_871 ?_
  refine x_iadd (pc := 872) dL_law_872 ?_
  refine x_sld (pc := 873) hbg hL0 (by omega) dL_law_873 ?_
  refine x_invokevirtual (pc := 874) (d' := 9 - 1) (mc' := 0) (ms' := 0) (As := [_, _]) (TX8, 26) cl_L_105 dL_law_874 rfl rfl (by first | exact h72 | exact hC.1) rfl (by omega) rfl 0 0 (Nat.le_refl 0) (Nat.le_refl 0) ?_
  refine c_X8_lasts (by omega) hM1 hO zXs_R zXs_R (fun w2 hs2 hM2 => ?_)
  refine x_same (pc := 877) 1739 dL_law_877 rfl ?_
  exact k _ w2 (hC1.keep hs2 (by omega)) hM2 (k_lasts hO)
set_option maxRecDepth 100000 in
set_option maxHeartbeats 4000000 in
theorem law_22 (hbg : b < g.base) (hL0 : L ≤ 384) (hi : 0 ≤ i ∧ i + 6 ≤ (L : Int)) (hC : zCl g w S) (hM : zMo g w S) (hO : zOKS S) (k : ∀ S' w', zCl g w' S' → zMo g w' S' → zOKS S' → zRunsX (zScp b L xs) g 9 mL_law 0 0 1739 [some (.ref b), some (zR g 0), some (zR g 72), some (zI i)] [] w' K) : zRunsX (zScp b L xs) g 9 mL_law 0 0 882 [some (.ref b), some (zR g 0), some (zR g 72), some (zI i)] [] w K := by
  refine x_aload_n (pc := 882) dL_law_882 rfl rfl ?_
  refine x_aload_n (pc := 883) dL_law_883 rfl rfl ?_
  refine x_iload_n (pc := 884) dL_law_884 rfl ?_
  refine x_iconst (pc := 885) dL_law_885 ?_
  refine x_iadd (pc := 886) dL_law_886 ?_
  refine x_sld (pc := 887) hbg hL0 (by omega) dL_law_887 ?_
  refine x_aload_n (pc := 888) dL_law_888 rfl rfl ?_
  refine x_iload_n (pc := 889) dL_law_889 rfl ?_
  refine x_iconst (pc := 890) dL_law_890 ?_
  refine x_iadd (pc := 891) dL_law_891 ?_
  refine x_sld (pc := 892) hbg hL0 (by omega) dL_law_892 ?_
  refine x_aload_n (pc := 893) dL_law_893 rfl rfl ?_
  refine x_iload_n (pc := 894) dL_law_894 rfl ?_
  refine x_iconst (pc := 895) dL_law_895 ?_
  refine x_iadd (pc := 896) dL_law_896 ?_
  refine x_sld (pc := 897) hbg hL0 (by omega) dL_law_897 ?_
  refine x_invokevirtual (pc := 898) (d' := 9 - 1) (mc' := 0) (ms' := 0) (As := [_, _, _]) (TX7, 15) cl_L_106 dL_law_898 rfl rfl (by first | exact h72 | exact hC.1) rfl (by omega) rfl 0 0 (Nat.le_refl 0) (Nat.le_refl 0) ?_
  refine c_X7_least (by omega) hC hO zXs_R zXs_R zXs_R (fun w1 hs1 hC1 => ?_)
  have hM1 := hM.keep hs1 (by omega)
  obtain ⟨⟨p0, p1, p2, p3, p4, it, sm, h72⟩, -⟩ := id hM1
  refine x_aload_n (pc := 901) dL_law_901 rfl rfl ?_
  refine x_aload_n (pc := 902) dL_law_902 rfl rfl ?_
  refine x_iload_n (pc := 903) dL_law_903 rfl ?_
  refine x_iconst (pc := 904) dL_law_904 ?_
  refine x_iadd (pc := 905) dL_law_905 ?_
  refine x_sld (pc := 906) hbg hL0 (by omega) dL_law_906 ?_
  refine x_aload_n (pc := 907) dL_law_907 rfl rfl ?_
  refine x_iload_n (pc := 908) dL_law_908 rfl ?_
  refine x_iconst (pc := 909) dL_law_909 ?_
  refine x_iadd (pc := 910) dL_law_910 ?_
  refine x_sld (pc := 911) hbg hL0 (by omega) dL_law_911 ?_
  refine x_aload_n (pc := 912) dL_law_912 rfl rfl ?_
  refine x_iload_n (pc := 913) dL_law_913 rfl ?_
  refine x_iconst (pc := 914) dL_law_914 ?_
  refine x_iadd (pc := 915) dL_law_915 ?_
  refine x_sld (pc := 916) hbg hL0 (by omega) dL_law_916 ?_
  refine x_invokevirtual (pc := 917) (d' := 9 - 1) (mc' := 0) (ms' := 0) (As := [_, _, _]) (TX8, 26) cl_L_109 dL_law_917 rfl rfl (by first | exact h72 | exact hC.1) rfl (by omega) rfl 0 0 (Nat.le_refl 0) (Nat.le_refl 0) ?_
  refine c_X8_least (by omega) hM1 hO zXs_R zXs_R zXs_R (fun w2 hs2 hM2 => ?_)
  refine x_same (pc := 920) 1739 dL_law_920 rfl ?_
  exact k _ w2 (hC1.keep hs2 (by omega)) hM2 (k_least hO)
set_option maxRecDepth 100000 in
set_option maxHeartbeats 4000000 in
theorem law_23 (hbg : b < g.base) (hL0 : L ≤ 384) (hi : 0 ≤ i ∧ i + 6 ≤ (L : Int)) (hC : zCl g w S) (hM : zMo g w S) (hO : zOKS S) (k : ∀ S' w', zCl g w' S' → zMo g w' S' → zOKS S' → zRunsX (zScp b L xs) g 9 mL_law 0 0 1739 [some (.ref b), some (zR g 0), some (zR g 72), some (zI i)] [] w' K) : zRunsX (zScp b L xs) g 9 mL_law 0 0 925 [some (.ref b), some (zR g 0), some (zR g 72), some (zI i)] [] w K := by
  refine x_aload_n (pc := 925) dL_law_925 rfl rfl ?_
  refine x_aload_n (pc := 926) dL_law_926 rfl rfl ?_
  refine x_iload_n (pc := 927) dL_law_927 rfl ?_
  refine x_iconst (pc := 928) dL_law_928 ?_
  refine x_iadd (pc := 929) dL_law_929 ?_
  refine x_sld (pc := 930) hbg hL0 (by omega) dL_law_930 ?_
  refine x_aload_n (pc := 931) dL_law_931 rfl rfl ?_
  refine x_iload_n (pc := 932) dL_law_932 rfl ?_
  refine x_iconst (pc := 933) dL_law_933 ?_
  refine x_iadd (pc := 934) dL_law_934 ?_
  refine x_sld (pc := 935) hbg hL0 (by omega) dL_law_935 ?_
  refine x_aload_n (pc := 936) dL_law_936 rfl rfl ?_
  refine x_iload_n (pc := 937) dL_law_937 rfl ?_
  refine x_iconst (pc := 938) dL_law_938 ?_
  refine x_iadd (pc := 939) dL_law_939 ?_
  refine x_sld (pc := 940) hbg hL0 (by omega) dL_law_940 ?_
  refine x_invokevirtual (pc := 941) (d' := 9 - 1) (mc' := 0) (ms' := 0) (As := [_, _, _]) (TX7, 15) cl_L_110 dL_law_941 rfl rfl (by first | exact h72 | exact hC.1) rfl (by omega) rfl 0 0 (Nat.le_refl 0) (Nat.le_refl 0) ?_
  refine c_X7_throwsOf (by omega) hC hO zXs_R zXs_R zXs_R (fun w1 hs1 hC1 => ?_)
  have hM1 := hM.keep hs1 (by omega)
  obtain ⟨⟨p0, p1, p2, p3, p4, it, sm, h72⟩, -⟩ := id hM1
  refine x_aload_n (pc := 944) dL_law_944 rfl rfl ?_
  refine x_aload_n (pc := 945) dL_law_945 rfl rfl ?_
  refine x_iload_n (pc := 946) dL_law_946 rfl ?_
  refine x_iconst (pc := 947) dL_law_947 ?_
  refine x_iadd (pc := 948) dL_law_948 ?_
  refine x_sld (pc := 949) hbg hL0 (by omega) dL_law_949 ?_
  refine x_aload_n (pc := 950) dL_law_950 rfl rfl ?_
  refine x_iload_n (pc := 951) dL_law_951 rfl ?_
  refine x_iconst (pc := 952) dL_law_952 ?_
  refine x_iadd (pc := 953) dL_law_953 ?_
  refine x_sld (pc := 954) hbg hL0 (by omega) dL_law_954 ?_
  refine x_aload_n (pc := 955) dL_law_955 rfl rfl ?_
  refine x_iload_n (pc := 956) dL_law_956 rfl ?_
  refine x_iconst (pc := 957) dL_law_957 ?_
  refine x_iadd (pc := 958) dL_law_958 ?_
  refine x_sld (pc := 959) hbg hL0 (by omega) dL_law_959 ?_
  refine x_invokevirtual (pc := 960) (d' := 9 - 1) (mc' := 0) (ms' := 0) (As := [_, _, _]) (TX8, 26) cl_L_113 dL_law_960 rfl rfl (by first | exact h72 | exact hC.1) rfl (by omega) rfl 0 0 (Nat.le_refl 0) (Nat.le_refl 0) ?_
  refine c_X8_throwsOf (by omega) hM1 hO zXs_R zXs_R zXs_R (fun w2 hs2 hM2 => ?_)
  refine x_same (pc := 963) 1739 dL_law_963 rfl ?_
  exact k _ w2 (hC1.keep hs2 (by omega)) hM2 (k_throwsOf hO)
set_option maxRecDepth 100000 in
set_option maxHeartbeats 4000000 in
theorem law_24 (hbg : b < g.base) (hL0 : L ≤ 384) (hi : 0 ≤ i ∧ i + 6 ≤ (L : Int)) (hC : zCl g w S) (hM : zMo g w S) (hO : zOKS S) (k : ∀ S' w', zCl g w' S' → zMo g w' S' → zOKS S' → zRunsX (zScp b L xs) g 9 mL_law 0 0 1739 [some (.ref b), some (zR g 0), some (zR g 72), some (zI i)] [] w' K) : zRunsX (zScp b L xs) g 9 mL_law 0 0 968 [some (.ref b), some (zR g 0), some (zR g 72), some (zI i)] [] w K := by
  refine x_aload_n (pc := 968) dL_law_968 rfl rfl ?_
  refine x_aload_n (pc := 969) dL_law_969 rfl rfl ?_
  refine x_iload_n (pc := 970) dL_law_970 rfl ?_
  refine x_iconst (pc := 971) dL_law_971 ?_
  refine x_iadd (pc := 972) dL_law_972 ?_
  refine x_sld (pc := 973) hbg hL0 (by omega) dL_law_973 ?_
  refine x_aload_n (pc := 974) dL_law_974 rfl rfl ?_
  refine x_iload_n (pc := 975) dL_law_975 rfl ?_
  refine x_iconst (pc := 976) dL_law_976 ?_
  refine x_iadd (pc := 977) dL_law_977 ?_
  refine x_sld (pc := 978) hbg hL0 (by omega) dL_law_978 ?_
  refine x_invokevirtual (pc := 979) (d' := 9 - 1) (mc' := 0) (ms' := 0) (As := [_, _]) (TX7, 15) cl_L_114 dL_law_979 rfl rfl (by first | exact h72 | exact hC.1) rfl (by omega) rfl 0 0 (Nat.le_refl 0) (Nat.le_refl 0) ?_
  refine c_X7_reach (by omega) hC hO zXs_R zXs_R (fun w1 hs1 hC1 => ?_)
  have hM1 := hM.keep hs1 (by omega)
  obtain ⟨⟨p0, p1, p2, p3, p4, it, sm, h72⟩, -⟩ := id hM1
  refine x_aload_n (pc := 982) dL_law_982 rfl rfl ?_
  refine x_aload_n (pc := 983) dL_law_983 rfl rfl ?_
  refine x_iload_n (pc := 984) dL_law_984 rfl ?_
  refine x_iconst (pc := 985) dL_law_985 ?_
  refine x_iadd (pc := 986) dL_law_986 ?_
  refine x_sld (pc := 987) hbg hL0 (by omega) dL_law_987 ?_
  refine x_aload_n (pc := 988) dL_law_988 rfl rfl ?_
  refine x_iload_n (pc := 989) dL_law_989 rfl ?_
  refine x_iconst (pc := 990) dL_law_990 ?_
  refine x_iadd (pc := 991) dL_law_991 ?_
  refine x_sld (pc := 992) hbg hL0 (by omega) dL_law_992 ?_
  refine x_invokevirtual (pc := 993) (d' := 9 - 1) (mc' := 0) (ms' := 0) (As := [_, _]) (TX8, 26) cl_L_117 dL_law_993 rfl rfl (by first | exact h72 | exact hC.1) rfl (by omega) rfl 0 0 (Nat.le_refl 0) (Nat.le_refl 0) ?_
  refine c_X8_reach (by omega) hM1 hO zXs_R zXs_R (fun w2 hs2 hM2 => ?_)
  refine x_same (pc := 996) 1739 dL_law_996 rfl ?_
  exact k _ w2 (hC1.keep hs2 (by omega)) hM2 (k_reach hO)
set_option maxRecDepth 100000 in
set_option maxHeartbeats 4000000 in
theorem law_25 (hbg : b < g.base) (hL0 : L ≤ 384) (hi : 0 ≤ i ∧ i + 6 ≤ (L : Int)) (hC : zCl g w S) (hM : zMo g w S) (hO : zOKS S) (k : ∀ S' w', zCl g w' S' → zMo g w' S' → zOKS S' → zRunsX (zScp b L xs) g 9 mL_law 0 0 1739 [some (.ref b), some (zR g 0), some (zR g 72), some (zI i)] [] w' K) : zRunsX (zScp b L xs) g 9 mL_law 0 0 1001 [some (.ref b), some (zR g 0), some (zR g 72), some (zI i)] [] w K := by
  refine x_aload_n (pc := 1001) dL_law_1001 rfl rfl ?_
  refine x_aload_n (pc := 1002) dL_law_1002 rfl rfl ?_
  refine x_iload_n (pc := 1003) dL_law_1003 rfl ?_
  refine x_iconst (pc := 1004) dL_law_1004 ?_
  refine x_iadd (pc := 1005) dL_law_1005 ?_
  refine x_sld (pc := 1006) hbg hL0 (by omega) dL_law_1006 ?_
  refine x_aload_n (pc := 1007) dL_law_1007 rfl rfl ?_
  refine x_iload_n (pc := 1008) dL_law_1008 rfl ?_
  refine x_iconst (pc := 1009) dL_law_1009 ?_
  refine x_iadd (pc := 1010) dL_law_1010 ?_
  refine x_sld (pc := 1011) hbg hL0 (by omega) dL_law_1011 ?_
  refine x_aload_n (pc := 1012) dL_law_1012 rfl rfl ?_
  refine x_iload_n (pc := 1013) dL_law_1013 rfl ?_
  refine x_iconst (pc := 1014) dL_law_1014 ?_
  refine x_iadd (pc := 1015) dL_law_1015 ?_
  refine x_sld (pc := 1016) hbg hL0 (by omega) dL_law_1016 ?_
  refine x_aload_n (pc := 1017) dL_law_1017 rfl rfl ?_
  refine x_iload_n (pc := 1018) dL_law_1018 rfl ?_
  refine x_iconst (pc := 1019) dL_law_1019 ?_
  refine x_iadd (pc := 1020) dL_law_1020 ?_
  refine x_sld (pc := 1021) hbg hL0 (by omega) dL_law_1021 ?_
  refine x_invokevirtual (pc := 1022) (d' := 9 - 1) (mc' := 0) (ms' := 0) (As := [_, _, _, _]) (TX7, 15) cl_L_118 dL_law_1022 rfl rfl (by first | exact h72 | exact hC.1) rfl (by omega) rfl 0 0 (Nat.le_refl 0) (Nat.le_refl 0) ?_
  refine c_X7_turn (by omega) hC hO zXs_R zXs_R zXs_R zXs_R (fun w1 hs1 hC1 => ?_)
  have hM1 := hM.keep hs1 (by omega)
  obtain ⟨⟨p0, p1, p2, p3, p4, it, sm, h72⟩, -⟩ := id hM1
  refine x_aload_n (pc := 1025) dL_law_1025 rfl rfl ?_
  refine x_aload_n (pc := 1026) dL_law_1026 rfl rfl ?_
  refine x_iload_n (pc := 1027) dL_law_1027 rfl ?_
  refine x_iconst (pc := 1028) dL_law_1028 ?_
  refine x_iadd (pc := 1029) dL_law_1029 ?_
  refine x_sld (pc := 1030) hbg hL0 (by omega) dL_law_1030 ?_
  refine x_aload_n (pc := 1031) dL_law_1031 rfl rfl ?_
  refine x_iload_n (pc := 1032) dL_law_1032 rfl ?_
  refine x_iconst (pc := 1033) dL_law_1033 ?_
  refine x_iadd (pc := 1034) dL_law_1034 ?_
  refine x_sld (pc := 1035) hbg hL0 (by omega) dL_law_1035 ?_
  refine x_aload_n (pc := 1036) dL_law_1036 rfl rfl ?_
  refine x_iload_n (pc := 1037) dL_law_1037 rfl ?_
  refine x_iconst (pc := 1038) dL_law_1038 ?_
  refine x_iadd (pc := 1039) dL_law_1039 ?_
  refine x_sld (pc := 1040) hbg hL0 (by omega) dL_law_1040 ?_
  refine x_aload_n (pc := 1041) dL_law_1041 rfl rfl ?_
  refine x_iload_n (pc := 1042) dL_law_1042 rfl ?_
  refine x_iconst (pc := 1043) dL_law_1043 ?_
  refine x_iadd (pc := 1044) dL_law_1044 ?_
  refine x_sld (pc := 1045) hbg hL0 (by omega) dL_law_1045 ?_
  refine x_invokevirtual (pc := 1046) (d' := 9 - 1) (mc' := 0) (ms' := 0) (As := [_, _, _, _]) (TX8, 26) cl_L_121 dL_law_1046 rfl rfl (by first | exact h72 | exact hC.1) rfl (by omega) rfl 0 0 (Nat.le_refl 0) (Nat.le_refl 0) ?_
  refine c_X8_turn (by omega) hM1 hO zXs_R zXs_R zXs_R zXs_R (fun w2 hs2 hM2 => ?_)
  refine x_same (pc := 1049) 1739 dL_law_1049 rfl ?_
  exact k _ w2 (hC1.keep hs2 (by omega)) hM2 (k_turn hO)
set_option maxRecDepth 100000 in
set_option maxHeartbeats 4000000 in
theorem law_26 (hbg : b < g.base) (hL0 : L ≤ 384) (hi : 0 ≤ i ∧ i + 6 ≤ (L : Int)) (hC : zCl g w S) (hM : zMo g w S) (hO : zOKS S) (k : ∀ S' w', zCl g w' S' → zMo g w' S' → zOKS S' → zRunsX (zScp b L xs) g 9 mL_law 0 0 1739 [some (.ref b), some (zR g 0), some (zR g 72), some (zI i)] [] w' K) : zRunsX (zScp b L xs) g 9 mL_law 0 0 1054 [some (.ref b), some (zR g 0), some (zR g 72), some (zI i)] [] w K := by
  refine x_aload_n (pc := 1054) dL_law_1054 rfl rfl ?_
  refine x_aload_n (pc := 1055) dL_law_1055 rfl rfl ?_
  refine x_iload_n (pc := 1056) dL_law_1056 rfl ?_
  refine x_iconst (pc := 1057) dL_law_1057 ?_
  refine x_iadd (pc := 1058) dL_law_1058 ?_
  refine x_sld (pc := 1059) hbg hL0 (by omega) dL_law_1059 ?_
  refine x_aload_n (pc := 1060) dL_law_1060 rfl rfl ?_
  refine x_iload_n (pc := 1061) dL_law_1061 rfl ?_
  refine x_iconst (pc := 1062) dL_law_1062 ?_
  refine x_iadd (pc := 1063) dL_law_1063 ?_
  refine x_sld (pc := 1064) hbg hL0 (by omega) dL_law_1064 ?_
  refine x_invokevirtual (pc := 1065) (d' := 9 - 1) (mc' := 0) (ms' := 0) (As := [_, _]) (TX7, 15) cl_L_122 dL_law_1065 rfl rfl (by first | exact h72 | exact hC.1) rfl (by omega) rfl 0 0 (Nat.le_refl 0) (Nat.le_refl 0) ?_
  refine c_X7_meet (by omega) hC hO zXs_R zXs_R (fun w1 hs1 hC1 => ?_)
  have hM1 := hM.keep hs1 (by omega)
  obtain ⟨⟨p0, p1, p2, p3, p4, it, sm, h72⟩, -⟩ := id hM1
  refine x_aload_n (pc := 1068) dL_law_1068 rfl rfl ?_
  refine x_aload_n (pc := 1069) dL_law_1069 rfl rfl ?_
  refine x_iload_n (pc := 1070) dL_law_1070 rfl ?_
  refine x_iconst (pc := 1071) dL_law_1071 ?_
  refine x_iadd (pc := 1072) dL_law_1072 ?_
  refine x_sld (pc := 1073) hbg hL0 (by omega) dL_law_1073 ?_
  refine x_aload_n (pc := 1074) dL_law_1074 rfl rfl ?_
  refine x_iload_n (pc := 1075) dL_law_1075 rfl ?_
  refine x_iconst (pc := 1076) dL_law_1076 ?_
  refine x_iadd (pc := 1077) dL_law_1077 ?_
  refine x_sld (pc := 1078) hbg hL0 (by omega) dL_law_1078 ?_
  refine x_invokevirtual (pc := 1079) (d' := 9 - 1) (mc' := 0) (ms' := 0) (As := [_, _]) (TX8, 26) cl_L_125 dL_law_1079 rfl rfl (by first | exact h72 | exact hC.1) rfl (by omega) rfl 0 0 (Nat.le_refl 0) (Nat.le_refl 0) ?_
  refine c_X8_meet (by omega) hM1 hO zXs_R zXs_R (fun w2 hs2 hM2 => ?_)
  refine x_same (pc := 1082) 1739 dL_law_1082 rfl ?_
  exact k _ w2 (hC1.keep hs2 (by omega)) hM2 (k_meet hO)
set_option maxRecDepth 100000 in
set_option maxHeartbeats 4000000 in
theorem law_27 (hbg : b < g.base) (hL0 : L ≤ 384) (hi : 0 ≤ i ∧ i + 6 ≤ (L : Int)) (hC : zCl g w S) (hM : zMo g w S) (hO : zOKS S) (k : ∀ S' w', zCl g w' S' → zMo g w' S' → zOKS S' → zRunsX (zScp b L xs) g 9 mL_law 0 0 1739 [some (.ref b), some (zR g 0), some (zR g 72), some (zI i)] [] w' K) : zRunsX (zScp b L xs) g 9 mL_law 0 0 1087 [some (.ref b), some (zR g 0), some (zR g 72), some (zI i)] [] w K := by
  refine x_aload_n (pc := 1087) dL_law_1087 rfl rfl ?_
  refine x_aload_n (pc := 1088) dL_law_1088 rfl rfl ?_
  refine x_iload_n (pc := 1089) dL_law_1089 rfl ?_
  refine x_iconst (pc := 1090) dL_law_1090 ?_
  refine x_iadd (pc := 1091) dL_law_1091 ?_
  refine x_sld (pc := 1092) hbg hL0 (by omega) dL_law_1092 ?_
  refine x_aload_n (pc := 1093) dL_law_1093 rfl rfl ?_
  refine x_iload_n (pc := 1094) dL_law_1094 rfl ?_
  refine x_iconst (pc := 1095) dL_law_1095 ?_
  refine x_iadd (pc := 1096) dL_law_1096 ?_
  refine x_sld (pc := 1097) hbg hL0 (by omega) dL_law_1097 ?_
  refine x_invokevirtual (pc := 1098) (d' := 9 - 1) (mc' := 0) (ms' := 0) (As := [_, _]) (TX7, 15) cl_L_126 dL_law_1098 rfl rfl (by first | exact h72 | exact hC.1) rfl (by omega) rfl 0 0 (Nat.le_refl 0) (Nat.le_refl 0) ?_
  refine c_X7_doors (by omega) hC hO zXs_R zXs_R (fun w1 hs1 hC1 => ?_)
  have hM1 := hM.keep hs1 (by omega)
  obtain ⟨⟨p0, p1, p2, p3, p4, it, sm, h72⟩, -⟩ := id hM1
  refine x_aload_n (pc := 1101) dL_law_1101 rfl rfl ?_
  refine x_aload_n (pc := 1102) dL_law_1102 rfl rfl ?_
  refine x_iload_n (pc := 1103) dL_law_1103 rfl ?_
  refine x_iconst (pc := 1104) dL_law_1104 ?_
  refine x_iadd (pc := 1105) dL_law_1105 ?_
  refine x_sld (pc := 1106) hbg hL0 (by omega) dL_law_1106 ?_
  refine x_aload_n (pc := 1107) dL_law_1107 rfl rfl ?_
  refine x_iload_n (pc := 1108) dL_law_1108 rfl ?_
  refine x_iconst (pc := 1109) dL_law_1109 ?_
  refine x_iadd (pc := 1110) dL_law_1110 ?_
  refine x_sld (pc := 1111) hbg hL0 (by omega) dL_law_1111 ?_
  refine x_invokevirtual (pc := 1112) (d' := 9 - 1) (mc' := 0) (ms' := 0) (As := [_, _]) (TX8, 26) cl_L_129 dL_law_1112 rfl rfl (by first | exact h72 | exact hC.1) rfl (by omega) rfl 0 0 (Nat.le_refl 0) (Nat.le_refl 0) ?_
  refine c_X8_doors (by omega) hM1 hO zXs_R zXs_R (fun w2 hs2 hM2 => ?_)
  refine x_same (pc := 1115) 1739 dL_law_1115 rfl ?_
  exact k _ w2 (hC1.keep hs2 (by omega)) hM2 (k_doors hO)
set_option maxRecDepth 100000 in
set_option maxHeartbeats 4000000 in
theorem law_28 (hbg : b < g.base) (hL0 : L ≤ 384) (hi : 0 ≤ i ∧ i + 6 ≤ (L : Int)) (hC : zCl g w S) (hM : zMo g w S) (hO : zOKS S) (k : ∀ S' w', zCl g w' S' → zMo g w' S' → zOKS S' → zRunsX (zScp b L xs) g 9 mL_law 0 0 1739 [some (.ref b), some (zR g 0), some (zR g 72), some (zI i)] [] w' K) : zRunsX (zScp b L xs) g 9 mL_law 0 0 1120 [some (.ref b), some (zR g 0), some (zR g 72), some (zI i)] [] w K := by
  refine x_aload_n (pc := 1120) dL_law_1120 rfl rfl ?_
  refine x_aload_n (pc := 1121) dL_law_1121 rfl rfl ?_
  refine x_iload_n (pc := 1122) dL_law_1122 rfl ?_
  refine x_iconst (pc := 1123) dL_law_1123 ?_
  refine x_iadd (pc := 1124) dL_law_1124 ?_
  refine x_sld (pc := 1125) hbg hL0 (by omega) dL_law_1125 ?_
  refine x_aload_n (pc := 1126) dL_law_1126 rfl rfl ?_
  refine x_iload_n (pc := 1127) dL_law_1127 rfl ?_
  refine x_iconst (pc := 1128) dL_law_1128 ?_
  refine x_iadd (pc := 1129) dL_law_1129 ?_
  refine x_sld (pc := 1130) hbg hL0 (by omega) dL_law_1130 ?_
  refine x_aload_n (pc := 1131) dL_law_1131 rfl rfl ?_
  refine x_iload_n (pc := 1132) dL_law_1132 rfl ?_
  refine x_iconst (pc := 1133) dL_law_1133 ?_
  refine x_iadd (pc := 1134) dL_law_1134 ?_
  refine x_sld (pc := 1135) hbg hL0 (by omega) dL_law_1135 ?_
  refine x_aload_n (pc := 1136) dL_law_1136 rfl rfl ?_
  refine x_iload_n (pc := 1137) dL_law_1137 rfl ?_
  refine x_iconst (pc := 1138) dL_law_1138 ?_
  refine x_iadd (pc := 1139) dL_law_1139 ?_
  refine x_sld (pc := 1140) hbg hL0 (by omega) dL_law_1140 ?_
  refine x_invokevirtual (pc := 1141) (d' := 9 - 1) (mc' := 0) (ms' := 0) (As := [_, _, _, _]) (TX7, 15) cl_L_130 dL_law_1141 rfl rfl (by first | exact h72 | exact hC.1) rfl (by omega) rfl 0 0 (Nat.le_refl 0) (Nat.le_refl 0) ?_
  refine c_X7_rings (by omega) hC hO zXs_R zXs_R zXs_R zXs_R (fun w1 hs1 hC1 => ?_)
  have hM1 := hM.keep hs1 (by omega)
  obtain ⟨⟨p0, p1, p2, p3, p4, it, sm, h72⟩, -⟩ := id hM1
  refine x_aload_n (pc := 1144) dL_law_1144 rfl rfl ?_
  refine x_aload_n (pc := 1145) dL_law_1145 rfl rfl ?_
  refine x_iload_n (pc := 1146) dL_law_1146 rfl ?_
  refine x_iconst (pc := 1147) dL_law_1147 ?_
  refine x_iadd (pc := 1148) dL_law_1148 ?_
  refine x_sld (pc := 1149) hbg hL0 (by omega) dL_law_1149 ?_
  refine x_aload_n (pc := 1150) dL_law_1150 rfl rfl ?_
  refine x_iload_n (pc := 1151) dL_law_1151 rfl ?_
  refine x_iconst (pc := 1152) dL_law_1152 ?_
  refine x_iadd (pc := 1153) dL_law_1153 ?_
  refine x_sld (pc := 1154) hbg hL0 (by omega) dL_law_1154 ?_
  refine x_aload_n (pc := 1155) dL_law_1155 rfl rfl ?_
  refine x_iload_n (pc := 1156) dL_law_1156 rfl ?_
  refine x_iconst (pc := 1157) dL_law_1157 ?_
  refine x_iadd (pc := 1158) dL_law_1158 ?_
  refine x_sld (pc := 1159) hbg hL0 (by omega) dL_law_1159 ?_
  refine x_aload_n (pc := 1160) dL_law_1160 rfl rfl ?_
  refine x_iload_n (pc := 1161) dL_law_1161 rfl ?_
  refine x_iconst (pc := 1162) dL_law_1162 ?_
  refine x_iadd (pc := 1163) dL_law_1163 ?_
  refine x_sld (pc := 1164) hbg hL0 (by omega) dL_law_1164 ?_
  refine x_invokevirtual (pc := 1165) (d' := 9 - 1) (mc' := 0) (ms' := 0) (As := [_, _, _, _]) (TX8, 26) cl_L_133 dL_law_1165 rfl rfl (by first | exact h72 | exact hC.1) rfl (by omega) rfl 0 0 (Nat.le_refl 0) (Nat.le_refl 0) ?_
  refine c_X8_rings (by omega) hM1 hO zXs_R zXs_R zXs_R zXs_R (fun w2 hs2 hM2 => ?_)
  refine x_same (pc := 1168) 1739 dL_law_1168 rfl ?_
  exact k _ w2 (hC1.keep hs2 (by omega)) hM2 (k_rings hO)
set_option maxRecDepth 100000 in
set_option maxHeartbeats 4000000 in
theorem law_29 (hbg : b < g.base) (hL0 : L ≤ 384) (hi : 0 ≤ i ∧ i + 6 ≤ (L : Int)) (hC : zCl g w S) (hM : zMo g w S) (hO : zOKS S) (k : ∀ S' w', zCl g w' S' → zMo g w' S' → zOKS S' → zRunsX (zScp b L xs) g 9 mL_law 0 0 1739 [some (.ref b), some (zR g 0), some (zR g 72), some (zI i)] [] w' K) : zRunsX (zScp b L xs) g 9 mL_law 0 0 1173 [some (.ref b), some (zR g 0), some (zR g 72), some (zI i)] [] w K := by
  refine x_aload_n (pc := 1173) dL_law_1173 rfl rfl ?_
  refine x_aload_n (pc := 1174) dL_law_1174 rfl rfl ?_
  refine x_iload_n (pc := 1175) dL_law_1175 rfl ?_
  refine x_iconst (pc := 1176) dL_law_1176 ?_
  refine x_iadd (pc := 1177) dL_law_1177 ?_
  refine x_sld (pc := 1178) hbg hL0 (by omega) dL_law_1178 ?_
  refine x_invokevirtual (pc := 1179) (d' := 9 - 1) (mc' := 0) (ms' := 0) (As := [_]) (TX7, 15) cl_L_134 dL_law_1179 rfl rfl (by first | exact h72 | exact hC.1) rfl (by omega) rfl 0 0 (Nat.le_refl 0) (Nat.le_refl 0) ?_
  refine c_X7_cooled (by omega) hC hO zXs_R (fun w1 hs1 hC1 => ?_)
  have hM1 := hM.keep hs1 (by omega)
  obtain ⟨⟨p0, p1, p2, p3, p4, it, sm, h72⟩, -⟩ := id hM1
  refine x_aload_n (pc := 1182) dL_law_1182 rfl rfl ?_
  refine x_aload_n (pc := 1183) dL_law_1183 rfl rfl ?_
  refine x_iload_n (pc := 1184) dL_law_1184 rfl ?_
  refine x_iconst (pc := 1185) dL_law_1185 ?_
  refine x_iadd (pc := 1186) dL_law_1186 ?_
  refine x_sld (pc := 1187) hbg hL0 (by omega) dL_law_1187 ?_
  refine x_invokevirtual (pc := 1188) (d' := 9 - 1) (mc' := 0) (ms' := 0) (As := [_]) (TX8, 26) cl_L_137 dL_law_1188 rfl rfl (by first | exact h72 | exact hC.1) rfl (by omega) rfl 0 0 (Nat.le_refl 0) (Nat.le_refl 0) ?_
  refine c_X8_cooled (by omega) hM1 hO zXs_R (fun w2 hs2 hM2 => ?_)
  refine x_same (pc := 1191) 1739 dL_law_1191 rfl ?_
  exact k _ w2 (hC1.keep hs2 (by omega)) hM2 (k_cooled hO)
set_option maxRecDepth 100000 in
set_option maxHeartbeats 4000000 in
theorem law_30 (hbg : b < g.base) (hL0 : L ≤ 384) (hi : 0 ≤ i ∧ i + 6 ≤ (L : Int)) (hC : zCl g w S) (hM : zMo g w S) (hO : zOKS S) (k : ∀ S' w', zCl g w' S' → zMo g w' S' → zOKS S' → zRunsX (zScp b L xs) g 9 mL_law 0 0 1739 [some (.ref b), some (zR g 0), some (zR g 72), some (zI i)] [] w' K) : zRunsX (zScp b L xs) g 9 mL_law 0 0 1196 [some (.ref b), some (zR g 0), some (zR g 72), some (zI i)] [] w K := by
  refine x_aload_n (pc := 1196) dL_law_1196 rfl rfl ?_
  refine x_aload_n (pc := 1197) dL_law_1197 rfl rfl ?_
  refine x_iload_n (pc := 1198) dL_law_1198 rfl ?_
  refine x_iconst (pc := 1199) dL_law_1199 ?_
  refine x_iadd (pc := 1200) dL_law_1200 ?_
  refine x_sld (pc := 1201) hbg hL0 (by omega) dL_law_1201 ?_
  refine x_invokevirtual (pc := 1202) (d' := 9 - 1) (mc' := 0) (ms' := 0) (As := [_]) (TX7, 15) cl_L_138 dL_law_1202 rfl rfl (by first | exact h72 | exact hC.1) rfl (by omega) rfl 0 0 (Nat.le_refl 0) (Nat.le_refl 0) ?_
  refine c_X7_even (by omega) hC hO zXs_R (fun w1 hs1 hC1 => ?_)
  have hM1 := hM.keep hs1 (by omega)
  obtain ⟨⟨p0, p1, p2, p3, p4, it, sm, h72⟩, -⟩ := id hM1
  refine x_aload_n (pc := 1205) dL_law_1205 rfl rfl ?_
  refine x_aload_n (pc := 1206) dL_law_1206 rfl rfl ?_
  refine x_iload_n (pc := 1207) dL_law_1207 rfl ?_
  refine x_iconst (pc := 1208) dL_law_1208 ?_
  refine x_iadd (pc := 1209) dL_law_1209 ?_
  refine x_sld (pc := 1210) hbg hL0 (by omega) dL_law_1210 ?_
  refine x_invokevirtual (pc := 1211) (d' := 9 - 1) (mc' := 0) (ms' := 0) (As := [_]) (TX8, 26) cl_L_141 dL_law_1211 rfl rfl (by first | exact h72 | exact hC.1) rfl (by omega) rfl 0 0 (Nat.le_refl 0) (Nat.le_refl 0) ?_
  refine c_X8_even (by omega) hM1 hO zXs_R (fun w2 hs2 hM2 => ?_)
  refine x_same (pc := 1214) 1739 dL_law_1214 rfl ?_
  exact k _ w2 (hC1.keep hs2 (by omega)) hM2 (k_even hO)
set_option maxRecDepth 100000 in
set_option maxHeartbeats 4000000 in
theorem law_31 (hbg : b < g.base) (hL0 : L ≤ 384) (hi : 0 ≤ i ∧ i + 6 ≤ (L : Int)) (hC : zCl g w S) (hM : zMo g w S) (hO : zOKS S) (k : ∀ S' w', zCl g w' S' → zMo g w' S' → zOKS S' → zRunsX (zScp b L xs) g 9 mL_law 0 0 1739 [some (.ref b), some (zR g 0), some (zR g 72), some (zI i)] [] w' K) : zRunsX (zScp b L xs) g 9 mL_law 0 0 1219 [some (.ref b), some (zR g 0), some (zR g 72), some (zI i)] [] w K := by
  refine x_aload_n (pc := 1219) dL_law_1219 rfl rfl ?_
  refine x_aload_n (pc := 1220) dL_law_1220 rfl rfl ?_
  refine x_iload_n (pc := 1221) dL_law_1221 rfl ?_
  refine x_iconst (pc := 1222) dL_law_1222 ?_
  refine x_iadd (pc := 1223) dL_law_1223 ?_
  refine x_sld (pc := 1224) hbg hL0 (by omega) dL_law_1224 ?_
  refine x_aload_n (pc := 1225) dL_law_1225 rfl rfl ?_
  refine x_iload_n (pc := 1226) dL_law_1226 rfl ?_
  refine x_iconst (pc := 1227) dL_law_1227 ?_
  refine x_iadd (pc := 1228) dL_law_1228 ?_
  refine x_sld (pc := 1229) hbg hL0 (by omega) dL_law_1229 ?_
  refine x_aload_n (pc := 1230) dL_law_1230 rfl rfl ?_
  refine x_iload_n (pc := 1231) dL_law_1231 rfl ?_
  refine x_iconst (pc := 1232) dL_law_1232 ?_
  refine x_iadd (pc := 1233) dL_law_1233 ?_
  refine x_sld (pc := 1234) hbg hL0 (by omega) dL_law_1234 ?_
  refine x_aload_n (pc := 1235) dL_law_1235 rfl rfl ?_
  refine x_iload_n (pc := 1236) dL_law_1236 rfl ?_
  refine x_iconst (pc := 1237) dL_law_1237 ?_
  refine x_iadd (pc := 1238) dL_law_1238 ?_
  refine x_sld (pc := 1239) hbg hL0 (by omega) dL_law_1239 ?_
  refine x_aload_n (pc := 1240) dL_law_1240 rfl rfl ?_
  refine x_iload_n (pc := 1241) dL_law_1241 rfl ?_
  refine x_iconst (pc := 1242) dL_law_1242 ?_
  refine x_iadd (pc := 1243) dL_law_1243 ?_
  refine x_sld (pc := 1244) hbg hL0 (by omega) dL_law_1244 ?_
  refine x_invokevirtual (pc := 1245) (d' := 9 - 1) (mc' := 0) (ms' := 0) (As := [_, _, _, _, _]) (TX7, 15) cl_L_142 dL_law_1245 rfl rfl (by first | exact h72 | exact hC.1) rfl (by omega) rfl 0 0 (Nat.le_refl 0) (Nat.le_refl 0) ?_
  refine c_X7_note (by omega) hC hO zXs_R zXs_R zXs_R zXs_R zXs_R (fun w1 hs1 hC1 => ?_)
  have hM1 := hM.keep hs1 (by omega)
  obtain ⟨⟨p0, p1, p2, p3, p4, it, sm, h72⟩, -⟩ := id hM1
  refine x_aload_n (pc := 1248) dL_law_1248 rfl rfl ?_
  refine x_aload_n (pc := 1249) dL_law_1249 rfl rfl ?_
  refine x_iload_n (pc := 1250) dL_law_1250 rfl ?_
  refine x_iconst (pc := 1251) dL_law_1251 ?_
  refine x_iadd (pc := 1252) dL_law_1252 ?_
  refine x_sld (pc := 1253) hbg hL0 (by omega) dL_law_1253 ?_
  refine x_aload_n (pc := 1254) dL_law_1254 rfl rfl ?_
  refine x_iload_n (pc := 1255) dL_law_1255 rfl ?_
  refine x_iconst (pc := 1256) dL_law_1256 ?_
  refine x_iadd (pc := 1257) dL_law_1257 ?_
  refine x_sld (pc := 1258) hbg hL0 (by omega) dL_law_1258 ?_
  refine x_aload_n (pc := 1259) dL_law_1259 rfl rfl ?_
  refine x_iload_n (pc := 1260) dL_law_1260 rfl ?_
  refine x_iconst (pc := 1261) dL_law_1261 ?_
  refine x_iadd (pc := 1262) dL_law_1262 ?_
  refine x_sld (pc := 1263) hbg hL0 (by omega) dL_law_1263 ?_
  refine x_aload_n (pc := 1264) dL_law_1264 rfl rfl ?_
  refine x_iload_n (pc := 1265) dL_law_1265 rfl ?_
  refine x_iconst (pc := 1266) dL_law_1266 ?_
  refine x_iadd (pc := 1267) dL_law_1267 ?_
  refine x_sld (pc := 1268) hbg hL0 (by omega) dL_law_1268 ?_
  refine x_aload_n (pc := 1269) dL_law_1269 rfl rfl ?_
  refine x_iload_n (pc := 1270) dL_law_1270 rfl ?_
  refine x_iconst (pc := 1271) dL_law_1271 ?_
  refine x_iadd (pc := 1272) dL_law_1272 ?_
  refine x_sld (pc := 1273) hbg hL0 (by omega) dL_law_1273 ?_
  refine x_invokevirtual (pc := 1274) (d' := 9 - 1) (mc' := 0) (ms' := 0) (As := [_, _, _, _, _]) (TX8, 26) cl_L_146 dL_law_1274 rfl rfl (by first | exact h72 | exact hC.1) rfl (by omega) rfl 0 0 (Nat.le_refl 0) (Nat.le_refl 0) ?_
  refine c_X8_note (by omega) hM1 hO zXs_R zXs_R zXs_R zXs_R zXs_R (fun w2 hs2 hM2 => ?_)
  refine x_same (pc := 1277) 1739 dL_law_1277 rfl ?_
  exact k _ w2 (hC1.keep hs2 (by omega)) hM2 (k_note hO)
set_option maxRecDepth 100000 in
set_option maxHeartbeats 4000000 in
theorem law_32 (hbg : b < g.base) (hL0 : L ≤ 384) (hi : 0 ≤ i ∧ i + 6 ≤ (L : Int)) (hC : zCl g w S) (hM : zMo g w S) (hO : zOKS S) (k : ∀ S' w', zCl g w' S' → zMo g w' S' → zOKS S' → zRunsX (zScp b L xs) g 9 mL_law 0 0 1739 [some (.ref b), some (zR g 0), some (zR g 72), some (zI i)] [] w' K) : zRunsX (zScp b L xs) g 9 mL_law 0 0 1282 [some (.ref b), some (zR g 0), some (zR g 72), some (zI i)] [] w K := by
  refine x_aload_n (pc := 1282) dL_law_1282 rfl rfl ?_
  refine x_aload_n (pc := 1283) dL_law_1283 rfl rfl ?_
  refine x_iload_n (pc := 1284) dL_law_1284 rfl ?_
  refine x_iconst (pc := 1285) dL_law_1285 ?_
  refine x_iadd (pc := 1286) dL_law_1286 ?_
  refine x_sld (pc := 1287) hbg hL0 (by omega) dL_law_1287 ?_
  refine x_aload_n (pc := 1288) dL_law_1288 rfl rfl ?_
  refine x_iload_n (pc := 1289) dL_law_1289 rfl ?_
  refine x_iconst (pc := 1290) dL_law_1290 ?_
  refine x_iadd (pc := 1291) dL_law_1291 ?_
  refine x_sld (pc := 1292) hbg hL0 (by omega) dL_law_1292 ?_
  refine x_aload_n (pc := 1293) dL_law_1293 rfl rfl ?_
  refine x_iload_n (pc := 1294) dL_law_1294 rfl ?_
  refine x_iconst (pc := 1295) dL_law_1295 ?_
  refine x_iadd (pc := 1296) dL_law_1296 ?_
  refine x_sld (pc := 1297) hbg hL0 (by omega) dL_law_1297 ?_
  refine x_aload_n (pc := 1298) dL_law_1298 rfl rfl ?_
  refine x_iload_n (pc := 1299) dL_law_1299 rfl ?_
  refine x_iconst (pc := 1300) dL_law_1300 ?_
  refine x_iadd (pc := 1301) dL_law_1301 ?_
  refine x_sld (pc := 1302) hbg hL0 (by omega) dL_law_1302 ?_
  refine x_aload_n (pc := 1303) dL_law_1303 rfl rfl ?_
  refine x_iload_n (pc := 1304) dL_law_1304 rfl ?_
  refine x_iconst (pc := 1305) dL_law_1305 ?_
  refine x_iadd (pc := 1306) dL_law_1306 ?_
  refine x_sld (pc := 1307) hbg hL0 (by omega) dL_law_1307 ?_
  refine x_invokevirtual (pc := 1308) (d' := 9 - 1) (mc' := 0) (ms' := 0) (As := [_, _, _, _, _]) (TX7, 15) cl_L_147 dL_law_1308 rfl rfl (by first | exact h72 | exact hC.1) rfl (by omega) rfl 0 0 (Nat.le_refl 0) (Nat.le_refl 0) ?_
  refine c_X7_flew (by omega) hC hO zXs_R zXs_R zXs_R zXs_R zXs_R (fun w1 hs1 hC1 => ?_)
  have hM1 := hM.keep hs1 (by omega)
  obtain ⟨⟨p0, p1, p2, p3, p4, it, sm, h72⟩, -⟩ := id hM1
  refine x_aload_n (pc := 1311) dL_law_1311 rfl rfl ?_
  refine x_aload_n (pc := 1312) dL_law_1312 rfl rfl ?_
  refine x_iload_n (pc := 1313) dL_law_1313 rfl ?_
  refine x_iconst (pc := 1314) dL_law_1314 ?_
  refine x_iadd (pc := 1315) dL_law_1315 ?_
  refine x_sld (pc := 1316) hbg hL0 (by omega) dL_law_1316 ?_
  refine x_aload_n (pc := 1317) dL_law_1317 rfl rfl ?_
  refine x_iload_n (pc := 1318) dL_law_1318 rfl ?_
  refine x_iconst (pc := 1319) dL_law_1319 ?_
  refine x_iadd (pc := 1320) dL_law_1320 ?_
  refine x_sld (pc := 1321) hbg hL0 (by omega) dL_law_1321 ?_
  refine x_aload_n (pc := 1322) dL_law_1322 rfl rfl ?_
  refine x_iload_n (pc := 1323) dL_law_1323 rfl ?_
  refine x_iconst (pc := 1324) dL_law_1324 ?_
  refine x_iadd (pc := 1325) dL_law_1325 ?_
  refine x_sld (pc := 1326) hbg hL0 (by omega) dL_law_1326 ?_
  refine x_aload_n (pc := 1327) dL_law_1327 rfl rfl ?_
  refine x_iload_n (pc := 1328) dL_law_1328 rfl ?_
  refine x_iconst (pc := 1329) dL_law_1329 ?_
  refine x_iadd (pc := 1330) dL_law_1330 ?_
  refine x_sld (pc := 1331) hbg hL0 (by omega) dL_law_1331 ?_
  refine x_aload_n (pc := 1332) dL_law_1332 rfl rfl ?_
  refine x_iload_n (pc := 1333) dL_law_1333 rfl ?_
  refine x_iconst (pc := 1334) dL_law_1334 ?_
  refine x_iadd (pc := 1335) dL_law_1335 ?_
  refine x_sld (pc := 1336) hbg hL0 (by omega) dL_law_1336 ?_
  refine x_invokevirtual (pc := 1337) (d' := 9 - 1) (mc' := 0) (ms' := 0) (As := [_, _, _, _, _]) (TX8, 26) cl_L_150 dL_law_1337 rfl rfl (by first | exact h72 | exact hC.1) rfl (by omega) rfl 0 0 (Nat.le_refl 0) (Nat.le_refl 0) ?_
  refine c_X8_flew (by omega) hM1 hO zXs_R zXs_R zXs_R zXs_R zXs_R (fun w2 hs2 hM2 => ?_)
  refine x_same (pc := 1340) 1739 dL_law_1340 rfl ?_
  exact k _ w2 (hC1.keep hs2 (by omega)) hM2 (k_flew hO)
set_option maxRecDepth 100000 in
set_option maxHeartbeats 4000000 in
theorem law_33 (hbg : b < g.base) (hL0 : L ≤ 384) (hi : 0 ≤ i ∧ i + 6 ≤ (L : Int)) (hC : zCl g w S) (hM : zMo g w S) (hO : zOKS S) (k : ∀ S' w', zCl g w' S' → zMo g w' S' → zOKS S' → zRunsX (zScp b L xs) g 9 mL_law 0 0 1739 [some (.ref b), some (zR g 0), some (zR g 72), some (zI i)] [] w' K) : zRunsX (zScp b L xs) g 9 mL_law 0 0 1345 [some (.ref b), some (zR g 0), some (zR g 72), some (zI i)] [] w K := by
  refine x_aload_n (pc := 1345) dL_law_1345 rfl rfl ?_
  refine x_aload_n (pc := 1346) dL_law_1346 rfl rfl ?_
  refine x_iload_n (pc := 1347) dL_law_1347 rfl ?_
  refine x_iconst (pc := 1348) dL_law_1348 ?_
  refine x_iadd (pc := 1349) dL_law_1349 ?_
  refine x_sld (pc := 1350) hbg hL0 (by omega) dL_law_1350 ?_
  refine x_invokevirtual (pc := 1351) (d' := 9 - 1) (mc' := 0) (ms' := 0) (As := [_]) (TX7, 15) cl_L_151 dL_law_1351 rfl rfl (by first | exact h72 | exact hC.1) rfl (by omega) rfl 0 0 (Nat.le_refl 0) (Nat.le_refl 0) ?_
  refine c_X7_forget (by omega) hC hO zXs_R (fun w1 hs1 hC1 => ?_)
  have hM1 := hM.keep hs1 (by omega)
  obtain ⟨⟨p0, p1, p2, p3, p4, it, sm, h72⟩, -⟩ := id hM1
  refine x_aload_n (pc := 1354) dL_law_1354 rfl rfl ?_
  refine x_aload_n (pc := 1355) dL_law_1355 rfl rfl ?_
  refine x_iload_n (pc := 1356) dL_law_1356 rfl ?_
  refine x_iconst (pc := 1357) dL_law_1357 ?_
  refine x_iadd (pc := 1358) dL_law_1358 ?_
  refine x_sld (pc := 1359) hbg hL0 (by omega) dL_law_1359 ?_
  refine x_invokevirtual (pc := 1360) (d' := 9 - 1) (mc' := 0) (ms' := 0) (As := [_]) (TX8, 26) cl_L_154 dL_law_1360 rfl rfl (by first | exact h72 | exact hC.1) rfl (by omega) rfl 0 0 (Nat.le_refl 0) (Nat.le_refl 0) ?_
  refine c_X8_forget (by omega) hM1 hO zXs_R (fun w2 hs2 hM2 => ?_)
  refine x_same (pc := 1363) 1739 dL_law_1363 rfl ?_
  exact k _ w2 (hC1.keep hs2 (by omega)) hM2 (k_forget hO)
set_option maxRecDepth 100000 in
set_option maxHeartbeats 4000000 in
theorem law_34 (hbg : b < g.base) (hL0 : L ≤ 384) (hi : 0 ≤ i ∧ i + 6 ≤ (L : Int)) (hC : zCl g w S) (hM : zMo g w S) (hO : zOKS S) (k : ∀ S' w', zCl g w' S' → zMo g w' S' → zOKS S' → zRunsX (zScp b L xs) g 9 mL_law 0 0 1739 [some (.ref b), some (zR g 0), some (zR g 72), some (zI i)] [] w' K) : zRunsX (zScp b L xs) g 9 mL_law 0 0 1368 [some (.ref b), some (zR g 0), some (zR g 72), some (zI i)] [] w K := by
  refine x_aload_n (pc := 1368) dL_law_1368 rfl rfl ?_
  refine x_aload_n (pc := 1369) dL_law_1369 rfl rfl ?_
  refine x_iload_n (pc := 1370) dL_law_1370 rfl ?_
  refine x_iconst (pc := 1371) dL_law_1371 ?_
  refine x_iadd (pc := 1372) dL_law_1372 ?_
  refine x_sld (pc := 1373) hbg hL0 (by omega) dL_law_1373 ?_
  refine x_invokevirtual (pc := 1374) (d' := 9 - 1) (mc' := 0) (ms' := 0) (As := [_]) (TX7, 15) cl_L_155 dL_law_1374 rfl rfl (by first | exact h72 | exact hC.1) rfl (by omega) rfl 0 0 (Nat.le_refl 0) (Nat.le_refl 0) ?_
  refine c_X7_is (by omega) hC hO zXs_R (fun w1 hs1 hC1 => ?_)
  have hM1 := hM.keep hs1 (by omega)
  obtain ⟨⟨p0, p1, p2, p3, p4, it, sm, h72⟩, -⟩ := id hM1
  refine x_aload_n (pc := 1377) dL_law_1377 rfl rfl ?_
  refine x_aload_n (pc := 1378) dL_law_1378 rfl rfl ?_
  refine x_iload_n (pc := 1379) dL_law_1379 rfl ?_
  refine x_iconst (pc := 1380) dL_law_1380 ?_
  refine x_iadd (pc := 1381) dL_law_1381 ?_
  refine x_sld (pc := 1382) hbg hL0 (by omega) dL_law_1382 ?_
  refine x_invokevirtual (pc := 1383) (d' := 9 - 1) (mc' := 0) (ms' := 0) (As := [_]) (TX8, 26) cl_L_158 dL_law_1383 rfl rfl (by first | exact h72 | exact hC.1) rfl (by omega) rfl 0 0 (Nat.le_refl 0) (Nat.le_refl 0) ?_
  refine c_X8_is (by omega) hM1 hO zXs_R (fun w2 hs2 hM2 => ?_)
  refine x_same (pc := 1386) 1739 dL_law_1386 rfl ?_
  exact k _ w2 (hC1.keep hs2 (by omega)) hM2 (k_is hO)
set_option maxRecDepth 100000 in
set_option maxHeartbeats 4000000 in
theorem law_35 (hbg : b < g.base) (hL0 : L ≤ 384) (hi : 0 ≤ i ∧ i + 6 ≤ (L : Int)) (hC : zCl g w S) (hM : zMo g w S) (hO : zOKS S) (k : ∀ S' w', zCl g w' S' → zMo g w' S' → zOKS S' → zRunsX (zScp b L xs) g 9 mL_law 0 0 1739 [some (.ref b), some (zR g 0), some (zR g 72), some (zI i)] [] w' K) : zRunsX (zScp b L xs) g 9 mL_law 0 0 1391 [some (.ref b), some (zR g 0), some (zR g 72), some (zI i)] [] w K := by
  refine x_aload_n (pc := 1391) dL_law_1391 rfl rfl ?_
  refine x_aload_n (pc := 1392) dL_law_1392 rfl rfl ?_
  refine x_iload_n (pc := 1393) dL_law_1393 rfl ?_
  refine x_iconst (pc := 1394) dL_law_1394 ?_
  refine x_iadd (pc := 1395) dL_law_1395 ?_
  refine x_sld (pc := 1396) hbg hL0 (by omega) dL_law_1396 ?_
  refine x_invokevirtual (pc := 1397) (d' := 9 - 1) (mc' := 0) (ms' := 0) (As := [_]) (TX7, 15) cl_L_159 dL_law_1397 rfl rfl (by first | exact h72 | exact hC.1) rfl (by omega) rfl 0 0 (Nat.le_refl 0) (Nat.le_refl 0) ?_
  refine c_X7_watch (by omega) hC hO zXs_R (fun w1 hs1 hC1 => ?_)
  have hM1 := hM.keep hs1 (by omega)
  obtain ⟨⟨p0, p1, p2, p3, p4, it, sm, h72⟩, -⟩ := id hM1
  refine x_aload_n (pc := 1400) dL_law_1400 rfl rfl ?_
  refine x_aload_n (pc := 1401) dL_law_1401 rfl rfl ?_
  refine x_iload_n (pc := 1402) dL_law_1402 rfl ?_
  refine x_iconst (pc := 1403) dL_law_1403 ?_
  refine x_iadd (pc := 1404) dL_law_1404 ?_
  refine x_sld (pc := 1405) hbg hL0 (by omega) dL_law_1405 ?_
  refine x_invokevirtual (pc := 1406) (d' := 9 - 1) (mc' := 0) (ms' := 0) (As := [_]) (TX8, 26) cl_L_162 dL_law_1406 rfl rfl (by first | exact h72 | exact hC.1) rfl (by omega) rfl 0 0 (Nat.le_refl 0) (Nat.le_refl 0) ?_
  refine c_X8_watch (by omega) hM1 hO zXs_R (fun w2 hs2 hM2 => ?_)
  refine x_same (pc := 1409) 1739 dL_law_1409 rfl ?_
  exact k _ w2 (hC1.keep hs2 (by omega)) hM2 (k_watch hO)
set_option maxRecDepth 100000 in
set_option maxHeartbeats 4000000 in
theorem law_36 (hbg : b < g.base) (hL0 : L ≤ 384) (hi : 0 ≤ i ∧ i + 6 ≤ (L : Int)) (hC : zCl g w S) (hM : zMo g w S) (hO : zOKS S) (k : ∀ S' w', zCl g w' S' → zMo g w' S' → zOKS S' → zRunsX (zScp b L xs) g 9 mL_law 0 0 1739 [some (.ref b), some (zR g 0), some (zR g 72), some (zI i)] [] w' K) : zRunsX (zScp b L xs) g 9 mL_law 0 0 1414 [some (.ref b), some (zR g 0), some (zR g 72), some (zI i)] [] w K := by
  refine x_aload_n (pc := 1414) dL_law_1414 rfl rfl ?_
  refine x_aload_n (pc := 1415) dL_law_1415 rfl rfl ?_
  refine x_iload_n (pc := 1416) dL_law_1416 rfl ?_
  refine x_iconst (pc := 1417) dL_law_1417 ?_
  refine x_iadd (pc := 1418) dL_law_1418 ?_
  refine x_sld (pc := 1419) hbg hL0 (by omega) dL_law_1419 ?_
  refine x_invokevirtual (pc := 1420) (d' := 9 - 1) (mc' := 0) (ms' := 0) (As := [_]) (TX7, 15) cl_L_163 dL_law_1420 rfl rfl (by first | exact h72 | exact hC.1) rfl (by omega) rfl 0 0 (Nat.le_refl 0) (Nat.le_refl 0) ?_
  refine c_X7_who (by omega) hC hO zXs_R (fun w1 hs1 hC1 => ?_)
  have hM1 := hM.keep hs1 (by omega)
  obtain ⟨⟨p0, p1, p2, p3, p4, it, sm, h72⟩, -⟩ := id hM1
  refine x_aload_n (pc := 1423) dL_law_1423 rfl rfl ?_
  refine x_aload_n (pc := 1424) dL_law_1424 rfl rfl ?_
  refine x_iload_n (pc := 1425) dL_law_1425 rfl ?_
  refine x_iconst (pc := 1426) dL_law_1426 ?_
  refine x_iadd (pc := 1427) dL_law_1427 ?_
  refine x_sld (pc := 1428) hbg hL0 (by omega) dL_law_1428 ?_
  refine x_invokevirtual (pc := 1429) (d' := 9 - 1) (mc' := 0) (ms' := 0) (As := [_]) (TX8, 26) cl_L_166 dL_law_1429 rfl rfl (by first | exact h72 | exact hC.1) rfl (by omega) rfl 0 0 (Nat.le_refl 0) (Nat.le_refl 0) ?_
  refine c_X8_who (by omega) hM1 hO zXs_R (fun w2 hs2 hM2 => ?_)
  refine x_same (pc := 1432) 1739 dL_law_1432 rfl ?_
  exact k _ w2 (hC1.keep hs2 (by omega)) hM2 (k_who hO)
set_option maxRecDepth 100000 in
set_option maxHeartbeats 4000000 in
theorem law_37 (hbg : b < g.base) (hL0 : L ≤ 384) (hi : 0 ≤ i ∧ i + 6 ≤ (L : Int)) (hC : zCl g w S) (hM : zMo g w S) (hO : zOKS S) (k : ∀ S' w', zCl g w' S' → zMo g w' S' → zOKS S' → zRunsX (zScp b L xs) g 9 mL_law 0 0 1739 [some (.ref b), some (zR g 0), some (zR g 72), some (zI i)] [] w' K) : zRunsX (zScp b L xs) g 9 mL_law 0 0 1437 [some (.ref b), some (zR g 0), some (zR g 72), some (zI i)] [] w K := by
  refine x_aload_n (pc := 1437) dL_law_1437 rfl rfl ?_
  refine x_aload_n (pc := 1438) dL_law_1438 rfl rfl ?_
  refine x_iload_n (pc := 1439) dL_law_1439 rfl ?_
  refine x_iconst (pc := 1440) dL_law_1440 ?_
  refine x_iadd (pc := 1441) dL_law_1441 ?_
  refine x_sld (pc := 1442) hbg hL0 (by omega) dL_law_1442 ?_
  refine x_invokevirtual (pc := 1443) (d' := 9 - 1) (mc' := 0) (ms' := 0) (As := [_]) (TX7, 15) cl_L_167 dL_law_1443 rfl rfl (by first | exact h72 | exact hC.1) rfl (by omega) rfl 0 0 (Nat.le_refl 0) (Nat.le_refl 0) ?_
  refine c_X7_ask (by omega) hC hO zXs_R (fun w1 hs1 hC1 => ?_)
  have hM1 := hM.keep hs1 (by omega)
  obtain ⟨⟨p0, p1, p2, p3, p4, it, sm, h72⟩, -⟩ := id hM1
  refine x_aload_n (pc := 1446) dL_law_1446 rfl rfl ?_
  refine x_aload_n (pc := 1447) dL_law_1447 rfl rfl ?_
  refine x_iload_n (pc := 1448) dL_law_1448 rfl ?_
  refine x_iconst (pc := 1449) dL_law_1449 ?_
  refine x_iadd (pc := 1450) dL_law_1450 ?_
  refine x_sld (pc := 1451) hbg hL0 (by omega) dL_law_1451 ?_
  refine x_invokevirtual (pc := 1452) (d' := 9 - 1) (mc' := 0) (ms' := 0) (As := [_]) (TX8, 26) cl_L_170 dL_law_1452 rfl rfl (by first | exact h72 | exact hC.1) rfl (by omega) rfl 0 0 (Nat.le_refl 0) (Nat.le_refl 0) ?_
  refine c_X8_ask (by omega) hM1 hO zXs_R (fun w2 hs2 hM2 => ?_)
  refine x_same (pc := 1455) 1739 dL_law_1455 rfl ?_
  exact k _ w2 (hC1.keep hs2 (by omega)) hM2 (k_ask hO)
set_option maxRecDepth 100000 in
set_option maxHeartbeats 4000000 in
theorem law_38 (hbg : b < g.base) (hL0 : L ≤ 384) (hi : 0 ≤ i ∧ i + 6 ≤ (L : Int)) (hC : zCl g w S) (hM : zMo g w S) (hO : zOKS S) (k : ∀ S' w', zCl g w' S' → zMo g w' S' → zOKS S' → zRunsX (zScp b L xs) g 9 mL_law 0 0 1739 [some (.ref b), some (zR g 0), some (zR g 72), some (zI i)] [] w' K) : zRunsX (zScp b L xs) g 9 mL_law 0 0 1460 [some (.ref b), some (zR g 0), some (zR g 72), some (zI i)] [] w K := by
  refine x_aload_n (pc := 1460) dL_law_1460 rfl rfl ?_
  refine x_aload_n (pc := 1461) dL_law_1461 rfl rfl ?_
  refine x_iload_n (pc := 1462) dL_law_1462 rfl ?_
  refine x_iconst (pc := 1463) dL_law_1463 ?_
  refine x_iadd (pc := 1464) dL_law_1464 ?_
  refine x_sld (pc := 1465) hbg hL0 (by omega) dL_law_1465 ?_
  refine x_aload_n (pc := 1466) dL_law_1466 rfl rfl ?_
  refine x_iload_n (pc := 1467) dL_law_1467 rfl ?_
  refine x_iconst (pc := 1468) dL_law_1468 ?_
  refine x_iadd (pc := 1469) dL_law_1469 ?_
  refine x_sld (pc := 1470) hbg hL0 (by omega) dL_law_1470 ?_
  refine x_aload_n (pc := 1471) dL_law_1471 rfl rfl ?_
  refine x_iload_n (pc := 1472) dL_law_1472 rfl ?_
  refine x_iconst (pc := 1473) dL_law_1473 ?_
  refine x_iadd (pc := 1474) dL_law_1474 ?_
  refine x_sld (pc := 1475) hbg hL0 (by omega) dL_law_1475 ?_
  refine x_aload_n (pc := 1476) dL_law_1476 rfl rfl ?_
  refine x_iload_n (pc := 1477) dL_law_1477 rfl ?_
  refine x_iconst (pc := 1478) dL_law_1478 ?_
  refine x_iadd (pc := 1479) dL_law_1479 ?_
  refine x_sld (pc := 1480) hbg hL0 (by omega) dL_law_1480 ?_
  refine x_invokevirtual (pc := 1481) (d' := 9 - 1) (mc' := 0) (ms' := 0) (As := [_, _, _, _]) (TX7, 15) cl_L_171 dL_law_1481 rfl rfl (by first | exact h72 | exact hC.1) rfl (by omega) rfl 0 0 (Nat.le_refl 0) (Nat.le_refl 0) ?_
  refine c_X7_parishes (by omega) hC hO zXs_R zXs_R zXs_R zXs_R (fun w1 hs1 hC1 => ?_)
  have hM1 := hM.keep hs1 (by omega)
  obtain ⟨⟨p0, p1, p2, p3, p4, it, sm, h72⟩, -⟩ := id hM1
  refine x_aload_n (pc := 1484) dL_law_1484 rfl rfl ?_
  refine x_aload_n (pc := 1485) dL_law_1485 rfl rfl ?_
  refine x_iload_n (pc := 1486) dL_law_1486 rfl ?_
  refine x_iconst (pc := 1487) dL_law_1487 ?_
  refine x_iadd (pc := 1488) dL_law_1488 ?_
  refine x_sld (pc := 1489) hbg hL0 (by omega) dL_law_1489 ?_
  refine x_aload_n (pc := 1490) dL_law_1490 rfl rfl ?_
  refine x_iload_n (pc := 1491) dL_law_1491 rfl ?_
  refine x_iconst (pc := 1492) dL_law_1492 ?_
  refine x_iadd (pc := 1493) dL_law_1493 ?_
  refine x_sld (pc := 1494) hbg hL0 (by omega) dL_law_1494 ?_
  refine x_aload_n (pc := 1495) dL_law_1495 rfl rfl ?_
  refine x_iload_n (pc := 1496) dL_law_1496 rfl ?_
  refine x_iconst (pc := 1497) dL_law_1497 ?_
  refine x_iadd (pc := 1498) dL_law_1498 ?_
  refine x_sld (pc := 1499) hbg hL0 (by omega) dL_law_1499 ?_
  refine x_aload_n (pc := 1500) dL_law_1500 rfl rfl ?_
  refine x_iload_n (pc := 1501) dL_law_1501 rfl ?_
  refine x_iconst (pc := 1502) dL_law_1502 ?_
  refine x_iadd (pc := 1503) dL_law_1503 ?_
  refine x_sld (pc := 1504) hbg hL0 (by omega) dL_law_1504 ?_
  refine x_invokevirtual (pc := 1505) (d' := 9 - 1) (mc' := 0) (ms' := 0) (As := [_, _, _, _]) (TX8, 26) cl_L_174 dL_law_1505 rfl rfl (by first | exact h72 | exact hC.1) rfl (by omega) rfl 0 0 (Nat.le_refl 0) (Nat.le_refl 0) ?_
  refine c_X8_parishes (by omega) hM1 hO zXs_R zXs_R zXs_R zXs_R (fun w2 hs2 hM2 => ?_)
  refine x_same (pc := 1508) 1739 dL_law_1508 rfl ?_
  exact k _ w2 (hC1.keep hs2 (by omega)) hM2 (k_parishes hO)
set_option maxRecDepth 100000 in
set_option maxHeartbeats 4000000 in
theorem law_39 (hbg : b < g.base) (hL0 : L ≤ 384) (hi : 0 ≤ i ∧ i + 6 ≤ (L : Int)) (hC : zCl g w S) (hM : zMo g w S) (hO : zOKS S) (k : ∀ S' w', zCl g w' S' → zMo g w' S' → zOKS S' → zRunsX (zScp b L xs) g 9 mL_law 0 0 1739 [some (.ref b), some (zR g 0), some (zR g 72), some (zI i)] [] w' K) : zRunsX (zScp b L xs) g 9 mL_law 0 0 1513 [some (.ref b), some (zR g 0), some (zR g 72), some (zI i)] [] w K := by
  refine x_aload_n (pc := 1513) dL_law_1513 rfl rfl ?_
  refine x_aload_n (pc := 1514) dL_law_1514 rfl rfl ?_
  refine x_iload_n (pc := 1515) dL_law_1515 rfl ?_
  refine x_iconst (pc := 1516) dL_law_1516 ?_
  refine x_iadd (pc := 1517) dL_law_1517 ?_
  refine x_sld (pc := 1518) hbg hL0 (by omega) dL_law_1518 ?_
  refine x_aload_n (pc := 1519) dL_law_1519 rfl rfl ?_
  refine x_iload_n (pc := 1520) dL_law_1520 rfl ?_
  refine x_iconst (pc := 1521) dL_law_1521 ?_
  refine x_iadd (pc := 1522) dL_law_1522 ?_
  refine x_sld (pc := 1523) hbg hL0 (by omega) dL_law_1523 ?_
  refine x_aload_n (pc := 1524) dL_law_1524 rfl rfl ?_
  refine x_iload_n (pc := 1525) dL_law_1525 rfl ?_
  refine x_iconst (pc := 1526) dL_law_1526 ?_
  refine x_iadd (pc := 1527) dL_law_1527 ?_
  refine x_sld (pc := 1528) hbg hL0 (by omega) dL_law_1528 ?_
  refine x_aload_n (pc := 1529) dL_law_1529 rfl rfl ?_
  refine x_iload_n (pc := 1530) dL_law_1530 rfl ?_
  refine x_iconst (pc := 1531) dL_law_1531 ?_
  refine x_iadd (pc := 1532) dL_law_1532 ?_
  refine x_sld (pc := 1533) hbg hL0 (by omega) dL_law_1533 ?_
  refine x_aload_n (pc := 1534) dL_law_1534 rfl rfl ?_
  refine x_iload_n (pc := 1535) dL_law_1535 rfl ?_
  refine x_iconst (pc := 1536) dL_law_1536 ?_
  refine x_iadd (pc := 1537) dL_law_1537 ?_
  refine x_sld (pc := 1538) hbg hL0 (by omega) dL_law_1538 ?_
  refine x_invokevirtual (pc := 1539) (d' := 9 - 1) (mc' := 0) (ms' := 0) (As := [_, _, _, _, _]) (TX7, 15) cl_L_175 dL_law_1539 rfl rfl (by first | exact h72 | exact hC.1) rfl (by omega) rfl 0 0 (Nat.le_refl 0) (Nat.le_refl 0) ?_
  refine c_X7_gusts (by omega) hC hO zXs_R zXs_R zXs_R zXs_R zXs_R (fun w1 hs1 hC1 => ?_)
  have hM1 := hM.keep hs1 (by omega)
  obtain ⟨⟨p0, p1, p2, p3, p4, it, sm, h72⟩, -⟩ := id hM1
  refine x_aload_n (pc := 1542) dL_law_1542 rfl rfl ?_
  refine x_aload_n (pc := 1543) dL_law_1543 rfl rfl ?_
  refine x_iload_n (pc := 1544) dL_law_1544 rfl ?_
  refine x_iconst (pc := 1545) dL_law_1545 ?_
  refine x_iadd (pc := 1546) dL_law_1546 ?_
  refine x_sld (pc := 1547) hbg hL0 (by omega) dL_law_1547 ?_
  refine x_aload_n (pc := 1548) dL_law_1548 rfl rfl ?_
  refine x_iload_n (pc := 1549) dL_law_1549 rfl ?_
  refine x_iconst (pc := 1550) dL_law_1550 ?_
  refine x_iadd (pc := 1551) dL_law_1551 ?_
  refine x_sld (pc := 1552) hbg hL0 (by omega) dL_law_1552 ?_
  refine x_aload_n (pc := 1553) dL_law_1553 rfl rfl ?_
  refine x_iload_n (pc := 1554) dL_law_1554 rfl ?_
  refine x_iconst (pc := 1555) dL_law_1555 ?_
  refine x_iadd (pc := 1556) dL_law_1556 ?_
  refine x_sld (pc := 1557) hbg hL0 (by omega) dL_law_1557 ?_
  refine x_aload_n (pc := 1558) dL_law_1558 rfl rfl ?_
  refine x_iload_n (pc := 1559) dL_law_1559 rfl ?_
  refine x_iconst (pc := 1560) dL_law_1560 ?_
  refine x_iadd (pc := 1561) dL_law_1561 ?_
  refine x_sld (pc := 1562) hbg hL0 (by omega) dL_law_1562 ?_
  refine x_aload_n (pc := 1563) dL_law_1563 rfl rfl ?_
  refine x_iload_n (pc := 1564) dL_law_1564 rfl ?_
  refine x_iconst (pc := 1565) dL_law_1565 ?_
  refine x_iadd (pc := 1566) dL_law_1566 ?_
  refine x_sld (pc := 1567) hbg hL0 (by omega) dL_law_1567 ?_
  refine x_invokevirtual (pc := 1568) (d' := 9 - 1) (mc' := 0) (ms' := 0) (As := [_, _, _, _, _]) (TX8, 26) cl_L_178 dL_law_1568 rfl rfl (by first | exact h72 | exact hC.1) rfl (by omega) rfl 0 0 (Nat.le_refl 0) (Nat.le_refl 0) ?_
  refine c_X8_gusts (by omega) hM1 hO zXs_R zXs_R zXs_R zXs_R zXs_R (fun w2 hs2 hM2 => ?_)
  refine x_same (pc := 1571) 1739 dL_law_1571 rfl ?_
  exact k _ w2 (hC1.keep hs2 (by omega)) hM2 (k_gusts hO)
set_option maxRecDepth 100000 in
set_option maxHeartbeats 4000000 in
theorem law_40 (hbg : b < g.base) (hL0 : L ≤ 384) (hi : 0 ≤ i ∧ i + 6 ≤ (L : Int)) (hC : zCl g w S) (hM : zMo g w S) (hO : zOKS S) (k : ∀ S' w', zCl g w' S' → zMo g w' S' → zOKS S' → zRunsX (zScp b L xs) g 9 mL_law 0 0 1739 [some (.ref b), some (zR g 0), some (zR g 72), some (zI i)] [] w' K) : zRunsX (zScp b L xs) g 9 mL_law 0 0 1576 [some (.ref b), some (zR g 0), some (zR g 72), some (zI i)] [] w K := by
  refine x_aload_n (pc := 1576) dL_law_1576 rfl rfl ?_
  refine x_aload_n (pc := 1577) dL_law_1577 rfl rfl ?_
  refine x_iload_n (pc := 1578) dL_law_1578 rfl ?_
  refine x_iconst (pc := 1579) dL_law_1579 ?_
  refine x_iadd (pc := 1580) dL_law_1580 ?_
  refine x_sld (pc := 1581) hbg hL0 (by omega) dL_law_1581 ?_
  refine x_aload_n (pc := 1582) dL_law_1582 rfl rfl ?_
  refine x_iload_n (pc := 1583) dL_law_1583 rfl ?_
  refine x_iconst (pc := 1584) dL_law_1584 ?_
  refine x_iadd (pc := 1585) dL_law_1585 ?_
  refine x_sld (pc := 1586) hbg hL0 (by omega) dL_law_1586 ?_
  refine x_invokevirtual (pc := 1587) (d' := 9 - 1) (mc' := 0) (ms' := 0) (As := [_, _]) (TX7, 15) cl_L_179 dL_law_1587 rfl rfl (by first | exact h72 | exact hC.1) rfl (by omega) rfl 0 0 (Nat.le_refl 0) (Nat.le_refl 0) ?_
  refine c_X7_summers (by omega) hC hO zXs_R zXs_R (fun w1 hs1 hC1 => ?_)
  have hM1 := hM.keep hs1 (by omega)
  obtain ⟨⟨p0, p1, p2, p3, p4, it, sm, h72⟩, -⟩ := id hM1
  refine x_aload_n (pc := 1590) dL_law_1590 rfl rfl ?_
  refine x_aload_n (pc := 1591) dL_law_1591 rfl rfl ?_
  refine x_iload_n (pc := 1592) dL_law_1592 rfl ?_
  refine x_iconst (pc := 1593) dL_law_1593 ?_
  refine x_iadd (pc := 1594) dL_law_1594 ?_
  refine x_sld (pc := 1595) hbg hL0 (by omega) dL_law_1595 ?_
  refine x_aload_n (pc := 1596) dL_law_1596 rfl rfl ?_
  refine x_iload_n (pc := 1597) dL_law_1597 rfl ?_
  refine x_iconst (pc := 1598) dL_law_1598 ?_
  refine x_iadd (pc := 1599) dL_law_1599 ?_
  refine x_sld (pc := 1600) hbg hL0 (by omega) dL_law_1600 ?_
  refine x_invokevirtual (pc := 1601) (d' := 9 - 1) (mc' := 0) (ms' := 0) (As := [_, _]) (TX8, 26) cl_L_182 dL_law_1601 rfl rfl (by first | exact h72 | exact hC.1) rfl (by omega) rfl 0 0 (Nat.le_refl 0) (Nat.le_refl 0) ?_
  refine c_X8_summers (by omega) hM1 hO zXs_R zXs_R (fun w2 hs2 hM2 => ?_)
  refine x_same (pc := 1604) 1739 dL_law_1604 rfl ?_
  exact k _ w2 (hC1.keep hs2 (by omega)) hM2 (k_summers hO)
set_option maxRecDepth 100000 in
set_option maxHeartbeats 4000000 in
theorem law_41 (hbg : b < g.base) (hL0 : L ≤ 384) (hi : 0 ≤ i ∧ i + 6 ≤ (L : Int)) (hC : zCl g w S) (hM : zMo g w S) (hO : zOKS S) (k : ∀ S' w', zCl g w' S' → zMo g w' S' → zOKS S' → zRunsX (zScp b L xs) g 9 mL_law 0 0 1739 [some (.ref b), some (zR g 0), some (zR g 72), some (zI i)] [] w' K) : zRunsX (zScp b L xs) g 9 mL_law 0 0 1609 [some (.ref b), some (zR g 0), some (zR g 72), some (zI i)] [] w K := by
  refine x_aload_n (pc := 1609) dL_law_1609 rfl rfl ?_
  refine x_aload_n (pc := 1610) dL_law_1610 rfl rfl ?_
  refine x_iload_n (pc := 1611) dL_law_1611 rfl ?_
  refine x_iconst (pc := 1612) dL_law_1612 ?_
  refine x_iadd (pc := 1613) dL_law_1613 ?_
  refine x_sld (pc := 1614) hbg hL0 (by omega) dL_law_1614 ?_
  refine x_invokevirtual (pc := 1615) (d' := 9 - 1) (mc' := 0) (ms' := 0) (As := [_]) (TX7, 15) cl_L_183 dL_law_1615 rfl rfl (by first | exact h72 | exact hC.1) rfl (by omega) rfl 0 0 (Nat.le_refl 0) (Nat.le_refl 0) ?_
  refine c_X7_part (by omega) hC hO zXs_R (fun w1 hs1 hC1 => ?_)
  have hM1 := hM.keep hs1 (by omega)
  obtain ⟨⟨p0, p1, p2, p3, p4, it, sm, h72⟩, -⟩ := id hM1
  refine x_aload_n (pc := 1618) dL_law_1618 rfl rfl ?_
  refine x_aload_n (pc := 1619) dL_law_1619 rfl rfl ?_
  refine x_iload_n (pc := 1620) dL_law_1620 rfl ?_
  refine x_iconst (pc := 1621) dL_law_1621 ?_
  refine x_iadd (pc := 1622) dL_law_1622 ?_
  refine x_sld (pc := 1623) hbg hL0 (by omega) dL_law_1623 ?_
  refine x_invokevirtual (pc := 1624) (d' := 9 - 1) (mc' := 0) (ms' := 0) (As := [_]) (TX8, 26) cl_L_187 dL_law_1624 rfl rfl (by first | exact h72 | exact hC.1) rfl (by omega) rfl 0 0 (Nat.le_refl 0) (Nat.le_refl 0) ?_
  refine c_X8_part (by omega) hM1 hO zXs_R (fun w2 hs2 hM2 => ?_)
  refine x_lsame (pc := 1627) dL_law_1627 ?_
  refine x_if0 (pc := 1628) 1739 dL_law_1628 rfl ?_
  exact k _ w2 (hC1.keep hs2 (by omega)) hM2 (k_part hO)
set_option maxRecDepth 100000 in
set_option maxHeartbeats 4000000 in
theorem law_42 (hbg : b < g.base) (hL0 : L ≤ 384) (hi : 0 ≤ i ∧ i + 6 ≤ (L : Int)) (hC : zCl g w S) (hM : zMo g w S) (hO : zOKS S) (k : ∀ S' w', zCl g w' S' → zMo g w' S' → zOKS S' → zRunsX (zScp b L xs) g 9 mL_law 0 0 1739 [some (.ref b), some (zR g 0), some (zR g 72), some (zI i)] [] w' K) : zRunsX (zScp b L xs) g 9 mL_law 0 0 1633 [some (.ref b), some (zR g 0), some (zR g 72), some (zI i)] [] w K := by
  refine x_aload_n (pc := 1633) dL_law_1633 rfl rfl ?_
  refine x_aload_n (pc := 1634) dL_law_1634 rfl rfl ?_
  refine x_iload_n (pc := 1635) dL_law_1635 rfl ?_
  refine x_iconst (pc := 1636) dL_law_1636 ?_
  refine x_iadd (pc := 1637) dL_law_1637 ?_
  refine x_sld (pc := 1638) hbg hL0 (by omega) dL_law_1638 ?_
  refine x_invokevirtual (pc := 1639) (d' := 9 - 1) (mc' := 0) (ms' := 0) (As := [_]) (TX7, 15) cl_L_188 dL_law_1639 rfl rfl (by first | exact h72 | exact hC.1) rfl (by omega) rfl 0 0 (Nat.le_refl 0) (Nat.le_refl 0) ?_
  refine c_X7_image (by omega) hC hO zXs_R (fun w1 hs1 hC1 => ?_)
  have hM1 := hM.keep hs1 (by omega)
  obtain ⟨⟨p0, p1, p2, p3, p4, it, sm, h72⟩, -⟩ := id hM1
  refine x_aload_n (pc := 1642) dL_law_1642 rfl rfl ?_
  refine x_aload_n (pc := 1643) dL_law_1643 rfl rfl ?_
  refine x_iload_n (pc := 1644) dL_law_1644 rfl ?_
  refine x_iconst (pc := 1645) dL_law_1645 ?_
  refine x_iadd (pc := 1646) dL_law_1646 ?_
  refine x_sld (pc := 1647) hbg hL0 (by omega) dL_law_1647 ?_
  refine x_invokevirtual (pc := 1648) (d' := 9 - 1) (mc' := 0) (ms' := 0) (As := [_]) (TX8, 26) cl_L_191 dL_law_1648 rfl rfl (by first | exact h72 | exact hC.1) rfl (by omega) rfl 0 0 (Nat.le_refl 0) (Nat.le_refl 0) ?_
  refine c_X8_image (by omega) hM1 hO zXs_R (fun w2 hs2 hM2 => ?_)
  refine x_same (pc := 1651) 1739 dL_law_1651 rfl ?_
  exact k _ w2 (hC1.keep hs2 (by omega)) hM2 (k_image hO)
set_option maxRecDepth 100000 in
set_option maxHeartbeats 4000000 in
theorem law_43 (hbg : b < g.base) (hL0 : L ≤ 384) (hi : 0 ≤ i ∧ i + 6 ≤ (L : Int)) (hC : zCl g w S) (hM : zMo g w S) (hO : zOKS S) (k : ∀ S' w', zCl g w' S' → zMo g w' S' → zOKS S' → zRunsX (zScp b L xs) g 9 mL_law 0 0 1739 [some (.ref b), some (zR g 0), some (zR g 72), some (zI i)] [] w' K) : zRunsX (zScp b L xs) g 9 mL_law 0 0 1656 [some (.ref b), some (zR g 0), some (zR g 72), some (zI i)] [] w K := by
  refine x_aload_n (pc := 1656) dL_law_1656 rfl rfl ?_
  refine x_aload_n (pc := 1657) dL_law_1657 rfl rfl ?_
  refine x_iload_n (pc := 1658) dL_law_1658 rfl ?_
  refine x_iconst (pc := 1659) dL_law_1659 ?_
  refine x_iadd (pc := 1660) dL_law_1660 ?_
  refine x_sld (pc := 1661) hbg hL0 (by omega) dL_law_1661 ?_
  refine x_invokevirtual (pc := 1662) (d' := 9 - 1) (mc' := 0) (ms' := 0) (As := [_]) (TX7, 15) cl_L_192 dL_law_1662 rfl rfl (by first | exact h72 | exact hC.1) rfl (by omega) rfl 0 0 (Nat.le_refl 0) (Nat.le_refl 0) ?_
  refine c_X7_from (by omega) hC hO zXs_R (fun w1 hs1 hC1 => ?_)
  have hM1 := hM.keep hs1 (by omega)
  obtain ⟨⟨p0, p1, p2, p3, p4, it, sm, h72⟩, -⟩ := id hM1
  refine x_aload_n (pc := 1665) dL_law_1665 rfl rfl ?_
  refine x_aload_n (pc := 1666) dL_law_1666 rfl rfl ?_
  refine x_iload_n (pc := 1667) dL_law_1667 rfl ?_
  refine x_iconst (pc := 1668) dL_law_1668 ?_
  refine x_iadd (pc := 1669) dL_law_1669 ?_
  refine x_sld (pc := 1670) hbg hL0 (by omega) dL_law_1670 ?_
  refine x_invokevirtual (pc := 1671) (d' := 9 - 1) (mc' := 0) (ms' := 0) (As := [_]) (TX8, 26) cl_L_195 dL_law_1671 rfl rfl (by first | exact h72 | exact hC.1) rfl (by omega) rfl 0 0 (Nat.le_refl 0) (Nat.le_refl 0) ?_
  refine c_X8_from (by omega) hM1 hO zXs_R (fun w2 hs2 hM2 => ?_)
  refine x_same (pc := 1674) 1739 dL_law_1674 rfl ?_
  exact k _ w2 (hC1.keep hs2 (by omega)) hM2 (k_from hO)
set_option maxRecDepth 100000 in
set_option maxHeartbeats 4000000 in
theorem law_44 (hbg : b < g.base) (hL0 : L ≤ 384) (hi : 0 ≤ i ∧ i + 6 ≤ (L : Int)) (hC : zCl g w S) (hM : zMo g w S) (hO : zOKS S) (k : ∀ S' w', zCl g w' S' → zMo g w' S' → zOKS S' → zRunsX (zScp b L xs) g 9 mL_law 0 0 1739 [some (.ref b), some (zR g 0), some (zR g 72), some (zI i)] [] w' K) : zRunsX (zScp b L xs) g 9 mL_law 0 0 1679 [some (.ref b), some (zR g 0), some (zR g 72), some (zI i)] [] w K := by
  refine x_aload_n (pc := 1679) dL_law_1679 rfl rfl ?_
  refine x_aload_n (pc := 1680) dL_law_1680 rfl rfl ?_
  refine x_iload_n (pc := 1681) dL_law_1681 rfl ?_
  refine x_iconst (pc := 1682) dL_law_1682 ?_
  refine x_iadd (pc := 1683) dL_law_1683 ?_
  refine x_sld (pc := 1684) hbg hL0 (by omega) dL_law_1684 ?_
  refine x_invokevirtual (pc := 1685) (d' := 9 - 1) (mc' := 0) (ms' := 0) (As := [_]) (TX7, 15) cl_L_196 dL_law_1685 rfl rfl (by first | exact h72 | exact hC.1) rfl (by omega) rfl 0 0 (Nat.le_refl 0) (Nat.le_refl 0) ?_
  refine c_X7_status (by omega) hC hO zXs_R (fun w1 hs1 hC1 => ?_)
  have hM1 := hM.keep hs1 (by omega)
  obtain ⟨⟨p0, p1, p2, p3, p4, it, sm, h72⟩, -⟩ := id hM1
  refine x_aload_n (pc := 1688) dL_law_1688 rfl rfl ?_
  refine x_aload_n (pc := 1689) dL_law_1689 rfl rfl ?_
  refine x_iload_n (pc := 1690) dL_law_1690 rfl ?_
  refine x_iconst (pc := 1691) dL_law_1691 ?_
  refine x_iadd (pc := 1692) dL_law_1692 ?_
  refine x_sld (pc := 1693) hbg hL0 (by omega) dL_law_1693 ?_
  refine x_invokevirtual (pc := 1694) (d' := 9 - 1) (mc' := 0) (ms' := 0) (As := [_]) (TX8, 26) cl_L_199 dL_law_1694 rfl rfl (by first | exact h72 | exact hC.1) rfl (by omega) rfl 0 0 (Nat.le_refl 0) (Nat.le_refl 0) ?_
  refine c_X8_status (by omega) hM1 hO zXs_R (fun w2 hs2 hM2 => ?_)
  refine x_same (pc := 1697) 1739 dL_law_1697 rfl ?_
  exact k _ w2 (hC1.keep hs2 (by omega)) hM2 (k_status hO)
set_option maxRecDepth 100000 in
set_option maxHeartbeats 4000000 in
theorem law_45 (hbg : b < g.base) (hL0 : L ≤ 384) (hi : 0 ≤ i ∧ i + 6 ≤ (L : Int)) (hC : zCl g w S) (hM : zMo g w S) (hO : zOKS S) (k : ∀ S' w', zCl g w' S' → zMo g w' S' → zOKS S' → zRunsX (zScp b L xs) g 9 mL_law 0 0 1739 [some (.ref b), some (zR g 0), some (zR g 72), some (zI i)] [] w' K) : zRunsX (zScp b L xs) g 9 mL_law 0 0 1702 [some (.ref b), some (zR g 0), some (zR g 72), some (zI i)] [] w K := by
  refine x_aload_n (pc := 1702) dL_law_1702 rfl rfl ?_
  refine x_aload_n (pc := 1703) dL_law_1703 rfl rfl ?_
  refine x_iload_n (pc := 1704) dL_law_1704 rfl ?_
  refine x_iconst (pc := 1705) dL_law_1705 ?_
  refine x_iadd (pc := 1706) dL_law_1706 ?_
  refine x_sld (pc := 1707) hbg hL0 (by omega) dL_law_1707 ?_
  refine x_invokevirtual (pc := 1708) (d' := 9 - 1) (mc' := 0) (ms' := 0) (As := [_]) (TX7, 15) cl_L_200 dL_law_1708 rfl rfl (by first | exact h72 | exact hC.1) rfl (by omega) rfl 0 0 (Nat.le_refl 0) (Nat.le_refl 0) ?_
  refine c_X7_count (by omega) hC hO zXs_R (fun w1 hs1 hC1 => ?_)
  have hM1 := hM.keep hs1 (by omega)
  obtain ⟨⟨p0, p1, p2, p3, p4, it, sm, h72⟩, -⟩ := id hM1
  refine x_aload_n (pc := 1711) dL_law_1711 rfl rfl ?_
  refine x_aload_n (pc := 1712) dL_law_1712 rfl rfl ?_
  refine x_iload_n (pc := 1713) dL_law_1713 rfl ?_
  refine x_iconst (pc := 1714) dL_law_1714 ?_
  refine x_iadd (pc := 1715) dL_law_1715 ?_
  refine x_sld (pc := 1716) hbg hL0 (by omega) dL_law_1716 ?_
  refine x_invokevirtual (pc := 1717) (d' := 9 - 1) (mc' := 0) (ms' := 0) (As := [_]) (TX8, 26) cl_L_203 dL_law_1717 rfl rfl (by first | exact h72 | exact hC.1) rfl (by omega) rfl 0 0 (Nat.le_refl 0) (Nat.le_refl 0) ?_
  refine c_X8_count (by omega) hM1 hO zXs_R (fun w2 hs2 hM2 => ?_)
  refine x_same (pc := 1720) 1739 dL_law_1720 rfl ?_
  exact k _ w2 (hC1.keep hs2 (by omega)) hM2 (k_count hO)
set_option maxRecDepth 100000 in
set_option maxHeartbeats 4000000 in
theorem law_46 (hbg : b < g.base) (hL0 : L ≤ 384) (hi : 0 ≤ i ∧ i + 6 ≤ (L : Int)) (hC : zCl g w S) (hM : zMo g w S) (hO : zOKS S) (k : ∀ S' w', zCl g w' S' → zMo g w' S' → zOKS S' → zRunsX (zScp b L xs) g 9 mL_law 0 0 1739 [some (.ref b), some (zR g 0), some (zR g 72), some (zI i)] [] w' K) : zRunsX (zScp b L xs) g 9 mL_law 0 0 1725 [some (.ref b), some (zR g 0), some (zR g 72), some (zI i)] [] w K := by
  refine x_aload_n (pc := 1725) dL_law_1725 rfl rfl ?_
  refine x_invokevirtual (pc := 1726) (d' := 9 - 1) (mc' := 0) (ms' := 0) (As := []) (TX7, 15) cl_L_204 dL_law_1726 rfl rfl (by first | exact h72 | exact hC.1) rfl (by omega) rfl 0 0 (Nat.le_refl 0) (Nat.le_refl 0) ?_
  refine c_X7_digest (by omega) hC hO (fun w1 hs1 hC1 => ?_)
  have hM1 := hM.keep hs1 (by omega)
  obtain ⟨⟨p0, p1, p2, p3, p4, it, sm, h72⟩, -⟩ := id hM1
  refine x_aload_n (pc := 1729) dL_law_1729 rfl rfl ?_
  refine x_invokevirtual (pc := 1730) (d' := 9 - 1) (mc' := 0) (ms' := 0) (As := []) (TX8, 26) cl_L_208 dL_law_1730 rfl rfl (by first | exact h72 | exact hC.1) rfl (by omega) rfl 0 0 (Nat.le_refl 0) (Nat.le_refl 0) ?_
  refine c_X8_digest (by omega) hM1 hO (fun w2 hs2 hM2 => ?_)
  refine x_lsame (pc := 1733) dL_law_1733 ?_
  refine x_if0 (pc := 1734) 1739 dL_law_1734 rfl ?_
  exact k _ w2 (hC1.keep hs2 (by omega)) hM2 (k_digest hO)
set_option maxRecDepth 100000 in
set_option maxHeartbeats 8000000 in
theorem law_loop (hbg : b < g.base) (hL0 : L ≤ 384) : ∀ (q : Nat) (i : Int) (w : zWd) (S : zSt), 0 ≤ i → i ≤ 1000 → (L : Int) - i < q → zCl g w S → zMo g w S → zOKS S → zRunsX (zScp b L xs) g 9 mL_law 0 0 18 [some (.ref b), some (zR g 0), some (zR g 72), some (zI i)] [] w (fun v _ => v = some (zI 1)) := by
  intro q
  induction q with
  | zero =>
    intro i w S h1 h2 h3 hC hM hO
    refine x_iload_n (pc := 18) dL_law_18 rfl ?_
    refine x_aload_n (pc := 19) dL_law_19 rfl rfl ?_
    refine x_slen (pc := 20) hbg dL_law_20 ?_
    refine x_bipush (pc := 21) (by decide) dL_law_21 ?_
    refine x_isub (pc := 23) dL_law_23 ?_
    refine x_icmp_gt (pc := 24) (by omega) (by omega) 1745 dL_law_24 rfl (fun c24 => ?_) (fun c24 => ?_)
    · refine x_iconst (pc := 1745) dL_law_1745 ?_
      exact x_zreturn1 (pc := 1746) (show True from trivial) dL_law_1746 rfl (congrArg (fun x => some (zI x)) (zb_t trivial))
    exfalso; omega
  | succ q ih =>
    intro i w S h1 h2 h3 hC hM hO
    by_cases h4 : i + 6 ≤ (L : Int)
    · have hi : 0 ≤ i ∧ i + 6 ≤ (L : Int) := ⟨h1, h4⟩
      have J1739 : ∀ (S' : zSt) (w' : zWd), zCl g w' S' → zMo g w' S' → zOKS S' → zRunsX (zScp b L xs) g 9 mL_law 0 0 1739 [some (.ref b), some (zR g 0), some (zR g 72), some (zI i)] [] w' (fun v _ => v = some (zI 1)) := by
        intro S' w' hC2 hM2 hO2
        refine x_iinc (pc := 1739) [some _, some _, some _, some _] dL_law_1739 rfl rfl rfl ?_
        refine x_goto (pc := 1742) 18 dL_law_1742 rfl ?_
        exact ih (i + 6) w' S' (by omega) (by omega) (by omega) hC2 hM2 hO2
      refine x_iload_n (pc := 18) dL_law_18 rfl ?_
      refine x_aload_n (pc := 19) dL_law_19 rfl rfl ?_
      refine x_slen (pc := 20) hbg dL_law_20 ?_
      refine x_bipush (pc := 21) (by decide) dL_law_21 ?_
      refine x_isub (pc := 23) dL_law_23 ?_
      refine x_icmp_gt (pc := 24) (by omega) (by omega) 1745 dL_law_24 rfl (fun c24 => ?_) (fun c24 => ?_)
      · exfalso; omega
      refine x_aload_n (pc := 27) dL_law_27 rfl rfl ?_
      refine x_iload_n (pc := 28) dL_law_28 rfl ?_
      refine x_sld (pc := 29) hbg hL0 (by omega) dL_law_29 ?_
      refine x_bipush (pc := 30) (by decide) dL_law_30 ?_
      refine x_iand (pc := 32) dL_law_32 ?_
      refine x_top (fun x33 hx33 => ?_)
      by_cases c33_0 : x33 = 0
      · refine x_tableIn (pc := 33) 236 dL_law_33 c33_0 (by omega) (by decide) (by decide) rfl rfl ?_
        exact law_0 hbg hL0 hi hC hM hO J1739
      by_cases c33_1 : x33 = 1
      · refine x_tableIn (pc := 33) 259 dL_law_33 c33_1 (by omega) (by decide) (by decide) rfl rfl ?_
        exact law_1 hbg hL0 hi hC hM hO J1739
      by_cases c33_2 : x33 = 2
      · refine x_tableIn (pc := 33) 292 dL_law_33 c33_2 (by omega) (by decide) (by decide) rfl rfl ?_
        exact law_2 hbg hL0 hi hC hM hO J1739
      by_cases c33_3 : x33 = 3
      · refine x_tableIn (pc := 33) 335 dL_law_33 c33_3 (by omega) (by decide) (by decide) rfl rfl ?_
        exact law_3 hbg hL0 hi hC hM hO J1739
      by_cases c33_4 : x33 = 4
      · refine x_tableIn (pc := 33) 368 dL_law_33 c33_4 (by omega) (by decide) (by decide) rfl rfl ?_
        exact law_4 hbg hL0 hi hC hM hO J1739
      by_cases c33_5 : x33 = 5
      · refine x_tableIn (pc := 33) 401 dL_law_33 c33_5 (by omega) (by decide) (by decide) rfl rfl ?_
        exact law_5 hbg hL0 hi hC hM hO J1739
      by_cases c33_6 : x33 = 6
      · refine x_tableIn (pc := 33) 434 dL_law_33 c33_6 (by omega) (by decide) (by decide) rfl rfl ?_
        exact law_6 hbg hL0 hi hC hM hO J1739
      by_cases c33_7 : x33 = 7
      · refine x_tableIn (pc := 33) 457 dL_law_33 c33_7 (by omega) (by decide) (by decide) rfl rfl ?_
        exact law_7 hbg hL0 hi hC hM hO J1739
      by_cases c33_8 : x33 = 8
      · refine x_tableIn (pc := 33) 470 dL_law_33 c33_8 (by omega) (by decide) (by decide) rfl rfl ?_
        exact law_8 hbg hL0 hi hC hM hO J1739
      by_cases c33_9 : x33 = 9
      · refine x_tableIn (pc := 33) 483 dL_law_33 c33_9 (by omega) (by decide) (by decide) rfl rfl ?_
        exact law_9 hbg hL0 hi hC hM hO J1739
      by_cases c33_10 : x33 = 10
      · refine x_tableIn (pc := 33) 506 dL_law_33 c33_10 (by omega) (by decide) (by decide) rfl rfl ?_
        exact law_10 hbg hL0 hi hC hM hO J1739
      by_cases c33_11 : x33 = 11
      · refine x_tableIn (pc := 33) 529 dL_law_33 c33_11 (by omega) (by decide) (by decide) rfl rfl ?_
        exact law_11 hbg hL0 hi hC hM hO J1739
      by_cases c33_12 : x33 = 12
      · refine x_tableIn (pc := 33) 582 dL_law_33 c33_12 (by omega) (by decide) (by decide) rfl rfl ?_
        exact law_12 hbg hL0 hi hC hM hO J1739
      by_cases c33_13 : x33 = 13
      · refine x_tableIn (pc := 33) 595 dL_law_33 c33_13 (by omega) (by decide) (by decide) rfl rfl ?_
        exact law_13 hbg hL0 hi hC hM hO J1739
      by_cases c33_14 : x33 = 14
      · refine x_tableIn (pc := 33) 618 dL_law_33 c33_14 (by omega) (by decide) (by decide) rfl rfl ?_
        exact law_14 hbg hL0 hi hC hM hO J1739
      by_cases c33_15 : x33 = 15
      · refine x_tableIn (pc := 33) 631 dL_law_33 c33_15 (by omega) (by decide) (by decide) rfl rfl ?_
        exact law_15 hbg hL0 hi hC hM hO J1739
      by_cases c33_16 : x33 = 16
      · refine x_tableIn (pc := 33) 664 dL_law_33 c33_16 (by omega) (by decide) (by decide) rfl rfl ?_
        exact law_16 hbg hL0 hi hC hM hO J1739
      by_cases c33_17 : x33 = 17
      · refine x_tableIn (pc := 33) 697 dL_law_33 c33_17 (by omega) (by decide) (by decide) rfl rfl ?_
        exact law_17 hbg hL0 hi hC hM hO J1739
      by_cases c33_18 : x33 = 18
      · refine x_tableIn (pc := 33) 730 dL_law_33 c33_18 (by omega) (by decide) (by decide) rfl rfl ?_
        exact law_18 hbg hL0 hi hC hM hO J1739
      by_cases c33_19 : x33 = 19
      · refine x_tableIn (pc := 33) 763 dL_law_33 c33_19 (by omega) (by decide) (by decide) rfl rfl ?_
        exact law_19 hbg hL0 hi hC hM hO J1739
      by_cases c33_20 : x33 = 20
      · refine x_tableIn (pc := 33) 796 dL_law_33 c33_20 (by omega) (by decide) (by decide) rfl rfl ?_
        exact law_20 hbg hL0 hi hC hM hO J1739
      by_cases c33_21 : x33 = 21
      · refine x_tableIn (pc := 33) 849 dL_law_33 c33_21 (by omega) (by decide) (by decide) rfl rfl ?_
        exact law_21 hbg hL0 hi hC hM hO J1739
      by_cases c33_22 : x33 = 22
      · refine x_tableIn (pc := 33) 882 dL_law_33 c33_22 (by omega) (by decide) (by decide) rfl rfl ?_
        exact law_22 hbg hL0 hi hC hM hO J1739
      by_cases c33_23 : x33 = 23
      · refine x_tableIn (pc := 33) 925 dL_law_33 c33_23 (by omega) (by decide) (by decide) rfl rfl ?_
        exact law_23 hbg hL0 hi hC hM hO J1739
      by_cases c33_24 : x33 = 24
      · refine x_tableIn (pc := 33) 968 dL_law_33 c33_24 (by omega) (by decide) (by decide) rfl rfl ?_
        exact law_24 hbg hL0 hi hC hM hO J1739
      by_cases c33_25 : x33 = 25
      · refine x_tableIn (pc := 33) 1001 dL_law_33 c33_25 (by omega) (by decide) (by decide) rfl rfl ?_
        exact law_25 hbg hL0 hi hC hM hO J1739
      by_cases c33_26 : x33 = 26
      · refine x_tableIn (pc := 33) 1054 dL_law_33 c33_26 (by omega) (by decide) (by decide) rfl rfl ?_
        exact law_26 hbg hL0 hi hC hM hO J1739
      by_cases c33_27 : x33 = 27
      · refine x_tableIn (pc := 33) 1087 dL_law_33 c33_27 (by omega) (by decide) (by decide) rfl rfl ?_
        exact law_27 hbg hL0 hi hC hM hO J1739
      by_cases c33_28 : x33 = 28
      · refine x_tableIn (pc := 33) 1120 dL_law_33 c33_28 (by omega) (by decide) (by decide) rfl rfl ?_
        exact law_28 hbg hL0 hi hC hM hO J1739
      by_cases c33_29 : x33 = 29
      · refine x_tableIn (pc := 33) 1173 dL_law_33 c33_29 (by omega) (by decide) (by decide) rfl rfl ?_
        exact law_29 hbg hL0 hi hC hM hO J1739
      by_cases c33_30 : x33 = 30
      · refine x_tableIn (pc := 33) 1196 dL_law_33 c33_30 (by omega) (by decide) (by decide) rfl rfl ?_
        exact law_30 hbg hL0 hi hC hM hO J1739
      by_cases c33_31 : x33 = 31
      · refine x_tableIn (pc := 33) 1219 dL_law_33 c33_31 (by omega) (by decide) (by decide) rfl rfl ?_
        exact law_31 hbg hL0 hi hC hM hO J1739
      by_cases c33_32 : x33 = 32
      · refine x_tableIn (pc := 33) 1282 dL_law_33 c33_32 (by omega) (by decide) (by decide) rfl rfl ?_
        exact law_32 hbg hL0 hi hC hM hO J1739
      by_cases c33_33 : x33 = 33
      · refine x_tableIn (pc := 33) 1345 dL_law_33 c33_33 (by omega) (by decide) (by decide) rfl rfl ?_
        exact law_33 hbg hL0 hi hC hM hO J1739
      by_cases c33_34 : x33 = 34
      · refine x_tableIn (pc := 33) 1368 dL_law_33 c33_34 (by omega) (by decide) (by decide) rfl rfl ?_
        exact law_34 hbg hL0 hi hC hM hO J1739
      by_cases c33_35 : x33 = 35
      · refine x_tableIn (pc := 33) 1391 dL_law_33 c33_35 (by omega) (by decide) (by decide) rfl rfl ?_
        exact law_35 hbg hL0 hi hC hM hO J1739
      by_cases c33_36 : x33 = 36
      · refine x_tableIn (pc := 33) 1414 dL_law_33 c33_36 (by omega) (by decide) (by decide) rfl rfl ?_
        exact law_36 hbg hL0 hi hC hM hO J1739
      by_cases c33_37 : x33 = 37
      · refine x_tableIn (pc := 33) 1437 dL_law_33 c33_37 (by omega) (by decide) (by decide) rfl rfl ?_
        exact law_37 hbg hL0 hi hC hM hO J1739
      by_cases c33_38 : x33 = 38
      · refine x_tableIn (pc := 33) 1460 dL_law_33 c33_38 (by omega) (by decide) (by decide) rfl rfl ?_
        exact law_38 hbg hL0 hi hC hM hO J1739
      by_cases c33_39 : x33 = 39
      · refine x_tableIn (pc := 33) 1513 dL_law_33 c33_39 (by omega) (by decide) (by decide) rfl rfl ?_
        exact law_39 hbg hL0 hi hC hM hO J1739
      by_cases c33_40 : x33 = 40
      · refine x_tableIn (pc := 33) 1576 dL_law_33 c33_40 (by omega) (by decide) (by decide) rfl rfl ?_
        exact law_40 hbg hL0 hi hC hM hO J1739
      by_cases c33_41 : x33 = 41
      · refine x_tableIn (pc := 33) 1609 dL_law_33 c33_41 (by omega) (by decide) (by decide) rfl rfl ?_
        exact law_41 hbg hL0 hi hC hM hO J1739
      by_cases c33_42 : x33 = 42
      · refine x_tableIn (pc := 33) 1633 dL_law_33 c33_42 (by omega) (by decide) (by decide) rfl rfl ?_
        exact law_42 hbg hL0 hi hC hM hO J1739
      by_cases c33_43 : x33 = 43
      · refine x_tableIn (pc := 33) 1656 dL_law_33 c33_43 (by omega) (by decide) (by decide) rfl rfl ?_
        exact law_43 hbg hL0 hi hC hM hO J1739
      by_cases c33_44 : x33 = 44
      · refine x_tableIn (pc := 33) 1679 dL_law_33 c33_44 (by omega) (by decide) (by decide) rfl rfl ?_
        exact law_44 hbg hL0 hi hC hM hO J1739
      by_cases c33_45 : x33 = 45
      · refine x_tableIn (pc := 33) 1702 dL_law_33 c33_45 (by omega) (by decide) (by decide) rfl rfl ?_
        exact law_45 hbg hL0 hi hC hM hO J1739
      by_cases c33_46 : x33 = 46
      · refine x_tableIn (pc := 33) 1725 dL_law_33 c33_46 (by omega) (by decide) (by decide) rfl rfl ?_
        exact law_46 hbg hL0 hi hC hM hO J1739
      refine x_tableOut (pc := 33) 1739 dL_law_33 (by rw [hx33]; exact zand_R) (by omega) rfl ?_
      exact J1739 S w hC hM hO
    · refine x_iload_n (pc := 18) dL_law_18 rfl ?_
      refine x_aload_n (pc := 19) dL_law_19 rfl rfl ?_
      refine x_slen (pc := 20) hbg dL_law_20 ?_
      refine x_bipush (pc := 21) (by decide) dL_law_21 ?_
      refine x_isub (pc := 23) dL_law_23 ?_
      refine x_icmp_gt (pc := 24) (by omega) (by omega) 1745 dL_law_24 rfl (fun c24 => ?_) (fun c24 => ?_)
      · refine x_iconst (pc := 1745) dL_law_1745 ?_
        exact x_zreturn1 (pc := 1746) (show True from trivial) dL_law_1746 rfl (congrArg (fun x => some (zI x)) (zb_t trivial))
      exfalso; omega
end LAWC
