theorem lwc_0 {L : Nat} {xs : Nat → Int32} {i B : Int} {Z : zZ} {g : sp_G} (hi : 0 ≤ i ∧ i + 4 < L) (hC : cRep g Z) (hM : mRep g Z) (hV : zV B Z) (nx : ∀ (g3 : sp_G) (Z3 : zZ), cRep g3 Z3 → mRep g3 Z3 → zV (B + 1) Z3 → lwW L xs 1032 [some (v_r 90), some (v_r 0), some (v_r 52), some (v_i i)] [] g3) : lwW L xs 164 [some (v_r 90), some (v_r 0), some (v_r 52), some (v_i i)] [] g := by
  refine lw_aload dL_law_164 rfl ?_
  refine lw_aload dL_law_165 rfl ?_
  refine lw_iload dL_law_166 rfl ?_
  refine lw_iconst dL_law_167 ?_
  refine lw_iadd dL_law_168 ?_
  refine lw_sld dL_law_169 (by omega) ?_
  refine lw_aload dL_law_170 rfl ?_
  refine lw_iload dL_law_171 rfl ?_
  refine lw_iconst dL_law_172 ?_
  refine lw_iadd dL_law_173 ?_
  refine lw_sld dL_law_174 (by omega) ?_
  refine lw_V2 dL_law_175 okX5_on lkL_13 rfl rfl rfl ?_
  refine bo_on hC hM hV ⟨lw_r _, lw_r _⟩ _ (fun x g2 h2 => ?_)
  refine lw_aload dL_law_178 rfl ?_
  refine lw_aload dL_law_179 rfl ?_
  refine lw_iload dL_law_180 rfl ?_
  refine lw_iconst dL_law_181 ?_
  refine lw_iadd dL_law_182 ?_
  refine lw_sld dL_law_183 (by omega) ?_
  refine lw_aload dL_law_184 rfl ?_
  refine lw_iload dL_law_185 rfl ?_
  refine lw_iconst dL_law_186 ?_
  refine lw_iadd dL_law_187 ?_
  refine lw_sld dL_law_188 (by omega) ?_
  refine lw_V2 dL_law_189 okX6_on lkL_17 rfl rfl rfl ?_
  refine h2 _ (fun g3 Z3 r1 r2 r3 => ?_)
  exact lw_eq (tg := 1032) dL_law_192 (by decide) (nx g3 Z3 r1 r2 r3)
theorem lwc_1 {L : Nat} {xs : Nat → Int32} {i B : Int} {Z : zZ} {g : sp_G} (hi : 0 ≤ i ∧ i + 4 < L) (hC : cRep g Z) (hM : mRep g Z) (hV : zV B Z) (nx : ∀ (g3 : sp_G) (Z3 : zZ), cRep g3 Z3 → mRep g3 Z3 → zV (B + 1) Z3 → lwW L xs 1032 [some (v_r 90), some (v_r 0), some (v_r 52), some (v_i i)] [] g3) : lwW L xs 197 [some (v_r 90), some (v_r 0), some (v_r 52), some (v_i i)] [] g := by
  refine lw_aload dL_law_197 rfl ?_
  refine lw_aload dL_law_198 rfl ?_
  refine lw_iload dL_law_199 rfl ?_
  refine lw_iconst dL_law_200 ?_
  refine lw_iadd dL_law_201 ?_
  refine lw_sld dL_law_202 (by omega) ?_
  refine lw_aload dL_law_203 rfl ?_
  refine lw_iload dL_law_204 rfl ?_
  refine lw_iconst dL_law_205 ?_
  refine lw_iadd dL_law_206 ?_
  refine lw_sld dL_law_207 (by omega) ?_
  refine lw_aload dL_law_208 rfl ?_
  refine lw_iload dL_law_209 rfl ?_
  refine lw_iconst dL_law_210 ?_
  refine lw_iadd dL_law_211 ?_
  refine lw_sld dL_law_212 (by omega) ?_
  refine lw_aload dL_law_213 rfl ?_
  refine lw_iload dL_law_214 rfl ?_
  refine lw_iconst dL_law_215 ?_
  refine lw_iadd dL_law_216 ?_
  refine lw_sld dL_law_217 (by omega) ?_
  refine lw_V4 dL_law_218 okX5_puts lkL_18 rfl rfl rfl ?_
  refine bo_puts hC hM hV ⟨lw_r _, lw_r _, lw_r _, lw_r _⟩ _ (fun x g2 h2 => ?_)
  refine lw_aload dL_law_221 rfl ?_
  refine lw_aload dL_law_222 rfl ?_
  refine lw_iload dL_law_223 rfl ?_
  refine lw_iconst dL_law_224 ?_
  refine lw_iadd dL_law_225 ?_
  refine lw_sld dL_law_226 (by omega) ?_
  refine lw_aload dL_law_227 rfl ?_
  refine lw_iload dL_law_228 rfl ?_
  refine lw_iconst dL_law_229 ?_
  refine lw_iadd dL_law_230 ?_
  refine lw_sld dL_law_231 (by omega) ?_
  refine lw_aload dL_law_232 rfl ?_
  refine lw_iload dL_law_233 rfl ?_
  refine lw_iconst dL_law_234 ?_
  refine lw_iadd dL_law_235 ?_
  refine lw_sld dL_law_236 (by omega) ?_
  refine lw_aload dL_law_237 rfl ?_
  refine lw_iload dL_law_238 rfl ?_
  refine lw_iconst dL_law_239 ?_
  refine lw_iadd dL_law_240 ?_
  refine lw_sld dL_law_241 (by omega) ?_
  refine lw_V4 dL_law_242 okX6_puts lkL_22 rfl rfl rfl ?_
  refine h2 _ (fun g3 Z3 r1 r2 r3 => ?_)
  exact lw_eq (tg := 1032) dL_law_245 (by decide) (nx g3 Z3 r1 r2 r3)
theorem lwc_2 {L : Nat} {xs : Nat → Int32} {i B : Int} {Z : zZ} {g : sp_G} (hi : 0 ≤ i ∧ i + 4 < L) (hC : cRep g Z) (hM : mRep g Z) (hV : zV B Z) (nx : ∀ (g3 : sp_G) (Z3 : zZ), cRep g3 Z3 → mRep g3 Z3 → zV (B + 1) Z3 → lwW L xs 1032 [some (v_r 90), some (v_r 0), some (v_r 52), some (v_i i)] [] g3) : lwW L xs 250 [some (v_r 90), some (v_r 0), some (v_r 52), some (v_i i)] [] g := by
  refine lw_aload dL_law_250 rfl ?_
  refine lw_aload dL_law_251 rfl ?_
  refine lw_iload dL_law_252 rfl ?_
  refine lw_iconst dL_law_253 ?_
  refine lw_iadd dL_law_254 ?_
  refine lw_sld dL_law_255 (by omega) ?_
  refine lw_aload dL_law_256 rfl ?_
  refine lw_iload dL_law_257 rfl ?_
  refine lw_iconst dL_law_258 ?_
  refine lw_iadd dL_law_259 ?_
  refine lw_sld dL_law_260 (by omega) ?_
  refine lw_aload dL_law_261 rfl ?_
  refine lw_iload dL_law_262 rfl ?_
  refine lw_iconst dL_law_263 ?_
  refine lw_iadd dL_law_264 ?_
  refine lw_sld dL_law_265 (by omega) ?_
  refine lw_V3 dL_law_266 okX5_names lkL_23 rfl rfl rfl ?_
  refine bo_names hC hM hV ⟨lw_r _, lw_r _, lw_r _⟩ _ (fun x g2 h2 => ?_)
  refine lw_aload dL_law_269 rfl ?_
  refine lw_aload dL_law_270 rfl ?_
  refine lw_iload dL_law_271 rfl ?_
  refine lw_iconst dL_law_272 ?_
  refine lw_iadd dL_law_273 ?_
  refine lw_sld dL_law_274 (by omega) ?_
  refine lw_aload dL_law_275 rfl ?_
  refine lw_iload dL_law_276 rfl ?_
  refine lw_iconst dL_law_277 ?_
  refine lw_iadd dL_law_278 ?_
  refine lw_sld dL_law_279 (by omega) ?_
  refine lw_aload dL_law_280 rfl ?_
  refine lw_iload dL_law_281 rfl ?_
  refine lw_iconst dL_law_282 ?_
  refine lw_iadd dL_law_283 ?_
  refine lw_sld dL_law_284 (by omega) ?_
  refine lw_V3 dL_law_285 okX6_names lkL_27 rfl rfl rfl ?_
  refine h2 _ (fun g3 Z3 r1 r2 r3 => ?_)
  exact lw_eq (tg := 1032) dL_law_288 (by decide) (nx g3 Z3 r1 r2 r3)
theorem lwc_3 {L : Nat} {xs : Nat → Int32} {i B : Int} {Z : zZ} {g : sp_G} (hi : 0 ≤ i ∧ i + 4 < L) (hC : cRep g Z) (hM : mRep g Z) (hV : zV B Z) (nx : ∀ (g3 : sp_G) (Z3 : zZ), cRep g3 Z3 → mRep g3 Z3 → zV (B + 1) Z3 → lwW L xs 1032 [some (v_r 90), some (v_r 0), some (v_r 52), some (v_i i)] [] g3) : lwW L xs 293 [some (v_r 90), some (v_r 0), some (v_r 52), some (v_i i)] [] g := by
  refine lw_aload dL_law_293 rfl ?_
  refine lw_aload dL_law_294 rfl ?_
  refine lw_iload dL_law_295 rfl ?_
  refine lw_iconst dL_law_296 ?_
  refine lw_iadd dL_law_297 ?_
  refine lw_sld dL_law_298 (by omega) ?_
  refine lw_aload dL_law_299 rfl ?_
  refine lw_iload dL_law_300 rfl ?_
  refine lw_iconst dL_law_301 ?_
  refine lw_iadd dL_law_302 ?_
  refine lw_sld dL_law_303 (by omega) ?_
  refine lw_V2 dL_law_304 okX5_voters lkL_28 rfl rfl rfl ?_
  refine bo_voters hC hM hV ⟨lw_r _, lw_r _⟩ _ (fun x g2 h2 => ?_)
  refine lw_aload dL_law_307 rfl ?_
  refine lw_aload dL_law_308 rfl ?_
  refine lw_iload dL_law_309 rfl ?_
  refine lw_iconst dL_law_310 ?_
  refine lw_iadd dL_law_311 ?_
  refine lw_sld dL_law_312 (by omega) ?_
  refine lw_aload dL_law_313 rfl ?_
  refine lw_iload dL_law_314 rfl ?_
  refine lw_iconst dL_law_315 ?_
  refine lw_iadd dL_law_316 ?_
  refine lw_sld dL_law_317 (by omega) ?_
  refine lw_V2 dL_law_318 okX6_voters lkL_31 rfl rfl rfl ?_
  refine h2 _ (fun g3 Z3 r1 r2 r3 => ?_)
  exact lw_eq (tg := 1032) dL_law_321 (by decide) (nx g3 Z3 r1 r2 r3)
theorem lwc_4 {L : Nat} {xs : Nat → Int32} {i B : Int} {Z : zZ} {g : sp_G} (hi : 0 ≤ i ∧ i + 4 < L) (hC : cRep g Z) (hM : mRep g Z) (hV : zV B Z) (nx : ∀ (g3 : sp_G) (Z3 : zZ), cRep g3 Z3 → mRep g3 Z3 → zV (B + 1) Z3 → lwW L xs 1032 [some (v_r 90), some (v_r 0), some (v_r 52), some (v_i i)] [] g3) : lwW L xs 326 [some (v_r 90), some (v_r 0), some (v_r 52), some (v_i i)] [] g := by
  refine lw_aload dL_law_326 rfl ?_
  refine lw_aload dL_law_327 rfl ?_
  refine lw_iload dL_law_328 rfl ?_
  refine lw_iconst dL_law_329 ?_
  refine lw_iadd dL_law_330 ?_
  refine lw_sld dL_law_331 (by omega) ?_
  refine lw_aload dL_law_332 rfl ?_
  refine lw_iload dL_law_333 rfl ?_
  refine lw_iconst dL_law_334 ?_
  refine lw_iadd dL_law_335 ?_
  refine lw_sld dL_law_336 (by omega) ?_
  refine lw_aload dL_law_337 rfl ?_
  refine lw_iload dL_law_338 rfl ?_
  refine lw_iconst dL_law_339 ?_
  refine lw_iadd dL_law_340 ?_
  refine lw_sld dL_law_341 (by omega) ?_
  refine lw_V3 dL_law_342 okX5_draw lkL_32 rfl rfl rfl ?_
  refine bo_draw hC hM hV ⟨lw_r _, lw_r _, lw_r _⟩ _ (fun x g2 h2 => ?_)
  refine lw_aload dL_law_345 rfl ?_
  refine lw_aload dL_law_346 rfl ?_
  refine lw_iload dL_law_347 rfl ?_
  refine lw_iconst dL_law_348 ?_
  refine lw_iadd dL_law_349 ?_
  refine lw_sld dL_law_350 (by omega) ?_
  refine lw_aload dL_law_351 rfl ?_
  refine lw_iload dL_law_352 rfl ?_
  refine lw_iconst dL_law_353 ?_
  refine lw_iadd dL_law_354 ?_
  refine lw_sld dL_law_355 (by omega) ?_
  refine lw_aload dL_law_356 rfl ?_
  refine lw_iload dL_law_357 rfl ?_
  refine lw_iconst dL_law_358 ?_
  refine lw_iadd dL_law_359 ?_
  refine lw_sld dL_law_360 (by omega) ?_
  refine lw_V3 dL_law_361 okX6_draw lkL_35 rfl rfl rfl ?_
  refine h2 _ (fun g3 Z3 r1 r2 r3 => ?_)
  exact lw_eq (tg := 1032) dL_law_364 (by decide) (nx g3 Z3 r1 r2 r3)
theorem lwc_5 {L : Nat} {xs : Nat → Int32} {i B : Int} {Z : zZ} {g : sp_G} (hi : 0 ≤ i ∧ i + 4 < L) (hC : cRep g Z) (hM : mRep g Z) (hV : zV B Z) (nx : ∀ (g3 : sp_G) (Z3 : zZ), cRep g3 Z3 → mRep g3 Z3 → zV (B + 1) Z3 → lwW L xs 1032 [some (v_r 90), some (v_r 0), some (v_r 52), some (v_i i)] [] g3) : lwW L xs 369 [some (v_r 90), some (v_r 0), some (v_r 52), some (v_i i)] [] g := by
  refine lw_aload dL_law_369 rfl ?_
  refine lw_aload dL_law_370 rfl ?_
  refine lw_iload dL_law_371 rfl ?_
  refine lw_iconst dL_law_372 ?_
  refine lw_iadd dL_law_373 ?_
  refine lw_sld dL_law_374 (by omega) ?_
  refine lw_aload dL_law_375 rfl ?_
  refine lw_iload dL_law_376 rfl ?_
  refine lw_iconst dL_law_377 ?_
  refine lw_iadd dL_law_378 ?_
  refine lw_sld dL_law_379 (by omega) ?_
  refine lw_aload dL_law_380 rfl ?_
  refine lw_iload dL_law_381 rfl ?_
  refine lw_iconst dL_law_382 ?_
  refine lw_iadd dL_law_383 ?_
  refine lw_sld dL_law_384 (by omega) ?_
  refine lw_V3 dL_law_385 okX5_follows lkL_36 rfl rfl rfl ?_
  refine bo_follows hC hM hV ⟨lw_r _, lw_r _, lw_r _⟩ _ (fun x g2 h2 => ?_)
  refine lw_aload dL_law_388 rfl ?_
  refine lw_aload dL_law_389 rfl ?_
  refine lw_iload dL_law_390 rfl ?_
  refine lw_iconst dL_law_391 ?_
  refine lw_iadd dL_law_392 ?_
  refine lw_sld dL_law_393 (by omega) ?_
  refine lw_aload dL_law_394 rfl ?_
  refine lw_iload dL_law_395 rfl ?_
  refine lw_iconst dL_law_396 ?_
  refine lw_iadd dL_law_397 ?_
  refine lw_sld dL_law_398 (by omega) ?_
  refine lw_aload dL_law_399 rfl ?_
  refine lw_iload dL_law_400 rfl ?_
  refine lw_iconst dL_law_401 ?_
  refine lw_iadd dL_law_402 ?_
  refine lw_sld dL_law_403 (by omega) ?_
  refine lw_V3 dL_law_404 okX6_follows lkL_39 rfl rfl rfl ?_
  refine h2 _ (fun g3 Z3 r1 r2 r3 => ?_)
  exact lw_eq (tg := 1032) dL_law_407 (by decide) (nx g3 Z3 r1 r2 r3)
theorem lwc_6 {L : Nat} {xs : Nat → Int32} {i B : Int} {Z : zZ} {g : sp_G} (hi : 0 ≤ i ∧ i + 4 < L) (hC : cRep g Z) (hM : mRep g Z) (hV : zV B Z) (nx : ∀ (g3 : sp_G) (Z3 : zZ), cRep g3 Z3 → mRep g3 Z3 → zV (B + 1) Z3 → lwW L xs 1032 [some (v_r 90), some (v_r 0), some (v_r 52), some (v_i i)] [] g3) : lwW L xs 412 [some (v_r 90), some (v_r 0), some (v_r 52), some (v_i i)] [] g := by
  refine lw_aload dL_law_412 rfl ?_
  refine lw_V0 dL_law_413 okX5_undo lkL_40 rfl rfl rfl ?_
  refine bo_undo hC hM hV _ (fun x g2 h2 => ?_)
  refine lw_aload dL_law_416 rfl ?_
  refine lw_V0 dL_law_417 okX6_undo lkL_44 rfl rfl rfl ?_
  refine h2 _ (fun g3 Z3 r1 r2 r3 => ?_)
  exact lw_eq (tg := 1032) dL_law_420 (by decide) (nx g3 Z3 r1 r2 r3)
theorem lwc_7 {L : Nat} {xs : Nat → Int32} {i B : Int} {Z : zZ} {g : sp_G} (hi : 0 ≤ i ∧ i + 4 < L) (hC : cRep g Z) (hM : mRep g Z) (hV : zV B Z) (nx : ∀ (g3 : sp_G) (Z3 : zZ), cRep g3 Z3 → mRep g3 Z3 → zV (B + 1) Z3 → lwW L xs 1032 [some (v_r 90), some (v_r 0), some (v_r 52), some (v_i i)] [] g3) : lwW L xs 425 [some (v_r 90), some (v_r 0), some (v_r 52), some (v_i i)] [] g := by
  refine lw_aload dL_law_425 rfl ?_
  refine lw_aload dL_law_426 rfl ?_
  refine lw_iload dL_law_427 rfl ?_
  refine lw_iconst dL_law_428 ?_
  refine lw_iadd dL_law_429 ?_
  refine lw_sld dL_law_430 (by omega) ?_
  refine lw_aload dL_law_431 rfl ?_
  refine lw_iload dL_law_432 rfl ?_
  refine lw_iconst dL_law_433 ?_
  refine lw_iadd dL_law_434 ?_
  refine lw_sld dL_law_435 (by omega) ?_
  refine lw_V2 dL_law_436 okX5_of lkL_45 rfl rfl rfl ?_
  refine bo_of hC hM hV ⟨lw_r _, lw_r _⟩ _ (fun x g2 h2 => ?_)
  refine lw_aload dL_law_439 rfl ?_
  refine lw_aload dL_law_440 rfl ?_
  refine lw_iload dL_law_441 rfl ?_
  refine lw_iconst dL_law_442 ?_
  refine lw_iadd dL_law_443 ?_
  refine lw_sld dL_law_444 (by omega) ?_
  refine lw_aload dL_law_445 rfl ?_
  refine lw_iload dL_law_446 rfl ?_
  refine lw_iconst dL_law_447 ?_
  refine lw_iadd dL_law_448 ?_
  refine lw_sld dL_law_449 (by omega) ?_
  refine lw_V2 dL_law_450 okX6_of lkL_48 rfl rfl rfl ?_
  refine h2 _ (fun g3 Z3 r1 r2 r3 => ?_)
  exact lw_eq (tg := 1032) dL_law_453 (by decide) (nx g3 Z3 r1 r2 r3)
theorem lwc_8 {L : Nat} {xs : Nat → Int32} {i B : Int} {Z : zZ} {g : sp_G} (hi : 0 ≤ i ∧ i + 4 < L) (hC : cRep g Z) (hM : mRep g Z) (hV : zV B Z) (nx : ∀ (g3 : sp_G) (Z3 : zZ), cRep g3 Z3 → mRep g3 Z3 → zV (B + 1) Z3 → lwW L xs 1032 [some (v_r 90), some (v_r 0), some (v_r 52), some (v_i i)] [] g3) : lwW L xs 458 [some (v_r 90), some (v_r 0), some (v_r 52), some (v_i i)] [] g := by
  refine lw_aload dL_law_458 rfl ?_
  refine lw_aload dL_law_459 rfl ?_
  refine lw_iload dL_law_460 rfl ?_
  refine lw_iconst dL_law_461 ?_
  refine lw_iadd dL_law_462 ?_
  refine lw_sld dL_law_463 (by omega) ?_
  refine lw_V1 dL_law_464 okX5_type lkL_49 rfl rfl rfl ?_
  refine bo_type hC hM hV (lw_r _) _ (fun x g2 h2 => ?_)
  refine lw_aload dL_law_467 rfl ?_
  refine lw_aload dL_law_468 rfl ?_
  refine lw_iload dL_law_469 rfl ?_
  refine lw_iconst dL_law_470 ?_
  refine lw_iadd dL_law_471 ?_
  refine lw_sld dL_law_472 (by omega) ?_
  refine lw_V1 dL_law_473 okX6_type lkL_53 rfl rfl rfl ?_
  refine h2 _ (fun g3 Z3 r1 r2 r3 => ?_)
  exact lw_eq (tg := 1032) dL_law_476 (by decide) (nx g3 Z3 r1 r2 r3)
theorem lwc_9 {L : Nat} {xs : Nat → Int32} {i B : Int} {Z : zZ} {g : sp_G} (hi : 0 ≤ i ∧ i + 4 < L) (hC : cRep g Z) (hM : mRep g Z) (hV : zV B Z) (nx : ∀ (g3 : sp_G) (Z3 : zZ), cRep g3 Z3 → mRep g3 Z3 → zV (B + 1) Z3 → lwW L xs 1032 [some (v_r 90), some (v_r 0), some (v_r 52), some (v_i i)] [] g3) : lwW L xs 481 [some (v_r 90), some (v_r 0), some (v_r 52), some (v_i i)] [] g := by
  refine lw_aload dL_law_481 rfl ?_
  refine lw_V0 dL_law_482 okX5_clear lkL_54 rfl rfl rfl ?_
  refine bo_clear hC hM hV _ (fun x g2 h2 => ?_)
  refine lw_aload dL_law_485 rfl ?_
  refine lw_V0 dL_law_486 okX6_clear lkL_57 rfl rfl rfl ?_
  refine h2 _ (fun g3 Z3 r1 r2 r3 => ?_)
  exact lw_eq (tg := 1032) dL_law_489 (by decide) (nx g3 Z3 r1 r2 r3)
theorem lwc_10 {L : Nat} {xs : Nat → Int32} {i B : Int} {Z : zZ} {g : sp_G} (hi : 0 ≤ i ∧ i + 4 < L) (hC : cRep g Z) (hM : mRep g Z) (hV : zV B Z) (nx : ∀ (g3 : sp_G) (Z3 : zZ), cRep g3 Z3 → mRep g3 Z3 → zV (B + 1) Z3 → lwW L xs 1032 [some (v_r 90), some (v_r 0), some (v_r 52), some (v_i i)] [] g3) : lwW L xs 494 [some (v_r 90), some (v_r 0), some (v_r 52), some (v_i i)] [] g := by
  refine lw_aload dL_law_494 rfl ?_
  refine lw_V0 dL_law_495 okX5_does lkL_58 rfl rfl rfl ?_
  refine bo_does hC hM hV _ (fun x g2 h2 => ?_)
  refine lw_aload dL_law_498 rfl ?_
  refine lw_V0 dL_law_499 okX6_does lkL_61 rfl rfl rfl ?_
  refine h2 _ (fun g3 Z3 r1 r2 r3 => ?_)
  exact lw_eq (tg := 1032) dL_law_502 (by decide) (nx g3 Z3 r1 r2 r3)
theorem lwc_11 {L : Nat} {xs : Nat → Int32} {i B : Int} {Z : zZ} {g : sp_G} (hi : 0 ≤ i ∧ i + 4 < L) (hC : cRep g Z) (hM : mRep g Z) (hV : zV B Z) (nx : ∀ (g3 : sp_G) (Z3 : zZ), cRep g3 Z3 → mRep g3 Z3 → zV (B + 1) Z3 → lwW L xs 1032 [some (v_r 90), some (v_r 0), some (v_r 52), some (v_i i)] [] g3) : lwW L xs 507 [some (v_r 90), some (v_r 0), some (v_r 52), some (v_i i)] [] g := by
  refine lw_aload dL_law_507 rfl ?_
  refine lw_V0 dL_law_508 okX5_styles lkL_62 rfl rfl rfl ?_
  refine bo_styles hC hM hV _ (fun x g2 h2 => ?_)
  refine lw_aload dL_law_511 rfl ?_
  refine lw_V0 dL_law_512 okX6_styles lkL_65 rfl rfl rfl ?_
  refine h2 _ (fun g3 Z3 r1 r2 r3 => ?_)
  exact lw_eq (tg := 1032) dL_law_515 (by decide) (nx g3 Z3 r1 r2 r3)
theorem lwc_12 {L : Nat} {xs : Nat → Int32} {i B : Int} {Z : zZ} {g : sp_G} (hi : 0 ≤ i ∧ i + 4 < L) (hC : cRep g Z) (hM : mRep g Z) (hV : zV B Z) (nx : ∀ (g3 : sp_G) (Z3 : zZ), cRep g3 Z3 → mRep g3 Z3 → zV (B + 1) Z3 → lwW L xs 1032 [some (v_r 90), some (v_r 0), some (v_r 52), some (v_i i)] [] g3) : lwW L xs 520 [some (v_r 90), some (v_r 0), some (v_r 52), some (v_i i)] [] g := by
  refine lw_aload dL_law_520 rfl ?_
  refine lw_aload dL_law_521 rfl ?_
  refine lw_iload dL_law_522 rfl ?_
  refine lw_iconst dL_law_523 ?_
  refine lw_iadd dL_law_524 ?_
  refine lw_sld dL_law_525 (by omega) ?_
  refine lw_aload dL_law_526 rfl ?_
  refine lw_iload dL_law_527 rfl ?_
  refine lw_iconst dL_law_528 ?_
  refine lw_iadd dL_law_529 ?_
  refine lw_sld dL_law_530 (by omega) ?_
  refine lw_V2 dL_law_531 okX5_style lkL_66 rfl rfl rfl ?_
  refine bo_style hC hM hV ⟨lw_r _, lw_r _⟩ _ (fun x g2 h2 => ?_)
  refine lw_aload dL_law_534 rfl ?_
  refine lw_aload dL_law_535 rfl ?_
  refine lw_iload dL_law_536 rfl ?_
  refine lw_iconst dL_law_537 ?_
  refine lw_iadd dL_law_538 ?_
  refine lw_sld dL_law_539 (by omega) ?_
  refine lw_aload dL_law_540 rfl ?_
  refine lw_iload dL_law_541 rfl ?_
  refine lw_iconst dL_law_542 ?_
  refine lw_iadd dL_law_543 ?_
  refine lw_sld dL_law_544 (by omega) ?_
  refine lw_V2 dL_law_545 okX6_style lkL_69 rfl rfl rfl ?_
  refine h2 _ (fun g3 Z3 r1 r2 r3 => ?_)
  exact lw_eq (tg := 1032) dL_law_548 (by decide) (nx g3 Z3 r1 r2 r3)
theorem lwc_13 {L : Nat} {xs : Nat → Int32} {i B : Int} {Z : zZ} {g : sp_G} (hi : 0 ≤ i ∧ i + 4 < L) (hC : cRep g Z) (hM : mRep g Z) (hV : zV B Z) (nx : ∀ (g3 : sp_G) (Z3 : zZ), cRep g3 Z3 → mRep g3 Z3 → zV (B + 1) Z3 → lwW L xs 1032 [some (v_r 90), some (v_r 0), some (v_r 52), some (v_i i)] [] g3) : lwW L xs 553 [some (v_r 90), some (v_r 0), some (v_r 52), some (v_i i)] [] g := by
  refine lw_aload dL_law_553 rfl ?_
  refine lw_aload dL_law_554 rfl ?_
  refine lw_iload dL_law_555 rfl ?_
  refine lw_iconst dL_law_556 ?_
  refine lw_iadd dL_law_557 ?_
  refine lw_sld dL_law_558 (by omega) ?_
  refine lw_V1 dL_law_559 okX5_without lkL_70 rfl rfl rfl ?_
  refine bo_without hC hM hV (lw_r _) _ (fun x g2 h2 => ?_)
  refine lw_aload dL_law_562 rfl ?_
  refine lw_aload dL_law_563 rfl ?_
  refine lw_iload dL_law_564 rfl ?_
  refine lw_iconst dL_law_565 ?_
  refine lw_iadd dL_law_566 ?_
  refine lw_sld dL_law_567 (by omega) ?_
  refine lw_V1 dL_law_568 okX6_without lkL_73 rfl rfl rfl ?_
  refine h2 _ (fun g3 Z3 r1 r2 r3 => ?_)
  exact lw_eq (tg := 1032) dL_law_571 (by decide) (nx g3 Z3 r1 r2 r3)
theorem lwc_14 {L : Nat} {xs : Nat → Int32} {i B : Int} {Z : zZ} {g : sp_G} (hi : 0 ≤ i ∧ i + 4 < L) (hC : cRep g Z) (hM : mRep g Z) (hV : zV B Z) (nx : ∀ (g3 : sp_G) (Z3 : zZ), cRep g3 Z3 → mRep g3 Z3 → zV (B + 1) Z3 → lwW L xs 1032 [some (v_r 90), some (v_r 0), some (v_r 52), some (v_i i)] [] g3) : lwW L xs 576 [some (v_r 90), some (v_r 0), some (v_r 52), some (v_i i)] [] g := by
  refine lw_aload dL_law_576 rfl ?_
  refine lw_V0 dL_law_577 okX5_border lkL_74 rfl rfl rfl ?_
  refine bo_border hC hM hV _ (fun x g2 h2 => ?_)
  refine lw_aload dL_law_580 rfl ?_
  refine lw_V0 dL_law_581 okX6_border lkL_77 rfl rfl rfl ?_
  refine h2 _ (fun g3 Z3 r1 r2 r3 => ?_)
  exact lw_eq (tg := 1032) dL_law_584 (by decide) (nx g3 Z3 r1 r2 r3)
theorem lwc_15 {L : Nat} {xs : Nat → Int32} {i B : Int} {Z : zZ} {g : sp_G} (hi : 0 ≤ i ∧ i + 4 < L) (hC : cRep g Z) (hM : mRep g Z) (hV : zV B Z) (nx : ∀ (g3 : sp_G) (Z3 : zZ), cRep g3 Z3 → mRep g3 Z3 → zV (B + 1) Z3 → lwW L xs 1032 [some (v_r 90), some (v_r 0), some (v_r 52), some (v_i i)] [] g3) : lwW L xs 589 [some (v_r 90), some (v_r 0), some (v_r 52), some (v_i i)] [] g := by
  refine lw_aload dL_law_589 rfl ?_
  refine lw_aload dL_law_590 rfl ?_
  refine lw_iload dL_law_591 rfl ?_
  refine lw_iconst dL_law_592 ?_
  refine lw_iadd dL_law_593 ?_
  refine lw_sld dL_law_594 (by omega) ?_
  refine lw_aload dL_law_595 rfl ?_
  refine lw_iload dL_law_596 rfl ?_
  refine lw_iconst dL_law_597 ?_
  refine lw_iadd dL_law_598 ?_
  refine lw_sld dL_law_599 (by omega) ?_
  refine lw_V2 dL_law_600 okX5_beside lkL_78 rfl rfl rfl ?_
  refine bo_beside hC hM hV ⟨lw_r _, lw_r _⟩ _ (fun x g2 h2 => ?_)
  refine lw_aload dL_law_603 rfl ?_
  refine lw_aload dL_law_604 rfl ?_
  refine lw_iload dL_law_605 rfl ?_
  refine lw_iconst dL_law_606 ?_
  refine lw_iadd dL_law_607 ?_
  refine lw_sld dL_law_608 (by omega) ?_
  refine lw_aload dL_law_609 rfl ?_
  refine lw_iload dL_law_610 rfl ?_
  refine lw_iconst dL_law_611 ?_
  refine lw_iadd dL_law_612 ?_
  refine lw_sld dL_law_613 (by omega) ?_
  refine lw_V2 dL_law_614 okX6_beside lkL_81 rfl rfl rfl ?_
  refine h2 _ (fun g3 Z3 r1 r2 r3 => ?_)
  exact lw_eq (tg := 1032) dL_law_617 (by decide) (nx g3 Z3 r1 r2 r3)
theorem lwc_16 {L : Nat} {xs : Nat → Int32} {i B : Int} {Z : zZ} {g : sp_G} (hi : 0 ≤ i ∧ i + 4 < L) (hC : cRep g Z) (hM : mRep g Z) (hV : zV B Z) (nx : ∀ (g3 : sp_G) (Z3 : zZ), cRep g3 Z3 → mRep g3 Z3 → zV (B + 1) Z3 → lwW L xs 1032 [some (v_r 90), some (v_r 0), some (v_r 52), some (v_i i)] [] g3) : lwW L xs 622 [some (v_r 90), some (v_r 0), some (v_r 52), some (v_i i)] [] g := by
  refine lw_aload dL_law_622 rfl ?_
  refine lw_aload dL_law_623 rfl ?_
  refine lw_iload dL_law_624 rfl ?_
  refine lw_iconst dL_law_625 ?_
  refine lw_iadd dL_law_626 ?_
  refine lw_sld dL_law_627 (by omega) ?_
  refine lw_aload dL_law_628 rfl ?_
  refine lw_iload dL_law_629 rfl ?_
  refine lw_iconst dL_law_630 ?_
  refine lw_iadd dL_law_631 ?_
  refine lw_sld dL_law_632 (by omega) ?_
  refine lw_V2 dL_law_633 okX5_unlike lkL_82 rfl rfl rfl ?_
  refine bo_unlike hC hM hV ⟨lw_r _, lw_r _⟩ _ (fun x g2 h2 => ?_)
  refine lw_aload dL_law_636 rfl ?_
  refine lw_aload dL_law_637 rfl ?_
  refine lw_iload dL_law_638 rfl ?_
  refine lw_iconst dL_law_639 ?_
  refine lw_iadd dL_law_640 ?_
  refine lw_sld dL_law_641 (by omega) ?_
  refine lw_aload dL_law_642 rfl ?_
  refine lw_iload dL_law_643 rfl ?_
  refine lw_iconst dL_law_644 ?_
  refine lw_iadd dL_law_645 ?_
  refine lw_sld dL_law_646 (by omega) ?_
  refine lw_V2 dL_law_647 okX6_unlike lkL_85 rfl rfl rfl ?_
  refine h2 _ (fun g3 Z3 r1 r2 r3 => ?_)
  exact lw_eq (tg := 1032) dL_law_650 (by decide) (nx g3 Z3 r1 r2 r3)
theorem lwc_17 {L : Nat} {xs : Nat → Int32} {i B : Int} {Z : zZ} {g : sp_G} (hi : 0 ≤ i ∧ i + 4 < L) (hC : cRep g Z) (hM : mRep g Z) (hV : zV B Z) (nx : ∀ (g3 : sp_G) (Z3 : zZ), cRep g3 Z3 → mRep g3 Z3 → zV (B + 1) Z3 → lwW L xs 1032 [some (v_r 90), some (v_r 0), some (v_r 52), some (v_i i)] [] g3) : lwW L xs 655 [some (v_r 90), some (v_r 0), some (v_r 52), some (v_i i)] [] g := by
  refine lw_aload dL_law_655 rfl ?_
  refine lw_aload dL_law_656 rfl ?_
  refine lw_iload dL_law_657 rfl ?_
  refine lw_iconst dL_law_658 ?_
  refine lw_iadd dL_law_659 ?_
  refine lw_sld dL_law_660 (by omega) ?_
  refine lw_V1 dL_law_661 okX5_odd lkL_86 rfl rfl rfl ?_
  refine bo_odd hC hM hV (lw_r _) _ (fun x g2 h2 => ?_)
  refine lw_aload dL_law_664 rfl ?_
  refine lw_aload dL_law_665 rfl ?_
  refine lw_iload dL_law_666 rfl ?_
  refine lw_iconst dL_law_667 ?_
  refine lw_iadd dL_law_668 ?_
  refine lw_sld dL_law_669 (by omega) ?_
  refine lw_V1 dL_law_670 okX6_odd lkL_89 rfl rfl rfl ?_
  refine h2 _ (fun g3 Z3 r1 r2 r3 => ?_)
  exact lw_eq (tg := 1032) dL_law_673 (by decide) (nx g3 Z3 r1 r2 r3)
theorem lwc_18 {L : Nat} {xs : Nat → Int32} {i B : Int} {Z : zZ} {g : sp_G} (hi : 0 ≤ i ∧ i + 4 < L) (hC : cRep g Z) (hM : mRep g Z) (hV : zV B Z) (nx : ∀ (g3 : sp_G) (Z3 : zZ), cRep g3 Z3 → mRep g3 Z3 → zV (B + 1) Z3 → lwW L xs 1032 [some (v_r 90), some (v_r 0), some (v_r 52), some (v_i i)] [] g3) : lwW L xs 678 [some (v_r 90), some (v_r 0), some (v_r 52), some (v_i i)] [] g := by
  refine lw_aload dL_law_678 rfl ?_
  refine lw_aload dL_law_679 rfl ?_
  refine lw_iload dL_law_680 rfl ?_
  refine lw_iconst dL_law_681 ?_
  refine lw_iadd dL_law_682 ?_
  refine lw_sld dL_law_683 (by omega) ?_
  refine lw_aload dL_law_684 rfl ?_
  refine lw_iload dL_law_685 rfl ?_
  refine lw_iconst dL_law_686 ?_
  refine lw_iadd dL_law_687 ?_
  refine lw_sld dL_law_688 (by omega) ?_
  refine lw_V2 dL_law_689 okX5_paper lkL_90 rfl rfl rfl ?_
  refine bo_paper hC hM hV ⟨lw_r _, lw_r _⟩ _ (fun x g2 h2 => ?_)
  refine lw_aload dL_law_692 rfl ?_
  refine lw_aload dL_law_693 rfl ?_
  refine lw_iload dL_law_694 rfl ?_
  refine lw_iconst dL_law_695 ?_
  refine lw_iadd dL_law_696 ?_
  refine lw_sld dL_law_697 (by omega) ?_
  refine lw_aload dL_law_698 rfl ?_
  refine lw_iload dL_law_699 rfl ?_
  refine lw_iconst dL_law_700 ?_
  refine lw_iadd dL_law_701 ?_
  refine lw_sld dL_law_702 (by omega) ?_
  refine lw_V2 dL_law_703 okX6_paper lkL_93 rfl rfl rfl ?_
  refine h2 _ (fun g3 Z3 r1 r2 r3 => ?_)
  exact lw_eq (tg := 1032) dL_law_706 (by decide) (nx g3 Z3 r1 r2 r3)
theorem lwc_19 {L : Nat} {xs : Nat → Int32} {i B : Int} {Z : zZ} {g : sp_G} (hi : 0 ≤ i ∧ i + 4 < L) (hC : cRep g Z) (hM : mRep g Z) (hV : zV B Z) (nx : ∀ (g3 : sp_G) (Z3 : zZ), cRep g3 Z3 → mRep g3 Z3 → zV (B + 1) Z3 → lwW L xs 1032 [some (v_r 90), some (v_r 0), some (v_r 52), some (v_i i)] [] g3) : lwW L xs 711 [some (v_r 90), some (v_r 0), some (v_r 52), some (v_i i)] [] g := by
  refine lw_aload dL_law_711 rfl ?_
  refine lw_aload dL_law_712 rfl ?_
  refine lw_iload dL_law_713 rfl ?_
  refine lw_iconst dL_law_714 ?_
  refine lw_iadd dL_law_715 ?_
  refine lw_sld dL_law_716 (by omega) ?_
  refine lw_V1 dL_law_717 okX5_faces lkL_94 rfl rfl rfl ?_
  refine bo_faces hC hM hV (lw_r _) _ (fun x g2 h2 => ?_)
  refine lw_aload dL_law_720 rfl ?_
  refine lw_aload dL_law_721 rfl ?_
  refine lw_iload dL_law_722 rfl ?_
  refine lw_iconst dL_law_723 ?_
  refine lw_iadd dL_law_724 ?_
  refine lw_sld dL_law_725 (by omega) ?_
  refine lw_V1 dL_law_726 okX6_faces lkL_97 rfl rfl rfl ?_
  refine h2 _ (fun g3 Z3 r1 r2 r3 => ?_)
  exact lw_eq (tg := 1032) dL_law_729 (by decide) (nx g3 Z3 r1 r2 r3)
theorem lwc_20 {L : Nat} {xs : Nat → Int32} {i B : Int} {Z : zZ} {g : sp_G} (hi : 0 ≤ i ∧ i + 4 < L) (hC : cRep g Z) (hM : mRep g Z) (hV : zV B Z) (nx : ∀ (g3 : sp_G) (Z3 : zZ), cRep g3 Z3 → mRep g3 Z3 → zV (B + 1) Z3 → lwW L xs 1032 [some (v_r 90), some (v_r 0), some (v_r 52), some (v_i i)] [] g3) : lwW L xs 734 [some (v_r 90), some (v_r 0), some (v_r 52), some (v_i i)] [] g := by
  refine lw_aload dL_law_734 rfl ?_
  refine lw_aload dL_law_735 rfl ?_
  refine lw_iload dL_law_736 rfl ?_
  refine lw_iconst dL_law_737 ?_
  refine lw_iadd dL_law_738 ?_
  refine lw_sld dL_law_739 (by omega) ?_
  refine lw_aload dL_law_740 rfl ?_
  refine lw_iload dL_law_741 rfl ?_
  refine lw_iconst dL_law_742 ?_
  refine lw_iadd dL_law_743 ?_
  refine lw_sld dL_law_744 (by omega) ?_
  refine lw_aload dL_law_745 rfl ?_
  refine lw_iload dL_law_746 rfl ?_
  refine lw_iconst dL_law_747 ?_
  refine lw_iadd dL_law_748 ?_
  refine lw_sld dL_law_749 (by omega) ?_
  refine lw_V3 dL_law_750 okX5_contest lkL_98 rfl rfl rfl ?_
  refine bo_contest hC hM hV ⟨lw_r _, lw_r _, lw_r _⟩ _ (fun x g2 h2 => ?_)
  refine lw_aload dL_law_753 rfl ?_
  refine lw_aload dL_law_754 rfl ?_
  refine lw_iload dL_law_755 rfl ?_
  refine lw_iconst dL_law_756 ?_
  refine lw_iadd dL_law_757 ?_
  refine lw_sld dL_law_758 (by omega) ?_
  refine lw_aload dL_law_759 rfl ?_
  refine lw_iload dL_law_760 rfl ?_
  refine lw_iconst dL_law_761 ?_
  refine lw_iadd dL_law_762 ?_
  refine lw_sld dL_law_763 (by omega) ?_
  refine lw_aload dL_law_764 rfl ?_
  refine lw_iload dL_law_765 rfl ?_
  refine lw_iconst dL_law_766 ?_
  refine lw_iadd dL_law_767 ?_
  refine lw_sld dL_law_768 (by omega) ?_
  refine lw_V3 dL_law_769 okX6_contest lkL_101 rfl rfl rfl ?_
  refine h2 _ (fun g3 Z3 r1 r2 r3 => ?_)
  exact lw_eq (tg := 1032) dL_law_772 (by decide) (nx g3 Z3 r1 r2 r3)
theorem lwc_21 {L : Nat} {xs : Nat → Int32} {i B : Int} {Z : zZ} {g : sp_G} (hi : 0 ≤ i ∧ i + 4 < L) (hC : cRep g Z) (hM : mRep g Z) (hV : zV B Z) (nx : ∀ (g3 : sp_G) (Z3 : zZ), cRep g3 Z3 → mRep g3 Z3 → zV (B + 1) Z3 → lwW L xs 1032 [some (v_r 90), some (v_r 0), some (v_r 52), some (v_i i)] [] g3) : lwW L xs 777 [some (v_r 90), some (v_r 0), some (v_r 52), some (v_i i)] [] g := by
  refine lw_aload dL_law_777 rfl ?_
  refine lw_aload dL_law_778 rfl ?_
  refine lw_iload dL_law_779 rfl ?_
  refine lw_iconst dL_law_780 ?_
  refine lw_iadd dL_law_781 ?_
  refine lw_sld dL_law_782 (by omega) ?_
  refine lw_aload dL_law_783 rfl ?_
  refine lw_iload dL_law_784 rfl ?_
  refine lw_iconst dL_law_785 ?_
  refine lw_iadd dL_law_786 ?_
  refine lw_sld dL_law_787 (by omega) ?_
  refine lw_V2 dL_law_788 okX5_room lkL_102 rfl rfl rfl ?_
  refine bo_room hC hM hV ⟨lw_r _, lw_r _⟩ _ (fun x g2 h2 => ?_)
  refine lw_aload dL_law_791 rfl ?_
  refine lw_aload dL_law_792 rfl ?_
  refine lw_iload dL_law_793 rfl ?_
  refine lw_iconst dL_law_794 ?_
  refine lw_iadd dL_law_795 ?_
  refine lw_sld dL_law_796 (by omega) ?_
  refine lw_aload dL_law_797 rfl ?_
  refine lw_iload dL_law_798 rfl ?_
  refine lw_iconst dL_law_799 ?_
  refine lw_iadd dL_law_800 ?_
  refine lw_sld dL_law_801 (by omega) ?_
  refine lw_V2 dL_law_802 okX6_room lkL_105 rfl rfl rfl ?_
  refine h2 _ (fun g3 Z3 r1 r2 r3 => ?_)
  exact lw_eq (tg := 1032) dL_law_805 (by decide) (nx g3 Z3 r1 r2 r3)
theorem lwc_22 {L : Nat} {xs : Nat → Int32} {i B : Int} {Z : zZ} {g : sp_G} (hi : 0 ≤ i ∧ i + 4 < L) (hC : cRep g Z) (hM : mRep g Z) (hV : zV B Z) (nx : ∀ (g3 : sp_G) (Z3 : zZ), cRep g3 Z3 → mRep g3 Z3 → zV (B + 1) Z3 → lwW L xs 1032 [some (v_r 90), some (v_r 0), some (v_r 52), some (v_i i)] [] g3) : lwW L xs 810 [some (v_r 90), some (v_r 0), some (v_r 52), some (v_i i)] [] g := by
  refine lw_aload dL_law_810 rfl ?_
  refine lw_aload dL_law_811 rfl ?_
  refine lw_iload dL_law_812 rfl ?_
  refine lw_iconst dL_law_813 ?_
  refine lw_iadd dL_law_814 ?_
  refine lw_sld dL_law_815 (by omega) ?_
  refine lw_V1 dL_law_816 okX5_rule lkL_106 rfl rfl rfl ?_
  refine bo_rule hC hM hV (lw_r _) _ (fun x g2 h2 => ?_)
  refine lw_aload dL_law_819 rfl ?_
  refine lw_aload dL_law_820 rfl ?_
  refine lw_iload dL_law_821 rfl ?_
  refine lw_iconst dL_law_822 ?_
  refine lw_iadd dL_law_823 ?_
  refine lw_sld dL_law_824 (by omega) ?_
  refine lw_V1 dL_law_825 okX6_rule lkL_109 rfl rfl rfl ?_
  refine h2 _ (fun g3 Z3 r1 r2 r3 => ?_)
  exact lw_eq (tg := 1032) dL_law_828 (by decide) (nx g3 Z3 r1 r2 r3)
theorem lwc_23 {L : Nat} {xs : Nat → Int32} {i B : Int} {Z : zZ} {g : sp_G} (hi : 0 ≤ i ∧ i + 4 < L) (hC : cRep g Z) (hM : mRep g Z) (hV : zV B Z) (nx : ∀ (g3 : sp_G) (Z3 : zZ), cRep g3 Z3 → mRep g3 Z3 → zV (B + 1) Z3 → lwW L xs 1032 [some (v_r 90), some (v_r 0), some (v_r 52), some (v_i i)] [] g3) : lwW L xs 833 [some (v_r 90), some (v_r 0), some (v_r 52), some (v_i i)] [] g := by
  refine lw_aload dL_law_833 rfl ?_
  refine lw_aload dL_law_834 rfl ?_
  refine lw_iload dL_law_835 rfl ?_
  refine lw_iconst dL_law_836 ?_
  refine lw_iadd dL_law_837 ?_
  refine lw_sld dL_law_838 (by omega) ?_
  refine lw_aload dL_law_839 rfl ?_
  refine lw_iload dL_law_840 rfl ?_
  refine lw_iconst dL_law_841 ?_
  refine lw_iadd dL_law_842 ?_
  refine lw_sld dL_law_843 (by omega) ?_
  refine lw_V2 dL_law_844 okX5_leads lkL_110 rfl rfl rfl ?_
  refine bo_leads hC hM hV ⟨lw_r _, lw_r _⟩ _ (fun x g2 h2 => ?_)
  refine lw_aload dL_law_847 rfl ?_
  refine lw_aload dL_law_848 rfl ?_
  refine lw_iload dL_law_849 rfl ?_
  refine lw_iconst dL_law_850 ?_
  refine lw_iadd dL_law_851 ?_
  refine lw_sld dL_law_852 (by omega) ?_
  refine lw_aload dL_law_853 rfl ?_
  refine lw_iload dL_law_854 rfl ?_
  refine lw_iconst dL_law_855 ?_
  refine lw_iadd dL_law_856 ?_
  refine lw_sld dL_law_857 (by omega) ?_
  refine lw_V2 dL_law_858 okX6_leads lkL_113 rfl rfl rfl ?_
  refine h2 _ (fun g3 Z3 r1 r2 r3 => ?_)
  exact lw_eq (tg := 1032) dL_law_861 (by decide) (nx g3 Z3 r1 r2 r3)
theorem lwc_24 {L : Nat} {xs : Nat → Int32} {i B : Int} {Z : zZ} {g : sp_G} (hi : 0 ≤ i ∧ i + 4 < L) (hC : cRep g Z) (hM : mRep g Z) (hV : zV B Z) (nx : ∀ (g3 : sp_G) (Z3 : zZ), cRep g3 Z3 → mRep g3 Z3 → zV (B + 1) Z3 → lwW L xs 1032 [some (v_r 90), some (v_r 0), some (v_r 52), some (v_i i)] [] g3) : lwW L xs 866 [some (v_r 90), some (v_r 0), some (v_r 52), some (v_i i)] [] g := by
  refine lw_aload dL_law_866 rfl ?_
  refine lw_aload dL_law_867 rfl ?_
  refine lw_iload dL_law_868 rfl ?_
  refine lw_iconst dL_law_869 ?_
  refine lw_iadd dL_law_870 ?_
  refine lw_sld dL_law_871 (by omega) ?_
  refine lw_aload dL_law_872 rfl ?_
  refine lw_iload dL_law_873 rfl ?_
  refine lw_iconst dL_law_874 ?_
  refine lw_iadd dL_law_875 ?_
  refine lw_sld dL_law_876 (by omega) ?_
  refine lw_aload dL_law_877 rfl ?_
  refine lw_iload dL_law_878 rfl ?_
  refine lw_iconst dL_law_879 ?_
  refine lw_iadd dL_law_880 ?_
  refine lw_sld dL_law_881 (by omega) ?_
  refine lw_V3 dL_law_882 okX5_lead lkL_114 rfl rfl rfl ?_
  refine bo_lead hC hM hV ⟨lw_r _, lw_r _, lw_r _⟩ _ (fun x g2 h2 => ?_)
  refine lw_aload dL_law_885 rfl ?_
  refine lw_aload dL_law_886 rfl ?_
  refine lw_iload dL_law_887 rfl ?_
  refine lw_iconst dL_law_888 ?_
  refine lw_iadd dL_law_889 ?_
  refine lw_sld dL_law_890 (by omega) ?_
  refine lw_aload dL_law_891 rfl ?_
  refine lw_iload dL_law_892 rfl ?_
  refine lw_iconst dL_law_893 ?_
  refine lw_iadd dL_law_894 ?_
  refine lw_sld dL_law_895 (by omega) ?_
  refine lw_aload dL_law_896 rfl ?_
  refine lw_iload dL_law_897 rfl ?_
  refine lw_iconst dL_law_898 ?_
  refine lw_iadd dL_law_899 ?_
  refine lw_sld dL_law_900 (by omega) ?_
  refine lw_V3 dL_law_901 okX6_lead lkL_117 rfl rfl rfl ?_
  refine h2 _ (fun g3 Z3 r1 r2 r3 => ?_)
  exact lw_eq (tg := 1032) dL_law_904 (by decide) (nx g3 Z3 r1 r2 r3)
theorem lwc_25 {L : Nat} {xs : Nat → Int32} {i B : Int} {Z : zZ} {g : sp_G} (hi : 0 ≤ i ∧ i + 4 < L) (hC : cRep g Z) (hM : mRep g Z) (hV : zV B Z) (nx : ∀ (g3 : sp_G) (Z3 : zZ), cRep g3 Z3 → mRep g3 Z3 → zV (B + 1) Z3 → lwW L xs 1032 [some (v_r 90), some (v_r 0), some (v_r 52), some (v_i i)] [] g3) : lwW L xs 909 [some (v_r 90), some (v_r 0), some (v_r 52), some (v_i i)] [] g := by
  refine lw_aload dL_law_909 rfl ?_
  refine lw_aload dL_law_910 rfl ?_
  refine lw_iload dL_law_911 rfl ?_
  refine lw_iconst dL_law_912 ?_
  refine lw_iadd dL_law_913 ?_
  refine lw_sld dL_law_914 (by omega) ?_
  refine lw_aload dL_law_915 rfl ?_
  refine lw_iload dL_law_916 rfl ?_
  refine lw_iconst dL_law_917 ?_
  refine lw_iadd dL_law_918 ?_
  refine lw_sld dL_law_919 (by omega) ?_
  refine lw_aload dL_law_920 rfl ?_
  refine lw_iload dL_law_921 rfl ?_
  refine lw_iconst dL_law_922 ?_
  refine lw_iadd dL_law_923 ?_
  refine lw_sld dL_law_924 (by omega) ?_
  refine lw_V3 dL_law_925 okX5_fair lkL_118 rfl rfl rfl ?_
  refine bo_fair hC hM hV ⟨lw_r _, lw_r _, lw_r _⟩ _ (fun x g2 h2 => ?_)
  refine lw_aload dL_law_928 rfl ?_
  refine lw_aload dL_law_929 rfl ?_
  refine lw_iload dL_law_930 rfl ?_
  refine lw_iconst dL_law_931 ?_
  refine lw_iadd dL_law_932 ?_
  refine lw_sld dL_law_933 (by omega) ?_
  refine lw_aload dL_law_934 rfl ?_
  refine lw_iload dL_law_935 rfl ?_
  refine lw_iconst dL_law_936 ?_
  refine lw_iadd dL_law_937 ?_
  refine lw_sld dL_law_938 (by omega) ?_
  refine lw_aload dL_law_939 rfl ?_
  refine lw_iload dL_law_940 rfl ?_
  refine lw_iconst dL_law_941 ?_
  refine lw_iadd dL_law_942 ?_
  refine lw_sld dL_law_943 (by omega) ?_
  refine lw_V3 dL_law_944 okX6_fair lkL_121 rfl rfl rfl ?_
  refine h2 _ (fun g3 Z3 r1 r2 r3 => ?_)
  exact lw_eq (tg := 1032) dL_law_947 (by decide) (nx g3 Z3 r1 r2 r3)
theorem lwc_26 {L : Nat} {xs : Nat → Int32} {i B : Int} {Z : zZ} {g : sp_G} (hi : 0 ≤ i ∧ i + 4 < L) (hC : cRep g Z) (hM : mRep g Z) (hV : zV B Z) (nx : ∀ (g3 : sp_G) (Z3 : zZ), cRep g3 Z3 → mRep g3 Z3 → zV (B + 1) Z3 → lwW L xs 1032 [some (v_r 90), some (v_r 0), some (v_r 52), some (v_i i)] [] g3) : lwW L xs 952 [some (v_r 90), some (v_r 0), some (v_r 52), some (v_i i)] [] g := by
  refine lw_aload dL_law_952 rfl ?_
  refine lw_aload dL_law_953 rfl ?_
  refine lw_iload dL_law_954 rfl ?_
  refine lw_iconst dL_law_955 ?_
  refine lw_iadd dL_law_956 ?_
  refine lw_sld dL_law_957 (by omega) ?_
  refine lw_aload dL_law_958 rfl ?_
  refine lw_iload dL_law_959 rfl ?_
  refine lw_iconst dL_law_960 ?_
  refine lw_iadd dL_law_961 ?_
  refine lw_sld dL_law_962 (by omega) ?_
  refine lw_aload dL_law_963 rfl ?_
  refine lw_iload dL_law_964 rfl ?_
  refine lw_iconst dL_law_965 ?_
  refine lw_iadd dL_law_966 ?_
  refine lw_sld dL_law_967 (by omega) ?_
  refine lw_V3 dL_law_968 okX5_place lkL_122 rfl rfl rfl ?_
  refine bo_place hC hM hV ⟨lw_r _, lw_r _, lw_r _⟩ _ (fun x g2 h2 => ?_)
  refine lw_aload dL_law_971 rfl ?_
  refine lw_aload dL_law_972 rfl ?_
  refine lw_iload dL_law_973 rfl ?_
  refine lw_iconst dL_law_974 ?_
  refine lw_iadd dL_law_975 ?_
  refine lw_sld dL_law_976 (by omega) ?_
  refine lw_aload dL_law_977 rfl ?_
  refine lw_iload dL_law_978 rfl ?_
  refine lw_iconst dL_law_979 ?_
  refine lw_iadd dL_law_980 ?_
  refine lw_sld dL_law_981 (by omega) ?_
  refine lw_aload dL_law_982 rfl ?_
  refine lw_iload dL_law_983 rfl ?_
  refine lw_iconst dL_law_984 ?_
  refine lw_iadd dL_law_985 ?_
  refine lw_sld dL_law_986 (by omega) ?_
  refine lw_V3 dL_law_987 okX6_place lkL_125 rfl rfl rfl ?_
  refine h2 _ (fun g3 Z3 r1 r2 r3 => ?_)
  exact lw_eq (tg := 1032) dL_law_990 (by decide) (nx g3 Z3 r1 r2 r3)
theorem lwc_27 {L : Nat} {xs : Nat → Int32} {i B : Int} {Z : zZ} {g : sp_G} (hi : 0 ≤ i ∧ i + 4 < L) (hC : cRep g Z) (hM : mRep g Z) (hV : zV B Z) (nx : ∀ (g3 : sp_G) (Z3 : zZ), cRep g3 Z3 → mRep g3 Z3 → zV (B + 1) Z3 → lwW L xs 1032 [some (v_r 90), some (v_r 0), some (v_r 52), some (v_i i)] [] g3) : lwW L xs 995 [some (v_r 90), some (v_r 0), some (v_r 52), some (v_i i)] [] g := by
  refine lw_aload dL_law_995 rfl ?_
  refine lw_aload dL_law_996 rfl ?_
  refine lw_iload dL_law_997 rfl ?_
  refine lw_iconst dL_law_998 ?_
  refine lw_iadd dL_law_999 ?_
  refine lw_sld dL_law_1000 (by omega) ?_
  refine lw_V1 dL_law_1001 okX5_told lkL_126 rfl rfl rfl ?_
  refine bo_told hC hM hV (lw_r _) _ (fun x g2 h2 => ?_)
  refine lw_aload dL_law_1004 rfl ?_
  refine lw_aload dL_law_1005 rfl ?_
  refine lw_iload dL_law_1006 rfl ?_
  refine lw_iconst dL_law_1007 ?_
  refine lw_iadd dL_law_1008 ?_
  refine lw_sld dL_law_1009 (by omega) ?_
  refine lw_V1 dL_law_1010 okX6_told lkL_129 rfl rfl rfl ?_
  refine h2 _ (fun g3 Z3 r1 r2 r3 => ?_)
  exact lw_eq (tg := 1032) dL_law_1013 (by decide) (nx g3 Z3 r1 r2 r3)
theorem lwc_28 {L : Nat} {xs : Nat → Int32} {i B : Int} {Z : zZ} {g : sp_G} (hi : 0 ≤ i ∧ i + 4 < L) (hC : cRep g Z) (hM : mRep g Z) (hV : zV B Z) (hB : B ≤ 1000000) (nx : ∀ (g3 : sp_G) (Z3 : zZ), cRep g3 Z3 → mRep g3 Z3 → zV (B + 1) Z3 → lwW L xs 1032 [some (v_r 90), some (v_r 0), some (v_r 52), some (v_i i)] [] g3) : lwW L xs 1018 [some (v_r 90), some (v_r 0), some (v_r 52), some (v_i i)] [] g := by
  refine lw_aload dL_law_1018 rfl ?_
  refine lw_V0 dL_law_1019 okX5_digest lkL_130 rfl rfl rfl ?_
  refine bo_digest hC hM hV hB _ (fun x g2 h2 => ?_)
  refine lw_aload dL_law_1022 rfl ?_
  refine lw_V0 dL_law_1023 okX6_digest lkL_134 rfl rfl rfl ?_
  refine h2 _ (fun g3 Z3 r1 r2 r3 => ?_)
  refine lw_lcmp dL_law_1026 ?_
  exact lw_ifz (tg := 1032) dL_law_1027 (by decide) (nx g3 Z3 r1 r2 r3)
theorem lw_loop {L : Nat} {xs : Nat → Int32} (hL : L ≤ 2560) : ∀ (f n : Nat) (i : Int) (Z : zZ) (g : sp_G), L ≤ 5 * n + f → i = 5 * (n : Int) → n ≤ 513 → cRep g Z → mRep g Z → zV (n : Int) Z → lwW L xs 18 [some (v_r 90), some (v_r 0), some (v_r 52), some (v_i i)] [] g := by
  intro f
  induction f with
  | zero =>
    intro n i Z g hf ei hn hC hM hV
    refine lw_iload dL_law_18 rfl ?_
    refine lw_aload dL_law_19 rfl ?_
    refine lw_len dL_law_20 ?_
    refine lw_iconst dL_law_21 ?_
    refine lw_isub dL_law_22 ?_
    refine lw_gt (tg := 1038) dL_law_23 (by decide) (by omega) (fun _ => ?_) (fun h => absurd h (by omega))
    refine lw_iconst dL_law_1038 ?_
    exact lw_end dL_law_1039
  | succ f ih =>
    intro n i Z g hf ei hn hC hM hV
    refine lw_iload dL_law_18 rfl ?_
    refine lw_aload dL_law_19 rfl ?_
    refine lw_len dL_law_20 ?_
    refine lw_iconst dL_law_21 ?_
    refine lw_isub dL_law_22 ?_
    refine lw_gt (tg := 1038) dL_law_23 (by decide) (by omega) (fun _ => ?_) (fun h => ?_)
    · refine lw_iconst dL_law_1038 ?_
      exact lw_end dL_law_1039
    · have hi : 0 ≤ i ∧ i + 4 < L := by omega
      have nx : ∀ (g3 : sp_G) (Z3 : zZ), cRep g3 Z3 → mRep g3 Z3 → zV ((n : Int) + 1) Z3 → lwW L xs 1032 [some (v_r 90), some (v_r 0), some (v_r 52), some (v_i i)] [] g3 := by
        intro g3 Z3 r1 r2 r3
        refine lw_iinc (L2 := [some (v_r 90), some (v_r 0), some (v_r 52), some (v_i (i + 5))]) dL_law_1032 rfl (by decide) rfl rfl ?_
        refine lw_goto (tg := 18) dL_law_1035 (by decide) ?_
        exact ih (n + 1) (i + 5) Z3 g3 (by omega) (by omega) (by omega) r1 r2 r3
      refine lw_aload dL_law_26 rfl ?_
      refine lw_iload dL_law_27 rfl ?_
      refine lw_sld dL_law_28 (by omega) ?_
      refine lw_bipush dL_law_29 (by decide) ?_
      refine lw_iand dL_law_31 ?_
      have hx : -2147483648 ≤ sp_and (xs i.toNat).toInt 31 ∧ sp_and (xs i.toNat).toInt 31 < 2147483648 := lw_r _
      by_cases q : sp_and (xs i.toNat).toInt 31 < 0 ∨ 28 < sp_and (xs i.toNat).toInt 31
      · refine lw_swO (tg := 1032) dL_law_32 hx q (by decide) ?_
        exact nx g Z hC hM (zV_1 hV)
      · by_cases q0 : sp_and (xs i.toNat).toInt 31 = 0
        · refine lw_swI (tg := 164) dL_law_32 hx (by omega) (by omega) (by rw [q0]; rfl) (by decide) ?_
          exact lwc_0 hi hC hM hV nx
        by_cases q1 : sp_and (xs i.toNat).toInt 31 = 1
        · refine lw_swI (tg := 197) dL_law_32 hx (by omega) (by omega) (by rw [q1]; rfl) (by decide) ?_
          exact lwc_1 hi hC hM hV nx
        by_cases q2 : sp_and (xs i.toNat).toInt 31 = 2
        · refine lw_swI (tg := 250) dL_law_32 hx (by omega) (by omega) (by rw [q2]; rfl) (by decide) ?_
          exact lwc_2 hi hC hM hV nx
        by_cases q3 : sp_and (xs i.toNat).toInt 31 = 3
        · refine lw_swI (tg := 293) dL_law_32 hx (by omega) (by omega) (by rw [q3]; rfl) (by decide) ?_
          exact lwc_3 hi hC hM hV nx
        by_cases q4 : sp_and (xs i.toNat).toInt 31 = 4
        · refine lw_swI (tg := 326) dL_law_32 hx (by omega) (by omega) (by rw [q4]; rfl) (by decide) ?_
          exact lwc_4 hi hC hM hV nx
        by_cases q5 : sp_and (xs i.toNat).toInt 31 = 5
        · refine lw_swI (tg := 369) dL_law_32 hx (by omega) (by omega) (by rw [q5]; rfl) (by decide) ?_
          exact lwc_5 hi hC hM hV nx
        by_cases q6 : sp_and (xs i.toNat).toInt 31 = 6
        · refine lw_swI (tg := 412) dL_law_32 hx (by omega) (by omega) (by rw [q6]; rfl) (by decide) ?_
          exact lwc_6 hi hC hM hV nx
        by_cases q7 : sp_and (xs i.toNat).toInt 31 = 7
        · refine lw_swI (tg := 425) dL_law_32 hx (by omega) (by omega) (by rw [q7]; rfl) (by decide) ?_
          exact lwc_7 hi hC hM hV nx
        by_cases q8 : sp_and (xs i.toNat).toInt 31 = 8
        · refine lw_swI (tg := 458) dL_law_32 hx (by omega) (by omega) (by rw [q8]; rfl) (by decide) ?_
          exact lwc_8 hi hC hM hV nx
        by_cases q9 : sp_and (xs i.toNat).toInt 31 = 9
        · refine lw_swI (tg := 481) dL_law_32 hx (by omega) (by omega) (by rw [q9]; rfl) (by decide) ?_
          exact lwc_9 hi hC hM hV nx
        by_cases q10 : sp_and (xs i.toNat).toInt 31 = 10
        · refine lw_swI (tg := 494) dL_law_32 hx (by omega) (by omega) (by rw [q10]; rfl) (by decide) ?_
          exact lwc_10 hi hC hM hV nx
        by_cases q11 : sp_and (xs i.toNat).toInt 31 = 11
        · refine lw_swI (tg := 507) dL_law_32 hx (by omega) (by omega) (by rw [q11]; rfl) (by decide) ?_
          exact lwc_11 hi hC hM hV nx
        by_cases q12 : sp_and (xs i.toNat).toInt 31 = 12
        · refine lw_swI (tg := 520) dL_law_32 hx (by omega) (by omega) (by rw [q12]; rfl) (by decide) ?_
          exact lwc_12 hi hC hM hV nx
        by_cases q13 : sp_and (xs i.toNat).toInt 31 = 13
        · refine lw_swI (tg := 553) dL_law_32 hx (by omega) (by omega) (by rw [q13]; rfl) (by decide) ?_
          exact lwc_13 hi hC hM hV nx
        by_cases q14 : sp_and (xs i.toNat).toInt 31 = 14
        · refine lw_swI (tg := 576) dL_law_32 hx (by omega) (by omega) (by rw [q14]; rfl) (by decide) ?_
          exact lwc_14 hi hC hM hV nx
        by_cases q15 : sp_and (xs i.toNat).toInt 31 = 15
        · refine lw_swI (tg := 589) dL_law_32 hx (by omega) (by omega) (by rw [q15]; rfl) (by decide) ?_
          exact lwc_15 hi hC hM hV nx
        by_cases q16 : sp_and (xs i.toNat).toInt 31 = 16
        · refine lw_swI (tg := 622) dL_law_32 hx (by omega) (by omega) (by rw [q16]; rfl) (by decide) ?_
          exact lwc_16 hi hC hM hV nx
        by_cases q17 : sp_and (xs i.toNat).toInt 31 = 17
        · refine lw_swI (tg := 655) dL_law_32 hx (by omega) (by omega) (by rw [q17]; rfl) (by decide) ?_
          exact lwc_17 hi hC hM hV nx
        by_cases q18 : sp_and (xs i.toNat).toInt 31 = 18
        · refine lw_swI (tg := 678) dL_law_32 hx (by omega) (by omega) (by rw [q18]; rfl) (by decide) ?_
          exact lwc_18 hi hC hM hV nx
        by_cases q19 : sp_and (xs i.toNat).toInt 31 = 19
        · refine lw_swI (tg := 711) dL_law_32 hx (by omega) (by omega) (by rw [q19]; rfl) (by decide) ?_
          exact lwc_19 hi hC hM hV nx
        by_cases q20 : sp_and (xs i.toNat).toInt 31 = 20
        · refine lw_swI (tg := 734) dL_law_32 hx (by omega) (by omega) (by rw [q20]; rfl) (by decide) ?_
          exact lwc_20 hi hC hM hV nx
        by_cases q21 : sp_and (xs i.toNat).toInt 31 = 21
        · refine lw_swI (tg := 777) dL_law_32 hx (by omega) (by omega) (by rw [q21]; rfl) (by decide) ?_
          exact lwc_21 hi hC hM hV nx
        by_cases q22 : sp_and (xs i.toNat).toInt 31 = 22
        · refine lw_swI (tg := 810) dL_law_32 hx (by omega) (by omega) (by rw [q22]; rfl) (by decide) ?_
          exact lwc_22 hi hC hM hV nx
        by_cases q23 : sp_and (xs i.toNat).toInt 31 = 23
        · refine lw_swI (tg := 833) dL_law_32 hx (by omega) (by omega) (by rw [q23]; rfl) (by decide) ?_
          exact lwc_23 hi hC hM hV nx
        by_cases q24 : sp_and (xs i.toNat).toInt 31 = 24
        · refine lw_swI (tg := 866) dL_law_32 hx (by omega) (by omega) (by rw [q24]; rfl) (by decide) ?_
          exact lwc_24 hi hC hM hV nx
        by_cases q25 : sp_and (xs i.toNat).toInt 31 = 25
        · refine lw_swI (tg := 909) dL_law_32 hx (by omega) (by omega) (by rw [q25]; rfl) (by decide) ?_
          exact lwc_25 hi hC hM hV nx
        by_cases q26 : sp_and (xs i.toNat).toInt 31 = 26
        · refine lw_swI (tg := 952) dL_law_32 hx (by omega) (by omega) (by rw [q26]; rfl) (by decide) ?_
          exact lwc_26 hi hC hM hV nx
        by_cases q27 : sp_and (xs i.toNat).toInt 31 = 27
        · refine lw_swI (tg := 995) dL_law_32 hx (by omega) (by omega) (by rw [q27]; rfl) (by decide) ?_
          exact lwc_27 hi hC hM hV nx
        by_cases q28 : sp_and (xs i.toNat).toInt 31 = 28
        · refine lw_swI (tg := 1018) dL_law_32 hx (by omega) (by omega) (by rw [q28]; rfl) (by decide) ?_
          exact lwc_28 hi hC hM hV (by omega) nx
        omega
