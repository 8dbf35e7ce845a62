/-- the law, by any name (its name plays no part) -/
def M_LN (nm : String) : MD := (⟨RL, nm, "([I)Z"⟩, cL_law, 4, (some .boolean))
/-- what the law owes -/
def QL : Ps := fun r _ => r = some (iV 1)
theorem arm_0 {nm : String} {X : Nat × Nat × (Nat → Int32)} (hL : X.2.1 ≤ 3072) {i : Nat} (hi : i + 6 ≤ X.2.1) {s : Nat → Int} {m : Nat → Nat → Int} (h : LRL s m) (k : ∀ s2 m2, LRL s2 m2 → GX X (M_LN nm) 14 0 0 1457 [vV (.ref X.1), rV 0, rV 64, iV (i : Int)] [] (WC ++ (WM ++ []), m2) QL) : GX X (M_LN nm) 14 0 0 204 [vV (.ref X.1), rV 0, rV 64, iV (i : Int)] [] (WC ++ (WM ++ []), m) QL := by
  refine GX_aload_n d_L_law_204 rfl ?_
  refine GX_arg1 (i := i) 1 rfl rfl rfl d_L_law_205 d_L_law_206 d_L_law_207 d_L_law_208 d_L_law_209 (by omega) hL ?_
  refine GX_arg1 (i := i) 2 rfl rfl rfl d_L_law_210 d_L_law_211 d_L_law_212 d_L_law_213 d_L_law_214 (by omega) hL ?_
  refine GX_cv (X := X) [iV ((X.2.2 (i + 1)).toInt), iV ((X.2.2 (i + 2)).toInt)] cl_L_13 rfl d_L_law_215 (wk_0 _) rfl (Nat.le_of_ble_eq_true rfl) (by decide) (sp_Cpulses s h.1 h.2.2.1 ((X.2.2 (i + 1)).toInt) (oi_rng _) ((X.2.2 (i + 2)).toInt) (oi_rng _)) ?_
  rintro _ _ ⟨rfl, m1, rfl, hc, hf⟩
  refine GX_aload_n d_L_law_218 rfl ?_
  refine GX_arg1 (i := i) 1 rfl rfl rfl d_L_law_219 d_L_law_220 d_L_law_221 d_L_law_222 d_L_law_223 (by omega) hL ?_
  refine GX_arg1 (i := i) 2 rfl rfl rfl d_L_law_224 d_L_law_225 d_L_law_226 d_L_law_227 d_L_law_228 (by omega) hL ?_
  refine GX_cv (X := X) [iV ((X.2.2 (i + 1)).toInt), iV ((X.2.2 (i + 2)).toInt)] cl_L_17 rfl d_L_law_229 (wk_64 _) rfl (Nat.le_of_ble_eq_true rfl) (by decide) (sp_Mpulses s h.1 (h.mi hf) ((X.2.2 (i + 1)).toInt) (oi_rng _) ((X.2.2 (i + 2)).toInt) (oi_rng _)) ?_
  rintro _ _ ⟨rfl, m2, rfl, hk⟩
  refine GX_same 1457 d_L_law_232 (by decide) ?_
  exact k _ _ (h.both (VS_nxPulses h.1 ((X.2.2 (i + 1)).toInt) ((X.2.2 (i + 2)).toInt)) hc hf hk)
theorem arm_1 {nm : String} {X : Nat × Nat × (Nat → Int32)} (hL : X.2.1 ≤ 3072) {i : Nat} (hi : i + 6 ≤ X.2.1) {s : Nat → Int} {m : Nat → Nat → Int} (h : LRL s m) (k : ∀ s2 m2, LRL s2 m2 → GX X (M_LN nm) 14 0 0 1457 [vV (.ref X.1), rV 0, rV 64, iV (i : Int)] [] (WC ++ (WM ++ []), m2) QL) : GX X (M_LN nm) 14 0 0 237 [vV (.ref X.1), rV 0, rV 64, iV (i : Int)] [] (WC ++ (WM ++ []), m) QL := by
  refine GX_aload_n d_L_law_237 rfl ?_
  refine GX_arg1 (i := i) 1 rfl rfl rfl d_L_law_238 d_L_law_239 d_L_law_240 d_L_law_241 d_L_law_242 (by omega) hL ?_
  refine GX_arg1 (i := i) 2 rfl rfl rfl d_L_law_243 d_L_law_244 d_L_law_245 d_L_law_246 d_L_law_247 (by omega) hL ?_
  refine GX_cv (X := X) [iV ((X.2.2 (i + 1)).toInt), iV ((X.2.2 (i + 2)).toInt)] cl_L_18 rfl d_L_law_248 (wk_0 _) rfl (Nat.le_of_ble_eq_true rfl) (by decide) (sp_Ckind s h.1 h.2.2.1 ((X.2.2 (i + 1)).toInt) (oi_rng _) ((X.2.2 (i + 2)).toInt) (oi_rng _)) ?_
  rintro _ _ ⟨rfl, m1, rfl, hc, hf⟩
  refine GX_aload_n d_L_law_251 rfl ?_
  refine GX_arg1 (i := i) 1 rfl rfl rfl d_L_law_252 d_L_law_253 d_L_law_254 d_L_law_255 d_L_law_256 (by omega) hL ?_
  refine GX_arg1 (i := i) 2 rfl rfl rfl d_L_law_257 d_L_law_258 d_L_law_259 d_L_law_260 d_L_law_261 (by omega) hL ?_
  refine GX_cv (X := X) [iV ((X.2.2 (i + 1)).toInt), iV ((X.2.2 (i + 2)).toInt)] cl_L_22 rfl d_L_law_262 (wk_64 _) rfl (Nat.le_of_ble_eq_true rfl) (by decide) (sp_Mkind s h.1 (h.mi hf) ((X.2.2 (i + 1)).toInt) (oi_rng _) ((X.2.2 (i + 2)).toInt) (oi_rng _)) ?_
  rintro _ _ ⟨rfl, m2, rfl, hk⟩
  refine GX_same 1457 d_L_law_265 (by decide) ?_
  exact k _ _ (h.both (VS_nxKind h.1 ((X.2.2 (i + 1)).toInt) ((X.2.2 (i + 2)).toInt)) hc hf hk)
theorem arm_2 {nm : String} {X : Nat × Nat × (Nat → Int32)} (hL : X.2.1 ≤ 3072) {i : Nat} (hi : i + 6 ≤ X.2.1) {s : Nat → Int} {m : Nat → Nat → Int} (h : LRL s m) (k : ∀ s2 m2, LRL s2 m2 → GX X (M_LN nm) 14 0 0 1457 [vV (.ref X.1), rV 0, rV 64, iV (i : Int)] [] (WC ++ (WM ++ []), m2) QL) : GX X (M_LN nm) 14 0 0 270 [vV (.ref X.1), rV 0, rV 64, iV (i : Int)] [] (WC ++ (WM ++ []), m) QL := by
  refine GX_aload_n d_L_law_270 rfl ?_
  refine GX_arg1 (i := i) 1 rfl rfl rfl d_L_law_271 d_L_law_272 d_L_law_273 d_L_law_274 d_L_law_275 (by omega) hL ?_
  refine GX_cv (X := X) [iV ((X.2.2 (i + 1)).toInt)] cl_L_23 rfl d_L_law_276 (wk_0 _) rfl (Nat.le_of_ble_eq_true rfl) (by decide) (sp_Cturn s h.1 h.2.2.1 ((X.2.2 (i + 1)).toInt) (oi_rng _)) ?_
  rintro _ _ ⟨rfl, m1, rfl, hc, hf⟩
  refine GX_aload_n d_L_law_279 rfl ?_
  refine GX_arg1 (i := i) 1 rfl rfl rfl d_L_law_280 d_L_law_281 d_L_law_282 d_L_law_283 d_L_law_284 (by omega) hL ?_
  refine GX_cv (X := X) [iV ((X.2.2 (i + 1)).toInt)] cl_L_27 rfl d_L_law_285 (wk_64 _) rfl (Nat.le_of_ble_eq_true rfl) (by decide) (sp_Mturn s h.1 (h.mi hf) ((X.2.2 (i + 1)).toInt) (oi_rng _)) ?_
  rintro _ _ ⟨rfl, m2, rfl, hk⟩
  refine GX_same 1457 d_L_law_288 (by decide) ?_
  exact k _ _ (h.both (VS_nxTurn h.1 ((X.2.2 (i + 1)).toInt)) hc hf hk)
theorem arm_3 {nm : String} {X : Nat × Nat × (Nat → Int32)} (hL : X.2.1 ≤ 3072) {i : Nat} (hi : i + 6 ≤ X.2.1) {s : Nat → Int} {m : Nat → Nat → Int} (h : LRL s m) (k : ∀ s2 m2, LRL s2 m2 → GX X (M_LN nm) 14 0 0 1457 [vV (.ref X.1), rV 0, rV 64, iV (i : Int)] [] (WC ++ (WM ++ []), m2) QL) : GX X (M_LN nm) 14 0 0 293 [vV (.ref X.1), rV 0, rV 64, iV (i : Int)] [] (WC ++ (WM ++ []), m) QL := by
  refine GX_aload_n d_L_law_293 rfl ?_
  refine GX_arg1 (i := i) 1 rfl rfl rfl d_L_law_294 d_L_law_295 d_L_law_296 d_L_law_297 d_L_law_298 (by omega) hL ?_
  refine GX_arg1 (i := i) 2 rfl rfl rfl d_L_law_299 d_L_law_300 d_L_law_301 d_L_law_302 d_L_law_303 (by omega) hL ?_
  refine GX_cv (X := X) [iV ((X.2.2 (i + 1)).toInt), iV ((X.2.2 (i + 2)).toInt)] cl_L_28 rfl d_L_law_304 (wk_0 _) rfl (Nat.le_of_ble_eq_true rfl) (by decide) (sp_Ccounter s h.1 h.2.2.1 ((X.2.2 (i + 1)).toInt) (oi_rng _) ((X.2.2 (i + 2)).toInt) (oi_rng _)) ?_
  rintro _ _ ⟨rfl, m1, rfl, hc, hf⟩
  refine GX_aload_n d_L_law_307 rfl ?_
  refine GX_arg1 (i := i) 1 rfl rfl rfl d_L_law_308 d_L_law_309 d_L_law_310 d_L_law_311 d_L_law_312 (by omega) hL ?_
  refine GX_arg1 (i := i) 2 rfl rfl rfl d_L_law_313 d_L_law_314 d_L_law_315 d_L_law_316 d_L_law_317 (by omega) hL ?_
  refine GX_cv (X := X) [iV ((X.2.2 (i + 1)).toInt), iV ((X.2.2 (i + 2)).toInt)] cl_L_31 rfl d_L_law_318 (wk_64 _) rfl (Nat.le_of_ble_eq_true rfl) (by decide) (sp_Mcounter s h.1 (h.mi hf) ((X.2.2 (i + 1)).toInt) (oi_rng _) ((X.2.2 (i + 2)).toInt) (oi_rng _)) ?_
  rintro _ _ ⟨rfl, m2, rfl, hk⟩
  refine GX_same 1457 d_L_law_321 (by decide) ?_
  exact k _ _ (h.both (VS_nxCounter h.1 ((X.2.2 (i + 1)).toInt) ((X.2.2 (i + 2)).toInt)) hc hf hk)
theorem arm_4 {nm : String} {X : Nat × Nat × (Nat → Int32)} (hL : X.2.1 ≤ 3072) {i : Nat} (hi : i + 6 ≤ X.2.1) {s : Nat → Int} {m : Nat → Nat → Int} (h : LRL s m) (k : ∀ s2 m2, LRL s2 m2 → GX X (M_LN nm) 14 0 0 1457 [vV (.ref X.1), rV 0, rV 64, iV (i : Int)] [] (WC ++ (WM ++ []), m2) QL) : GX X (M_LN nm) 14 0 0 326 [vV (.ref X.1), rV 0, rV 64, iV (i : Int)] [] (WC ++ (WM ++ []), m) QL := by
  refine GX_aload_n d_L_law_326 rfl ?_
  refine GX_arg1 (i := i) 1 rfl rfl rfl d_L_law_327 d_L_law_328 d_L_law_329 d_L_law_330 d_L_law_331 (by omega) hL ?_
  refine GX_arg1 (i := i) 2 rfl rfl rfl d_L_law_332 d_L_law_333 d_L_law_334 d_L_law_335 d_L_law_336 (by omega) hL ?_
  refine GX_arg1 (i := i) 3 rfl rfl rfl d_L_law_337 d_L_law_338 d_L_law_339 d_L_law_340 d_L_law_341 (by omega) hL ?_
  refine GX_cv (X := X) [iV ((X.2.2 (i + 1)).toInt), iV ((X.2.2 (i + 2)).toInt), iV ((X.2.2 (i + 3)).toInt)] cl_L_32 rfl d_L_law_342 (wk_0 _) rfl (Nat.le_of_ble_eq_true rfl) (by decide) (sp_Cstep s h.1 h.2.2.1 ((X.2.2 (i + 1)).toInt) (oi_rng _) ((X.2.2 (i + 2)).toInt) (oi_rng _) ((X.2.2 (i + 3)).toInt) (oi_rng _)) ?_
  rintro _ _ ⟨rfl, m1, rfl, hc, hf⟩
  refine GX_aload_n d_L_law_345 rfl ?_
  refine GX_arg1 (i := i) 1 rfl rfl rfl d_L_law_346 d_L_law_347 d_L_law_348 d_L_law_349 d_L_law_350 (by omega) hL ?_
  refine GX_arg1 (i := i) 2 rfl rfl rfl d_L_law_351 d_L_law_352 d_L_law_353 d_L_law_354 d_L_law_355 (by omega) hL ?_
  refine GX_arg1 (i := i) 3 rfl rfl rfl d_L_law_356 d_L_law_357 d_L_law_358 d_L_law_359 d_L_law_360 (by omega) hL ?_
  refine GX_cv (X := X) [iV ((X.2.2 (i + 1)).toInt), iV ((X.2.2 (i + 2)).toInt), iV ((X.2.2 (i + 3)).toInt)] cl_L_36 rfl d_L_law_361 (wk_64 _) rfl (Nat.le_of_ble_eq_true rfl) (by decide) (sp_Mstep s h.1 (h.mi hf) ((X.2.2 (i + 1)).toInt) (oi_rng _) ((X.2.2 (i + 2)).toInt) (oi_rng _) ((X.2.2 (i + 3)).toInt) (oi_rng _)) ?_
  rintro _ _ ⟨rfl, m2, rfl, hk⟩
  refine GX_same 1457 d_L_law_364 (by decide) ?_
  exact k _ _ (h.both (VS_nxStep h.1 ((X.2.2 (i + 1)).toInt) ((X.2.2 (i + 2)).toInt) ((X.2.2 (i + 3)).toInt)) hc hf hk)
theorem arm_5 {nm : String} {X : Nat × Nat × (Nat → Int32)} (hL : X.2.1 ≤ 3072) {i : Nat} (hi : i + 6 ≤ X.2.1) {s : Nat → Int} {m : Nat → Nat → Int} (h : LRL s m) (k : ∀ s2 m2, LRL s2 m2 → GX X (M_LN nm) 14 0 0 1457 [vV (.ref X.1), rV 0, rV 64, iV (i : Int)] [] (WC ++ (WM ++ []), m2) QL) : GX X (M_LN nm) 14 0 0 369 [vV (.ref X.1), rV 0, rV 64, iV (i : Int)] [] (WC ++ (WM ++ []), m) QL := by
  refine GX_aload_n d_L_law_369 rfl ?_
  refine GX_arg1 (i := i) 1 rfl rfl rfl d_L_law_370 d_L_law_371 d_L_law_372 d_L_law_373 d_L_law_374 (by omega) hL ?_
  refine GX_arg1 (i := i) 2 rfl rfl rfl d_L_law_375 d_L_law_376 d_L_law_377 d_L_law_378 d_L_law_379 (by omega) hL ?_
  refine GX_cv (X := X) [iV ((X.2.2 (i + 1)).toInt), iV ((X.2.2 (i + 2)).toInt)] cl_L_37 rfl d_L_law_380 (wk_0 _) rfl (Nat.le_of_ble_eq_true rfl) (by decide) (sp_Cgradient s h.1 h.2.2.1 ((X.2.2 (i + 1)).toInt) (oi_rng _) ((X.2.2 (i + 2)).toInt) (oi_rng _)) ?_
  rintro _ _ ⟨rfl, m1, rfl, hc, hf⟩
  refine GX_aload_n d_L_law_383 rfl ?_
  refine GX_arg1 (i := i) 1 rfl rfl rfl d_L_law_384 d_L_law_385 d_L_law_386 d_L_law_387 d_L_law_388 (by omega) hL ?_
  refine GX_arg1 (i := i) 2 rfl rfl rfl d_L_law_389 d_L_law_390 d_L_law_391 d_L_law_392 d_L_law_393 (by omega) hL ?_
  refine GX_cv (X := X) [iV ((X.2.2 (i + 1)).toInt), iV ((X.2.2 (i + 2)).toInt)] cl_L_40 rfl d_L_law_394 (wk_64 _) rfl (Nat.le_of_ble_eq_true rfl) (by decide) (sp_Mgradient s h.1 (h.mi hf) ((X.2.2 (i + 1)).toInt) (oi_rng _) ((X.2.2 (i + 2)).toInt) (oi_rng _)) ?_
  rintro _ _ ⟨rfl, m2, rfl, hk⟩
  refine GX_same 1457 d_L_law_397 (by decide) ?_
  exact k _ _ (h.both (VS_nxGradient h.1 ((X.2.2 (i + 1)).toInt) ((X.2.2 (i + 2)).toInt)) hc hf hk)
theorem arm_6 {nm : String} {X : Nat × Nat × (Nat → Int32)} (hL : X.2.1 ≤ 3072) {i : Nat} (hi : i + 6 ≤ X.2.1) {s : Nat → Int} {m : Nat → Nat → Int} (h : LRL s m) (k : ∀ s2 m2, LRL s2 m2 → GX X (M_LN nm) 14 0 0 1457 [vV (.ref X.1), rV 0, rV 64, iV (i : Int)] [] (WC ++ (WM ++ []), m2) QL) : GX X (M_LN nm) 14 0 0 402 [vV (.ref X.1), rV 0, rV 64, iV (i : Int)] [] (WC ++ (WM ++ []), m) QL := by
  refine GX_aload_n d_L_law_402 rfl ?_
  refine GX_arg1 (i := i) 1 rfl rfl rfl d_L_law_403 d_L_law_404 d_L_law_405 d_L_law_406 d_L_law_407 (by omega) hL ?_
  refine GX_arg1 (i := i) 2 rfl rfl rfl d_L_law_408 d_L_law_409 d_L_law_410 d_L_law_411 d_L_law_412 (by omega) hL ?_
  refine GX_arg1 (i := i) 3 rfl rfl rfl d_L_law_413 d_L_law_414 d_L_law_415 d_L_law_416 d_L_law_417 (by omega) hL ?_
  refine GX_cv (X := X) [iV ((X.2.2 (i + 1)).toInt), iV ((X.2.2 (i + 2)).toInt), iV ((X.2.2 (i + 3)).toInt)] cl_L_41 rfl d_L_law_418 (wk_0 _) rfl (Nat.le_of_ble_eq_true rfl) (by decide) (sp_Cweight s h.1 h.2.2.1 ((X.2.2 (i + 1)).toInt) (oi_rng _) ((X.2.2 (i + 2)).toInt) (oi_rng _) ((X.2.2 (i + 3)).toInt) (oi_rng _)) ?_
  rintro _ _ ⟨rfl, m1, rfl, hc, hf⟩
  refine GX_aload_n d_L_law_421 rfl ?_
  refine GX_arg1 (i := i) 1 rfl rfl rfl d_L_law_422 d_L_law_423 d_L_law_424 d_L_law_425 d_L_law_426 (by omega) hL ?_
  refine GX_arg1 (i := i) 2 rfl rfl rfl d_L_law_427 d_L_law_428 d_L_law_429 d_L_law_430 d_L_law_431 (by omega) hL ?_
  refine GX_arg1 (i := i) 3 rfl rfl rfl d_L_law_432 d_L_law_433 d_L_law_434 d_L_law_435 d_L_law_436 (by omega) hL ?_
  refine GX_cv (X := X) [iV ((X.2.2 (i + 1)).toInt), iV ((X.2.2 (i + 2)).toInt), iV ((X.2.2 (i + 3)).toInt)] cl_L_44 rfl d_L_law_437 (wk_64 _) rfl (Nat.le_of_ble_eq_true rfl) (by decide) (sp_Mweight s h.1 (h.mi hf) ((X.2.2 (i + 1)).toInt) (oi_rng _) ((X.2.2 (i + 2)).toInt) (oi_rng _) ((X.2.2 (i + 3)).toInt) (oi_rng _)) ?_
  rintro _ _ ⟨rfl, m2, rfl, hk⟩
  refine GX_same 1457 d_L_law_440 (by decide) ?_
  exact k _ _ (h.both (VS_nxWeight h.1 ((X.2.2 (i + 1)).toInt) ((X.2.2 (i + 2)).toInt) ((X.2.2 (i + 3)).toInt)) hc hf hk)
theorem arm_7 {nm : String} {X : Nat × Nat × (Nat → Int32)} (hL : X.2.1 ≤ 3072) {i : Nat} (hi : i + 6 ≤ X.2.1) {s : Nat → Int} {m : Nat → Nat → Int} (h : LRL s m) (k : ∀ s2 m2, LRL s2 m2 → GX X (M_LN nm) 14 0 0 1457 [vV (.ref X.1), rV 0, rV 64, iV (i : Int)] [] (WC ++ (WM ++ []), m2) QL) : GX X (M_LN nm) 14 0 0 445 [vV (.ref X.1), rV 0, rV 64, iV (i : Int)] [] (WC ++ (WM ++ []), m) QL := by
  refine GX_aload_n d_L_law_445 rfl ?_
  refine GX_arg1 (i := i) 1 rfl rfl rfl d_L_law_446 d_L_law_447 d_L_law_448 d_L_law_449 d_L_law_450 (by omega) hL ?_
  refine GX_arg1 (i := i) 2 rfl rfl rfl d_L_law_451 d_L_law_452 d_L_law_453 d_L_law_454 d_L_law_455 (by omega) hL ?_
  refine GX_cv (X := X) [iV ((X.2.2 (i + 1)).toInt), iV ((X.2.2 (i + 2)).toInt)] cl_L_45 rfl d_L_law_456 (wk_0 _) rfl (Nat.le_of_ble_eq_true rfl) (by decide) (sp_Cswap s h.1 h.2.2.1 ((X.2.2 (i + 1)).toInt) (oi_rng _) ((X.2.2 (i + 2)).toInt) (oi_rng _)) ?_
  rintro _ _ ⟨rfl, m1, rfl, hc, hf⟩
  refine GX_aload_n d_L_law_459 rfl ?_
  refine GX_arg1 (i := i) 1 rfl rfl rfl d_L_law_460 d_L_law_461 d_L_law_462 d_L_law_463 d_L_law_464 (by omega) hL ?_
  refine GX_arg1 (i := i) 2 rfl rfl rfl d_L_law_465 d_L_law_466 d_L_law_467 d_L_law_468 d_L_law_469 (by omega) hL ?_
  refine GX_cv (X := X) [iV ((X.2.2 (i + 1)).toInt), iV ((X.2.2 (i + 2)).toInt)] cl_L_48 rfl d_L_law_470 (wk_64 _) rfl (Nat.le_of_ble_eq_true rfl) (by decide) (sp_Mswap s h.1 (h.mi hf) ((X.2.2 (i + 1)).toInt) (oi_rng _) ((X.2.2 (i + 2)).toInt) (oi_rng _)) ?_
  rintro _ _ ⟨rfl, m2, rfl, hk⟩
  refine GX_same 1457 d_L_law_473 (by decide) ?_
  exact k _ _ (h.both (VS_nxSwap h.1 ((X.2.2 (i + 1)).toInt) ((X.2.2 (i + 2)).toInt)) hc hf hk)
theorem arm_8 {nm : String} {X : Nat × Nat × (Nat → Int32)} (hL : X.2.1 ≤ 3072) {i : Nat} (hi : i + 6 ≤ X.2.1) {s : Nat → Int} {m : Nat → Nat → Int} (h : LRL s m) (k : ∀ s2 m2, LRL s2 m2 → GX X (M_LN nm) 14 0 0 1457 [vV (.ref X.1), rV 0, rV 64, iV (i : Int)] [] (WC ++ (WM ++ []), m2) QL) : GX X (M_LN nm) 14 0 0 478 [vV (.ref X.1), rV 0, rV 64, iV (i : Int)] [] (WC ++ (WM ++ []), m) QL := by
  refine GX_aload_n d_L_law_478 rfl ?_
  refine GX_arg1 (i := i) 1 rfl rfl rfl d_L_law_479 d_L_law_480 d_L_law_481 d_L_law_482 d_L_law_483 (by omega) hL ?_
  refine GX_bool (oi_rng _) d_L_law_484 d_L_law_487 d_L_law_488 d_L_law_491 ?_
  refine GX_cv (X := X) [iV (bz ((X.2.2 (i + 1)).toInt))] cl_L_49 rfl d_L_law_492 (wk_0 _) rfl (Nat.le_of_ble_eq_true rfl) (by decide) (sp_Cfollow s h.1 h.2.2.1 (bz ((X.2.2 (i + 1)).toInt)) (bz_or _)) ?_
  rintro _ _ ⟨rfl, m1, rfl, hc, hf⟩
  refine GX_aload_n d_L_law_495 rfl ?_
  refine GX_arg1 (i := i) 1 rfl rfl rfl d_L_law_496 d_L_law_497 d_L_law_498 d_L_law_499 d_L_law_500 (by omega) hL ?_
  refine GX_bool (oi_rng _) d_L_law_501 d_L_law_504 d_L_law_505 d_L_law_508 ?_
  refine GX_cv (X := X) [iV (bz ((X.2.2 (i + 1)).toInt))] cl_L_53 rfl d_L_law_509 (wk_64 _) rfl (Nat.le_of_ble_eq_true rfl) (by decide) (sp_Mfollow s h.1 (h.mi hf) (bz ((X.2.2 (i + 1)).toInt)) (bz_or _)) ?_
  rintro _ _ ⟨rfl, m2, rfl, hk⟩
  refine GX_same 1457 d_L_law_512 (by decide) ?_
  exact k _ _ (h.both (VS_nxFollow h.1 (bz ((X.2.2 (i + 1)).toInt)) (bz_or _)) hc hf hk)
theorem arm_9 {nm : String} {X : Nat × Nat × (Nat → Int32)} (hL : X.2.1 ≤ 3072) {i : Nat} (hi : i + 6 ≤ X.2.1) {s : Nat → Int} {m : Nat → Nat → Int} (h : LRL s m) (k : ∀ s2 m2, LRL s2 m2 → GX X (M_LN nm) 14 0 0 1457 [vV (.ref X.1), rV 0, rV 64, iV (i : Int)] [] (WC ++ (WM ++ []), m2) QL) : GX X (M_LN nm) 14 0 0 517 [vV (.ref X.1), rV 0, rV 64, iV (i : Int)] [] (WC ++ (WM ++ []), m) QL := by
  refine GX_aload_n d_L_law_517 rfl ?_
  refine GX_arg1 (i := i) 1 rfl rfl rfl d_L_law_518 d_L_law_519 d_L_law_520 d_L_law_521 d_L_law_522 (by omega) hL ?_
  refine GX_arg1 (i := i) 2 rfl rfl rfl d_L_law_523 d_L_law_524 d_L_law_525 d_L_law_526 d_L_law_527 (by omega) hL ?_
  refine GX_bool (oi_rng _) d_L_law_528 d_L_law_531 d_L_law_532 d_L_law_535 ?_
  refine GX_cv (X := X) [iV ((X.2.2 (i + 1)).toInt), iV (bz ((X.2.2 (i + 2)).toInt))] cl_L_54 rfl d_L_law_536 (wk_0 _) rfl (Nat.le_of_ble_eq_true rfl) (by decide) (sp_Cwish s h.1 h.2.2.1 ((X.2.2 (i + 1)).toInt) (oi_rng _) (bz ((X.2.2 (i + 2)).toInt)) (bz_or _)) ?_
  rintro _ _ ⟨rfl, m1, rfl, hc, hf⟩
  refine GX_aload_n d_L_law_539 rfl ?_
  refine GX_arg1 (i := i) 1 rfl rfl rfl d_L_law_540 d_L_law_541 d_L_law_542 d_L_law_543 d_L_law_544 (by omega) hL ?_
  refine GX_arg1 (i := i) 2 rfl rfl rfl d_L_law_545 d_L_law_546 d_L_law_547 d_L_law_548 d_L_law_549 (by omega) hL ?_
  refine GX_bool (oi_rng _) d_L_law_550 d_L_law_553 d_L_law_554 d_L_law_557 ?_
  refine GX_cv (X := X) [iV ((X.2.2 (i + 1)).toInt), iV (bz ((X.2.2 (i + 2)).toInt))] cl_L_58 rfl d_L_law_558 (wk_64 _) rfl (Nat.le_of_ble_eq_true rfl) (by decide) (sp_Mwish s h.1 (h.mi hf) ((X.2.2 (i + 1)).toInt) (oi_rng _) (bz ((X.2.2 (i + 2)).toInt)) (bz_or _)) ?_
  rintro _ _ ⟨rfl, m2, rfl, hk⟩
  refine GX_same 1457 d_L_law_561 (by decide) ?_
  exact k _ _ (h.both (VS_nxMark h.1 1 ((X.2.2 (i + 1)).toInt) (bz ((X.2.2 (i + 2)).toInt)) (by decide)) hc hf hk)
theorem arm_10 {nm : String} {X : Nat × Nat × (Nat → Int32)} (hL : X.2.1 ≤ 3072) {i : Nat} (hi : i + 6 ≤ X.2.1) {s : Nat → Int} {m : Nat → Nat → Int} (h : LRL s m) (k : ∀ s2 m2, LRL s2 m2 → GX X (M_LN nm) 14 0 0 1457 [vV (.ref X.1), rV 0, rV 64, iV (i : Int)] [] (WC ++ (WM ++ []), m2) QL) : GX X (M_LN nm) 14 0 0 566 [vV (.ref X.1), rV 0, rV 64, iV (i : Int)] [] (WC ++ (WM ++ []), m) QL := by
  refine GX_aload_n d_L_law_566 rfl ?_
  refine GX_arg1 (i := i) 1 rfl rfl rfl d_L_law_567 d_L_law_568 d_L_law_569 d_L_law_570 d_L_law_571 (by omega) hL ?_
  refine GX_arg1 (i := i) 2 rfl rfl rfl d_L_law_572 d_L_law_573 d_L_law_574 d_L_law_575 d_L_law_576 (by omega) hL ?_
  refine GX_bool (oi_rng _) d_L_law_577 d_L_law_580 d_L_law_581 d_L_law_584 ?_
  refine GX_cv (X := X) [iV ((X.2.2 (i + 1)).toInt), iV (bz ((X.2.2 (i + 2)).toInt))] cl_L_59 rfl d_L_law_585 (wk_0 _) rfl (Nat.le_of_ble_eq_true rfl) (by decide) (sp_Cfree s h.1 h.2.2.1 ((X.2.2 (i + 1)).toInt) (oi_rng _) (bz ((X.2.2 (i + 2)).toInt)) (bz_or _)) ?_
  rintro _ _ ⟨rfl, m1, rfl, hc, hf⟩
  refine GX_aload_n d_L_law_588 rfl ?_
  refine GX_arg1 (i := i) 1 rfl rfl rfl d_L_law_589 d_L_law_590 d_L_law_591 d_L_law_592 d_L_law_593 (by omega) hL ?_
  refine GX_arg1 (i := i) 2 rfl rfl rfl d_L_law_594 d_L_law_595 d_L_law_596 d_L_law_597 d_L_law_598 (by omega) hL ?_
  refine GX_bool (oi_rng _) d_L_law_599 d_L_law_602 d_L_law_603 d_L_law_606 ?_
  refine GX_cv (X := X) [iV ((X.2.2 (i + 1)).toInt), iV (bz ((X.2.2 (i + 2)).toInt))] cl_L_62 rfl d_L_law_607 (wk_64 _) rfl (Nat.le_of_ble_eq_true rfl) (by decide) (sp_Mfree s h.1 (h.mi hf) ((X.2.2 (i + 1)).toInt) (oi_rng _) (bz ((X.2.2 (i + 2)).toInt)) (bz_or _)) ?_
  rintro _ _ ⟨rfl, m2, rfl, hk⟩
  refine GX_same 1457 d_L_law_610 (by decide) ?_
  exact k _ _ (h.both (VS_nxMark h.1 2 ((X.2.2 (i + 1)).toInt) (bz ((X.2.2 (i + 2)).toInt)) (by decide)) hc hf hk)
theorem arm_11 {nm : String} {X : Nat × Nat × (Nat → Int32)} (hL : X.2.1 ≤ 3072) {i : Nat} (hi : i + 6 ≤ X.2.1) {s : Nat → Int} {m : Nat → Nat → Int} (h : LRL s m) (k : ∀ s2 m2, LRL s2 m2 → GX X (M_LN nm) 14 0 0 1457 [vV (.ref X.1), rV 0, rV 64, iV (i : Int)] [] (WC ++ (WM ++ []), m2) QL) : GX X (M_LN nm) 14 0 0 615 [vV (.ref X.1), rV 0, rV 64, iV (i : Int)] [] (WC ++ (WM ++ []), m) QL := by
  refine GX_aload_n d_L_law_615 rfl ?_
  refine GX_arg1 (i := i) 1 rfl rfl rfl d_L_law_616 d_L_law_617 d_L_law_618 d_L_law_619 d_L_law_620 (by omega) hL ?_
  refine GX_arg1 (i := i) 2 rfl rfl rfl d_L_law_621 d_L_law_622 d_L_law_623 d_L_law_624 d_L_law_625 (by omega) hL ?_
  refine GX_cv (X := X) [iV ((X.2.2 (i + 1)).toInt), iV ((X.2.2 (i + 2)).toInt)] cl_L_63 rfl d_L_law_626 (wk_0 _) rfl (Nat.le_of_ble_eq_true rfl) (by decide) (sp_CfreeAll s h.1 h.2.2.1 ((X.2.2 (i + 1)).toInt) (oi_rng _) ((X.2.2 (i + 2)).toInt) (oi_rng _)) ?_
  rintro _ _ ⟨rfl, m1, rfl, hc, hf⟩
  refine GX_aload_n d_L_law_629 rfl ?_
  refine GX_arg1 (i := i) 1 rfl rfl rfl d_L_law_630 d_L_law_631 d_L_law_632 d_L_law_633 d_L_law_634 (by omega) hL ?_
  refine GX_arg1 (i := i) 2 rfl rfl rfl d_L_law_635 d_L_law_636 d_L_law_637 d_L_law_638 d_L_law_639 (by omega) hL ?_
  refine GX_cv (X := X) [iV ((X.2.2 (i + 1)).toInt), iV ((X.2.2 (i + 2)).toInt)] cl_L_66 rfl d_L_law_640 (wk_64 _) rfl (Nat.le_of_ble_eq_true rfl) (by decide) (sp_MfreeAll s h.1 (h.mi hf) ((X.2.2 (i + 1)).toInt) (oi_rng _) ((X.2.2 (i + 2)).toInt) (oi_rng _)) ?_
  rintro _ _ ⟨rfl, m2, rfl, hk⟩
  refine GX_same 1457 d_L_law_643 (by decide) ?_
  exact k _ _ (h.both (VS_nxFreeAll h.1 ((X.2.2 (i + 1)).toInt) ((X.2.2 (i + 2)).toInt)) hc hf hk)
theorem arm_16 {nm : String} {X : Nat × Nat × (Nat → Int32)} (hL : X.2.1 ≤ 3072) {i : Nat} (hi : i + 6 ≤ X.2.1) {s : Nat → Int} {m : Nat → Nat → Int} (h : LRL s m) (k : ∀ s2 m2, LRL s2 m2 → GX X (M_LN nm) 14 0 0 1457 [vV (.ref X.1), rV 0, rV 64, iV (i : Int)] [] (WC ++ (WM ++ []), m2) QL) : GX X (M_LN nm) 14 0 0 770 [vV (.ref X.1), rV 0, rV 64, iV (i : Int)] [] (WC ++ (WM ++ []), m) QL := by
  refine GX_aload_n d_L_law_770 rfl ?_
  refine GX_arg1 (i := i) 1 rfl rfl rfl d_L_law_771 d_L_law_772 d_L_law_773 d_L_law_774 d_L_law_775 (by omega) hL ?_
  refine GX_cv (X := X) [iV ((X.2.2 (i + 1)).toInt)] cl_L_86 rfl d_L_law_776 (wk_0 _) rfl (Nat.le_of_ble_eq_true rfl) (by decide) (sp_Clay s h.1 h.2.2.1 ((X.2.2 (i + 1)).toInt) (oi_rng _)) ?_
  rintro _ _ ⟨rfl, m1, rfl, hc, hf⟩
  refine GX_aload_n d_L_law_779 rfl ?_
  refine GX_arg1 (i := i) 1 rfl rfl rfl d_L_law_780 d_L_law_781 d_L_law_782 d_L_law_783 d_L_law_784 (by omega) hL ?_
  refine GX_cv (X := X) [iV ((X.2.2 (i + 1)).toInt)] cl_L_89 rfl d_L_law_785 (wk_64 _) rfl (Nat.le_of_ble_eq_true rfl) (by decide) (sp_Mlay s h.1 (h.mi hf) ((X.2.2 (i + 1)).toInt) (oi_rng _)) ?_
  rintro _ _ ⟨rfl, m2, rfl, hk⟩
  refine GX_same 1457 d_L_law_788 (by decide) ?_
  exact k _ _ (h.both (VS_nxLay h.1 ((X.2.2 (i + 1)).toInt)) hc hf hk)
theorem arm_17 {nm : String} {X : Nat × Nat × (Nat → Int32)} (hL : X.2.1 ≤ 3072) {i : Nat} (hi : i + 6 ≤ X.2.1) {s : Nat → Int} {m : Nat → Nat → Int} (h : LRL s m) (k : ∀ s2 m2, LRL s2 m2 → GX X (M_LN nm) 14 0 0 1457 [vV (.ref X.1), rV 0, rV 64, iV (i : Int)] [] (WC ++ (WM ++ []), m2) QL) : GX X (M_LN nm) 14 0 0 793 [vV (.ref X.1), rV 0, rV 64, iV (i : Int)] [] (WC ++ (WM ++ []), m) QL := by
  refine GX_aload_n d_L_law_793 rfl ?_
  refine GX_arg1 (i := i) 1 rfl rfl rfl d_L_law_794 d_L_law_795 d_L_law_796 d_L_law_797 d_L_law_798 (by omega) hL ?_
  refine GX_arg1 (i := i) 2 rfl rfl rfl d_L_law_799 d_L_law_800 d_L_law_801 d_L_law_802 d_L_law_803 (by omega) hL ?_
  refine GX_cv (X := X) [iV ((X.2.2 (i + 1)).toInt), iV ((X.2.2 (i + 2)).toInt)] cl_L_90 rfl d_L_law_804 (wk_0 _) rfl (Nat.le_of_ble_eq_true rfl) (by decide) (sp_Corder s h.1 h.2.2.1 ((X.2.2 (i + 1)).toInt) (oi_rng _) ((X.2.2 (i + 2)).toInt) (oi_rng _)) ?_
  rintro _ _ ⟨rfl, m1, rfl, hc, hf⟩
  refine GX_aload_n d_L_law_807 rfl ?_
  refine GX_arg1 (i := i) 1 rfl rfl rfl d_L_law_808 d_L_law_809 d_L_law_810 d_L_law_811 d_L_law_812 (by omega) hL ?_
  refine GX_arg1 (i := i) 2 rfl rfl rfl d_L_law_813 d_L_law_814 d_L_law_815 d_L_law_816 d_L_law_817 (by omega) hL ?_
  refine GX_cv (X := X) [iV ((X.2.2 (i + 1)).toInt), iV ((X.2.2 (i + 2)).toInt)] cl_L_93 rfl d_L_law_818 (wk_64 _) rfl (Nat.le_of_ble_eq_true rfl) (by decide) (sp_Morder s h.1 (h.mi hf) ((X.2.2 (i + 1)).toInt) (oi_rng _) ((X.2.2 (i + 2)).toInt) (oi_rng _)) ?_
  rintro _ _ ⟨rfl, m2, rfl, hk⟩
  refine GX_same 1457 d_L_law_821 (by decide) ?_
  exact k _ _ (h.both (h.1) hc hf hk)
theorem arm_18 {nm : String} {X : Nat × Nat × (Nat → Int32)} (hL : X.2.1 ≤ 3072) {i : Nat} (hi : i + 6 ≤ X.2.1) {s : Nat → Int} {m : Nat → Nat → Int} (h : LRL s m) (k : ∀ s2 m2, LRL s2 m2 → GX X (M_LN nm) 14 0 0 1457 [vV (.ref X.1), rV 0, rV 64, iV (i : Int)] [] (WC ++ (WM ++ []), m2) QL) : GX X (M_LN nm) 14 0 0 826 [vV (.ref X.1), rV 0, rV 64, iV (i : Int)] [] (WC ++ (WM ++ []), m) QL := by
  refine GX_aload_n d_L_law_826 rfl ?_
  refine GX_arg1 (i := i) 1 rfl rfl rfl d_L_law_827 d_L_law_828 d_L_law_829 d_L_law_830 d_L_law_831 (by omega) hL ?_
  refine GX_arg1 (i := i) 2 rfl rfl rfl d_L_law_832 d_L_law_833 d_L_law_834 d_L_law_835 d_L_law_836 (by omega) hL ?_
  refine GX_arg1 (i := i) 3 rfl rfl rfl d_L_law_837 d_L_law_838 d_L_law_839 d_L_law_840 d_L_law_841 (by omega) hL ?_
  refine GX_arg1 (i := i) 4 rfl rfl rfl d_L_law_842 d_L_law_843 d_L_law_844 d_L_law_845 d_L_law_846 (by omega) hL ?_
  refine GX_cv (X := X) [iV ((X.2.2 (i + 1)).toInt), iV ((X.2.2 (i + 2)).toInt), iV ((X.2.2 (i + 3)).toInt), iV ((X.2.2 (i + 4)).toInt)] cl_L_94 rfl d_L_law_847 (wk_0 _) rfl (Nat.le_of_ble_eq_true rfl) (by decide) (sp_Cfind s h.1 h.2.2.1 ((X.2.2 (i + 1)).toInt) (oi_rng _) ((X.2.2 (i + 2)).toInt) (oi_rng _) ((X.2.2 (i + 3)).toInt) (oi_rng _) ((X.2.2 (i + 4)).toInt) (oi_rng _)) ?_
  rintro _ _ ⟨rfl, m1, rfl, hc, hf⟩
  refine GX_aload_n d_L_law_850 rfl ?_
  refine GX_arg1 (i := i) 1 rfl rfl rfl d_L_law_851 d_L_law_852 d_L_law_853 d_L_law_854 d_L_law_855 (by omega) hL ?_
  refine GX_arg1 (i := i) 2 rfl rfl rfl d_L_law_856 d_L_law_857 d_L_law_858 d_L_law_859 d_L_law_860 (by omega) hL ?_
  refine GX_arg1 (i := i) 3 rfl rfl rfl d_L_law_861 d_L_law_862 d_L_law_863 d_L_law_864 d_L_law_865 (by omega) hL ?_
  refine GX_arg1 (i := i) 4 rfl rfl rfl d_L_law_866 d_L_law_867 d_L_law_868 d_L_law_869 d_L_law_870 (by omega) hL ?_
  refine GX_cv (X := X) [iV ((X.2.2 (i + 1)).toInt), iV ((X.2.2 (i + 2)).toInt), iV ((X.2.2 (i + 3)).toInt), iV ((X.2.2 (i + 4)).toInt)] cl_L_98 rfl d_L_law_871 (wk_64 _) rfl (Nat.le_of_ble_eq_true rfl) (by decide) (sp_Mfind s h.1 (h.mi hf) ((X.2.2 (i + 1)).toInt) (oi_rng _) ((X.2.2 (i + 2)).toInt) (oi_rng _) ((X.2.2 (i + 3)).toInt) (oi_rng _) ((X.2.2 (i + 4)).toInt) (oi_rng _)) ?_
  rintro _ _ ⟨rfl, m2, rfl, hk⟩
  refine GX_same 1457 d_L_law_874 (by decide) ?_
  exact k _ _ (h.both (h.1) hc hf hk)
theorem arm_19 {nm : String} {X : Nat × Nat × (Nat → Int32)} (hL : X.2.1 ≤ 3072) {i : Nat} (hi : i + 6 ≤ X.2.1) {s : Nat → Int} {m : Nat → Nat → Int} (h : LRL s m) (k : ∀ s2 m2, LRL s2 m2 → GX X (M_LN nm) 14 0 0 1457 [vV (.ref X.1), rV 0, rV 64, iV (i : Int)] [] (WC ++ (WM ++ []), m2) QL) : GX X (M_LN nm) 14 0 0 879 [vV (.ref X.1), rV 0, rV 64, iV (i : Int)] [] (WC ++ (WM ++ []), m) QL := by
  refine GX_aload_n d_L_law_879 rfl ?_
  refine GX_arg1 (i := i) 1 rfl rfl rfl d_L_law_880 d_L_law_881 d_L_law_882 d_L_law_883 d_L_law_884 (by omega) hL ?_
  refine GX_arg1 (i := i) 2 rfl rfl rfl d_L_law_885 d_L_law_886 d_L_law_887 d_L_law_888 d_L_law_889 (by omega) hL ?_
  refine GX_cv (X := X) [iV ((X.2.2 (i + 1)).toInt), iV ((X.2.2 (i + 2)).toInt)] cl_L_99 rfl d_L_law_890 (wk_0 _) rfl (Nat.le_of_ble_eq_true rfl) (by decide) (sp_Cphase s h.1 h.2.2.1 ((X.2.2 (i + 1)).toInt) (oi_rng _) ((X.2.2 (i + 2)).toInt) (oi_rng _)) ?_
  rintro _ _ ⟨rfl, m1, rfl, hc, hf⟩
  refine GX_aload_n d_L_law_893 rfl ?_
  refine GX_arg1 (i := i) 1 rfl rfl rfl d_L_law_894 d_L_law_895 d_L_law_896 d_L_law_897 d_L_law_898 (by omega) hL ?_
  refine GX_arg1 (i := i) 2 rfl rfl rfl d_L_law_899 d_L_law_900 d_L_law_901 d_L_law_902 d_L_law_903 (by omega) hL ?_
  refine GX_cv (X := X) [iV ((X.2.2 (i + 1)).toInt), iV ((X.2.2 (i + 2)).toInt)] cl_L_102 rfl d_L_law_904 (wk_64 _) rfl (Nat.le_of_ble_eq_true rfl) (by decide) (sp_Mphase s h.1 (h.mi hf) ((X.2.2 (i + 1)).toInt) (oi_rng _) ((X.2.2 (i + 2)).toInt) (oi_rng _)) ?_
  rintro _ _ ⟨rfl, m2, rfl, hk⟩
  refine GX_same 1457 d_L_law_907 (by decide) ?_
  exact k _ _ (h.both (h.1) hc hf hk)
