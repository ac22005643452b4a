/-! the law, call by call -/
theorem op_sign {Γ : GC} {b L : Nat} {xs : Nat → Int32} {M : Mm} (hL : L ≤ 3072) (i : Int) (hi : 0 ≤ i ∧ i + 6 ≤ L) (hI : Inv M) (kk : ∀ M2 : Mm, Inv M2 → LW Γ b L xs 1048 (LL Γ b i) [] M2) : LW Γ b L xs 168 (LL Γ b i) [] M := by
  refine LW.aload dL_law_168 2 rfl rfl ?_
  refine LW.arg (n := 1) ⟨by omega, by omega⟩ hL dL_law_169 dL_law_170 dL_law_171 dL_law_172 dL_law_173 ?_
  refine LW.arg (n := 2) ⟨by omega, by omega⟩ hL dL_law_174 dL_law_175 dL_law_176 dL_law_177 dL_law_178 ?_
  obtain ⟨Qc, h1, h2⟩ := sim_sign Γ M hI (xz xs (i + 1)) (xz_r xs (i + 1)) (xz xs (i + 2)) (xz_r xs (i + 2))
  refine LW.callV h1 dL_law_179 mc_L_13 rfl rfl (fun _ => rfl) ⟨Nat.le_of_ble_eq_true rfl, Nat.le_of_ble_eq_true rfl⟩ (Nat.le_of_ble_eq_true rfl) (fun z M1 hq => ?_)
  refine LW.aload dL_law_182 1 rfl rfl ?_
  refine LW.arg (n := 1) ⟨by omega, by omega⟩ hL dL_law_183 dL_law_184 dL_law_185 dL_law_186 dL_law_187 ?_
  refine LW.arg (n := 2) ⟨by omega, by omega⟩ hL dL_law_188 dL_law_189 dL_law_190 dL_law_191 dL_law_192 ?_
  refine LW.callV (h2 z M1 hq) dL_law_193 mc_L_17 rfl rfl (fun _ => rfl) ⟨Nat.le_of_ble_eq_true rfl, Nat.le_of_ble_eq_true rfl⟩ (Nat.le_of_ble_eq_true rfl) (fun z2 M2 hq2 => ?_)
  obtain ⟨rfl, hI2⟩ := hq2
  exact LW.eq 1048 dL_law_196 (by decide) (kk M2 hI2)
theorem op_letter {Γ : GC} {b L : Nat} {xs : Nat → Int32} {M : Mm} (hL : L ≤ 3072) (i : Int) (hi : 0 ≤ i ∧ i + 6 ≤ L) (hI : Inv M) (kk : ∀ M2 : Mm, Inv M2 → LW Γ b L xs 1048 (LL Γ b i) [] M2) : LW Γ b L xs 201 (LL Γ b i) [] M := by
  refine LW.aload dL_law_201 2 rfl rfl ?_
  refine LW.arg (n := 1) ⟨by omega, by omega⟩ hL dL_law_202 dL_law_203 dL_law_204 dL_law_205 dL_law_206 ?_
  refine LW.arg (n := 2) ⟨by omega, by omega⟩ hL dL_law_207 dL_law_208 dL_law_209 dL_law_210 dL_law_211 ?_
  obtain ⟨Qc, h1, h2⟩ := sim_letter Γ M hI (xz xs (i + 1)) (xz_r xs (i + 1)) (xz xs (i + 2)) (xz_r xs (i + 2))
  refine LW.callV h1 dL_law_212 mc_L_18 rfl rfl (fun _ => rfl) ⟨Nat.le_of_ble_eq_true rfl, Nat.le_of_ble_eq_true rfl⟩ (Nat.le_of_ble_eq_true rfl) (fun z M1 hq => ?_)
  refine LW.aload dL_law_215 1 rfl rfl ?_
  refine LW.arg (n := 1) ⟨by omega, by omega⟩ hL dL_law_216 dL_law_217 dL_law_218 dL_law_219 dL_law_220 ?_
  refine LW.arg (n := 2) ⟨by omega, by omega⟩ hL dL_law_221 dL_law_222 dL_law_223 dL_law_224 dL_law_225 ?_
  refine LW.callV (h2 z M1 hq) dL_law_226 mc_L_21 rfl rfl (fun _ => rfl) ⟨Nat.le_of_ble_eq_true rfl, Nat.le_of_ble_eq_true rfl⟩ (Nat.le_of_ble_eq_true rfl) (fun z2 M2 hq2 => ?_)
  obtain ⟨rfl, hI2⟩ := hq2
  exact LW.eq 1048 dL_law_229 (by decide) (kk M2 hI2)
theorem op_apart {Γ : GC} {b L : Nat} {xs : Nat → Int32} {M : Mm} (hL : L ≤ 3072) (i : Int) (hi : 0 ≤ i ∧ i + 6 ≤ L) (hI : Inv M) (kk : ∀ M2 : Mm, Inv M2 → LW Γ b L xs 1048 (LL Γ b i) [] M2) : LW Γ b L xs 234 (LL Γ b i) [] M := by
  refine LW.aload dL_law_234 2 rfl rfl ?_
  refine LW.arg (n := 1) ⟨by omega, by omega⟩ hL dL_law_235 dL_law_236 dL_law_237 dL_law_238 dL_law_239 ?_
  refine LW.arg (n := 2) ⟨by omega, by omega⟩ hL dL_law_240 dL_law_241 dL_law_242 dL_law_243 dL_law_244 ?_
  obtain ⟨Qc, h1, h2⟩ := sim_apart Γ M hI (xz xs (i + 1)) (xz_r xs (i + 1)) (xz xs (i + 2)) (xz_r xs (i + 2))
  refine LW.callV h1 dL_law_245 mc_L_22 rfl rfl (fun _ => rfl) ⟨Nat.le_of_ble_eq_true rfl, Nat.le_of_ble_eq_true rfl⟩ (Nat.le_of_ble_eq_true rfl) (fun z M1 hq => ?_)
  refine LW.aload dL_law_248 1 rfl rfl ?_
  refine LW.arg (n := 1) ⟨by omega, by omega⟩ hL dL_law_249 dL_law_250 dL_law_251 dL_law_252 dL_law_253 ?_
  refine LW.arg (n := 2) ⟨by omega, by omega⟩ hL dL_law_254 dL_law_255 dL_law_256 dL_law_257 dL_law_258 ?_
  refine LW.callV (h2 z M1 hq) dL_law_259 mc_L_25 rfl rfl (fun _ => rfl) ⟨Nat.le_of_ble_eq_true rfl, Nat.le_of_ble_eq_true rfl⟩ (Nat.le_of_ble_eq_true rfl) (fun z2 M2 hq2 => ?_)
  obtain ⟨rfl, hI2⟩ := hq2
  exact LW.eq 1048 dL_law_262 (by decide) (kk M2 hI2)
theorem op_say {Γ : GC} {b L : Nat} {xs : Nat → Int32} {M : Mm} (hL : L ≤ 3072) (i : Int) (hi : 0 ≤ i ∧ i + 6 ≤ L) (hI : Inv M) (kk : ∀ M2 : Mm, Inv M2 → LW Γ b L xs 1048 (LL Γ b i) [] M2) : LW Γ b L xs 267 (LL Γ b i) [] M := by
  refine LW.aload dL_law_267 2 rfl rfl ?_
  refine LW.arg (n := 1) ⟨by omega, by omega⟩ hL dL_law_268 dL_law_269 dL_law_270 dL_law_271 dL_law_272 ?_
  obtain ⟨Qc, h1, h2⟩ := sim_say Γ M hI (xz xs (i + 1)) (xz_r xs (i + 1))
  refine LW.callV h1 dL_law_273 mc_L_26 rfl rfl (fun _ => rfl) ⟨Nat.le_of_ble_eq_true rfl, Nat.le_of_ble_eq_true rfl⟩ (Nat.le_of_ble_eq_true rfl) (fun z M1 hq => ?_)
  refine LW.aload dL_law_276 1 rfl rfl ?_
  refine LW.arg (n := 1) ⟨by omega, by omega⟩ hL dL_law_277 dL_law_278 dL_law_279 dL_law_280 dL_law_281 ?_
  refine LW.callV (h2 z M1 hq) dL_law_282 mc_L_30 rfl rfl (fun _ => rfl) ⟨Nat.le_of_ble_eq_true rfl, Nat.le_of_ble_eq_true rfl⟩ (Nat.le_of_ble_eq_true rfl) (fun z2 M2 hq2 => ?_)
  obtain ⟨rfl, hI2⟩ := hq2
  exact LW.eq 1048 dL_law_285 (by decide) (kk M2 hI2)
theorem op_back {Γ : GC} {b L : Nat} {xs : Nat → Int32} {M : Mm} (hL : L ≤ 3072) (i : Int) (hi : 0 ≤ i ∧ i + 6 ≤ L) (hI : Inv M) (kk : ∀ M2 : Mm, Inv M2 → LW Γ b L xs 1048 (LL Γ b i) [] M2) : LW Γ b L xs 290 (LL Γ b i) [] M := by
  refine LW.aload dL_law_290 2 rfl rfl ?_
  obtain ⟨Qc, h1, h2⟩ := sim_back Γ M hI 
  refine LW.callV h1 dL_law_291 mc_L_31 rfl rfl (fun _ => rfl) ⟨Nat.le_of_ble_eq_true rfl, Nat.le_of_ble_eq_true rfl⟩ (Nat.le_of_ble_eq_true rfl) (fun z M1 hq => ?_)
  refine LW.aload dL_law_294 1 rfl rfl ?_
  refine LW.callV (h2 z M1 hq) dL_law_295 mc_L_35 rfl rfl (fun _ => rfl) ⟨Nat.le_of_ble_eq_true rfl, Nat.le_of_ble_eq_true rfl⟩ (Nat.le_of_ble_eq_true rfl) (fun z2 M2 hq2 => ?_)
  obtain ⟨rfl, hI2⟩ := hq2
  exact LW.eq 1048 dL_law_298 (by decide) (kk M2 hI2)
theorem op_keep {Γ : GC} {b L : Nat} {xs : Nat → Int32} {M : Mm} (hL : L ≤ 3072) (i : Int) (hi : 0 ≤ i ∧ i + 6 ≤ L) (hI : Inv M) (kk : ∀ M2 : Mm, Inv M2 → LW Γ b L xs 1048 (LL Γ b i) [] M2) : LW Γ b L xs 303 (LL Γ b i) [] M := by
  refine LW.aload dL_law_303 2 rfl rfl ?_
  obtain ⟨Qc, h1, h2⟩ := sim_keep Γ M hI 
  refine LW.callV h1 dL_law_304 mc_L_36 rfl rfl (fun _ => rfl) ⟨Nat.le_of_ble_eq_true rfl, Nat.le_of_ble_eq_true rfl⟩ (Nat.le_of_ble_eq_true rfl) (fun z M1 hq => ?_)
  refine LW.aload dL_law_307 1 rfl rfl ?_
  refine LW.callV (h2 z M1 hq) dL_law_308 mc_L_39 rfl rfl (fun _ => rfl) ⟨Nat.le_of_ble_eq_true rfl, Nat.le_of_ble_eq_true rfl⟩ (Nat.le_of_ble_eq_true rfl) (fun z2 M2 hq2 => ?_)
  obtain ⟨rfl, hI2⟩ := hq2
  exact LW.eq 1048 dL_law_311 (by decide) (kk M2 hI2)
theorem op_lose {Γ : GC} {b L : Nat} {xs : Nat → Int32} {M : Mm} (hL : L ≤ 3072) (i : Int) (hi : 0 ≤ i ∧ i + 6 ≤ L) (hI : Inv M) (kk : ∀ M2 : Mm, Inv M2 → LW Γ b L xs 1048 (LL Γ b i) [] M2) : LW Γ b L xs 316 (LL Γ b i) [] M := by
  refine LW.aload dL_law_316 2 rfl rfl ?_
  refine LW.arg (n := 1) ⟨by omega, by omega⟩ hL dL_law_317 dL_law_318 dL_law_319 dL_law_320 dL_law_321 ?_
  obtain ⟨Qc, h1, h2⟩ := sim_lose Γ M hI (xz xs (i + 1)) (xz_r xs (i + 1))
  refine LW.callV h1 dL_law_322 mc_L_40 rfl rfl (fun _ => rfl) ⟨Nat.le_of_ble_eq_true rfl, Nat.le_of_ble_eq_true rfl⟩ (Nat.le_of_ble_eq_true rfl) (fun z M1 hq => ?_)
  refine LW.aload dL_law_325 1 rfl rfl ?_
  refine LW.arg (n := 1) ⟨by omega, by omega⟩ hL dL_law_326 dL_law_327 dL_law_328 dL_law_329 dL_law_330 ?_
  refine LW.callV (h2 z M1 hq) dL_law_331 mc_L_43 rfl rfl (fun _ => rfl) ⟨Nat.le_of_ble_eq_true rfl, Nat.le_of_ble_eq_true rfl⟩ (Nat.le_of_ble_eq_true rfl) (fun z2 M2 hq2 => ?_)
  obtain ⟨rfl, hI2⟩ := hq2
  exact LW.eq 1048 dL_law_334 (by decide) (kk M2 hI2)
theorem op_call {Γ : GC} {b L : Nat} {xs : Nat → Int32} {M : Mm} (hL : L ≤ 3072) (i : Int) (hi : 0 ≤ i ∧ i + 6 ≤ L) (hI : Inv M) (kk : ∀ M2 : Mm, Inv M2 → LW Γ b L xs 1048 (LL Γ b i) [] M2) : LW Γ b L xs 339 (LL Γ b i) [] M := by
  refine LW.aload dL_law_339 2 rfl rfl ?_
  refine LW.arg (n := 1) ⟨by omega, by omega⟩ hL dL_law_340 dL_law_341 dL_law_342 dL_law_343 dL_law_344 ?_
  obtain ⟨Qc, h1, h2⟩ := sim_call Γ M hI (xz xs (i + 1)) (xz_r xs (i + 1))
  refine LW.callV h1 dL_law_345 mc_L_44 rfl rfl (fun _ => rfl) ⟨Nat.le_of_ble_eq_true rfl, Nat.le_of_ble_eq_true rfl⟩ (Nat.le_of_ble_eq_true rfl) (fun z M1 hq => ?_)
  refine LW.aload dL_law_348 1 rfl rfl ?_
  refine LW.arg (n := 1) ⟨by omega, by omega⟩ hL dL_law_349 dL_law_350 dL_law_351 dL_law_352 dL_law_353 ?_
  refine LW.callV (h2 z M1 hq) dL_law_354 mc_L_47 rfl rfl (fun _ => rfl) ⟨Nat.le_of_ble_eq_true rfl, Nat.le_of_ble_eq_true rfl⟩ (Nat.le_of_ble_eq_true rfl) (fun z2 M2 hq2 => ?_)
  obtain ⟨rfl, hI2⟩ := hq2
  exact LW.eq 1048 dL_law_357 (by decide) (kk M2 hI2)
theorem op_tell {Γ : GC} {b L : Nat} {xs : Nat → Int32} {M : Mm} (hL : L ≤ 3072) (i : Int) (hi : 0 ≤ i ∧ i + 6 ≤ L) (hI : Inv M) (kk : ∀ M2 : Mm, Inv M2 → LW Γ b L xs 1048 (LL Γ b i) [] M2) : LW Γ b L xs 362 (LL Γ b i) [] M := by
  refine LW.aload dL_law_362 2 rfl rfl ?_
  refine LW.arg (n := 1) ⟨by omega, by omega⟩ hL dL_law_363 dL_law_364 dL_law_365 dL_law_366 dL_law_367 ?_
  refine LW.arg (n := 2) ⟨by omega, by omega⟩ hL dL_law_368 dL_law_369 dL_law_370 dL_law_371 dL_law_372 ?_
  obtain ⟨Qc, h1, h2⟩ := sim_tell Γ M hI (xz xs (i + 1)) (xz xs (i + 2)) (xz_r xs (i + 1)) (xz_r xs (i + 2))
  refine LW.callV h1 dL_law_373 mc_L_48 rfl rfl (fun _ => rfl) ⟨Nat.le_of_ble_eq_true rfl, Nat.le_of_ble_eq_true rfl⟩ (Nat.le_of_ble_eq_true rfl) (fun z M1 hq => ?_)
  refine LW.aload dL_law_376 1 rfl rfl ?_
  refine LW.arg (n := 1) ⟨by omega, by omega⟩ hL dL_law_377 dL_law_378 dL_law_379 dL_law_380 dL_law_381 ?_
  refine LW.arg (n := 2) ⟨by omega, by omega⟩ hL dL_law_382 dL_law_383 dL_law_384 dL_law_385 dL_law_386 ?_
  refine LW.callV (h2 z M1 hq) dL_law_387 mc_L_51 rfl rfl (fun _ => rfl) ⟨Nat.le_of_ble_eq_true rfl, Nat.le_of_ble_eq_true rfl⟩ (Nat.le_of_ble_eq_true rfl) (fun z2 M2 hq2 => ?_)
  obtain ⟨rfl, hI2⟩ := hq2
  exact LW.eq 1048 dL_law_390 (by decide) (kk M2 hI2)
theorem op_said {Γ : GC} {b L : Nat} {xs : Nat → Int32} {M : Mm} (hL : L ≤ 3072) (i : Int) (hi : 0 ≤ i ∧ i + 6 ≤ L) (hI : Inv M) (kk : ∀ M2 : Mm, Inv M2 → LW Γ b L xs 1048 (LL Γ b i) [] M2) : LW Γ b L xs 395 (LL Γ b i) [] M := by
  refine LW.aload dL_law_395 2 rfl rfl ?_
  refine LW.arg (n := 1) ⟨by omega, by omega⟩ hL dL_law_396 dL_law_397 dL_law_398 dL_law_399 dL_law_400 ?_
  refine LW.arg (n := 2) ⟨by omega, by omega⟩ hL dL_law_401 dL_law_402 dL_law_403 dL_law_404 dL_law_405 ?_
  obtain ⟨Qc, h1, h2⟩ := sim_said Γ M hI (xz xs (i + 1)) (xz_r xs (i + 1)) (xz xs (i + 2)) (xz_r xs (i + 2))
  refine LW.callV h1 dL_law_406 mc_L_52 rfl rfl (fun _ => rfl) ⟨Nat.le_of_ble_eq_true rfl, Nat.le_of_ble_eq_true rfl⟩ (Nat.le_of_ble_eq_true rfl) (fun z M1 hq => ?_)
  refine LW.aload dL_law_409 1 rfl rfl ?_
  refine LW.arg (n := 1) ⟨by omega, by omega⟩ hL dL_law_410 dL_law_411 dL_law_412 dL_law_413 dL_law_414 ?_
  refine LW.arg (n := 2) ⟨by omega, by omega⟩ hL dL_law_415 dL_law_416 dL_law_417 dL_law_418 dL_law_419 ?_
  refine LW.callV (h2 z M1 hq) dL_law_420 mc_L_55 rfl rfl (fun _ => rfl) ⟨Nat.le_of_ble_eq_true rfl, Nat.le_of_ble_eq_true rfl⟩ (Nat.le_of_ble_eq_true rfl) (fun z2 M2 hq2 => ?_)
  obtain ⟨rfl, hI2⟩ := hq2
  exact LW.eq 1048 dL_law_423 (by decide) (kk M2 hI2)
theorem op_count {Γ : GC} {b L : Nat} {xs : Nat → Int32} {M : Mm} (hL : L ≤ 3072) (i : Int) (hi : 0 ≤ i ∧ i + 6 ≤ L) (hI : Inv M) (kk : ∀ M2 : Mm, Inv M2 → LW Γ b L xs 1048 (LL Γ b i) [] M2) : LW Γ b L xs 428 (LL Γ b i) [] M := by
  refine LW.aload dL_law_428 2 rfl rfl ?_
  refine LW.arg (n := 1) ⟨by omega, by omega⟩ hL dL_law_429 dL_law_430 dL_law_431 dL_law_432 dL_law_433 ?_
  obtain ⟨Qc, h1, h2⟩ := sim_count Γ M hI (xz xs (i + 1)) (xz_r xs (i + 1))
  refine LW.callV h1 dL_law_434 mc_L_56 rfl rfl (fun _ => rfl) ⟨Nat.le_of_ble_eq_true rfl, Nat.le_of_ble_eq_true rfl⟩ (Nat.le_of_ble_eq_true rfl) (fun z M1 hq => ?_)
  refine LW.aload dL_law_437 1 rfl rfl ?_
  refine LW.arg (n := 1) ⟨by omega, by omega⟩ hL dL_law_438 dL_law_439 dL_law_440 dL_law_441 dL_law_442 ?_
  refine LW.callV (h2 z M1 hq) dL_law_443 mc_L_59 rfl rfl (fun _ => rfl) ⟨Nat.le_of_ble_eq_true rfl, Nat.le_of_ble_eq_true rfl⟩ (Nat.le_of_ble_eq_true rfl) (fun z2 M2 hq2 => ?_)
  obtain ⟨rfl, hI2⟩ := hq2
  exact LW.eq 1048 dL_law_446 (by decide) (kk M2 hI2)
theorem op_least {Γ : GC} {b L : Nat} {xs : Nat → Int32} {M : Mm} (hL : L ≤ 3072) (i : Int) (hi : 0 ≤ i ∧ i + 6 ≤ L) (hI : Inv M) (kk : ∀ M2 : Mm, Inv M2 → LW Γ b L xs 1048 (LL Γ b i) [] M2) : LW Γ b L xs 451 (LL Γ b i) [] M := by
  refine LW.aload dL_law_451 2 rfl rfl ?_
  refine LW.arg (n := 1) ⟨by omega, by omega⟩ hL dL_law_452 dL_law_453 dL_law_454 dL_law_455 dL_law_456 ?_
  obtain ⟨Qc, h1, h2⟩ := sim_least Γ M hI (xz xs (i + 1)) (xz_r xs (i + 1))
  refine LW.callV h1 dL_law_457 mc_L_60 rfl rfl (fun _ => rfl) ⟨Nat.le_of_ble_eq_true rfl, Nat.le_of_ble_eq_true rfl⟩ (Nat.le_of_ble_eq_true rfl) (fun z M1 hq => ?_)
  refine LW.aload dL_law_460 1 rfl rfl ?_
  refine LW.arg (n := 1) ⟨by omega, by omega⟩ hL dL_law_461 dL_law_462 dL_law_463 dL_law_464 dL_law_465 ?_
  refine LW.callV (h2 z M1 hq) dL_law_466 mc_L_63 rfl rfl (fun _ => rfl) ⟨Nat.le_of_ble_eq_true rfl, Nat.le_of_ble_eq_true rfl⟩ (Nat.le_of_ble_eq_true rfl) (fun z2 M2 hq2 => ?_)
  obtain ⟨rfl, hI2⟩ := hq2
  exact LW.eq 1048 dL_law_469 (by decide) (kk M2 hI2)
theorem op_arm {Γ : GC} {b L : Nat} {xs : Nat → Int32} {M : Mm} (hL : L ≤ 3072) (i : Int) (hi : 0 ≤ i ∧ i + 6 ≤ L) (hI : Inv M) (kk : ∀ M2 : Mm, Inv M2 → LW Γ b L xs 1048 (LL Γ b i) [] M2) : LW Γ b L xs 474 (LL Γ b i) [] M := by
  refine LW.aload dL_law_474 2 rfl rfl ?_
  refine LW.arg (n := 1) ⟨by omega, by omega⟩ hL dL_law_475 dL_law_476 dL_law_477 dL_law_478 dL_law_479 ?_
  refine LW.arg (n := 2) ⟨by omega, by omega⟩ hL dL_law_480 dL_law_481 dL_law_482 dL_law_483 dL_law_484 ?_
  obtain ⟨Qc, h1, h2⟩ := sim_arm Γ M hI (xz xs (i + 1)) (xz_r xs (i + 1)) (xz xs (i + 2)) (xz_r xs (i + 2))
  refine LW.callV h1 dL_law_485 mc_L_64 rfl rfl (fun _ => rfl) ⟨Nat.le_of_ble_eq_true rfl, Nat.le_of_ble_eq_true rfl⟩ (Nat.le_of_ble_eq_true rfl) (fun z M1 hq => ?_)
  refine LW.aload dL_law_488 1 rfl rfl ?_
  refine LW.arg (n := 1) ⟨by omega, by omega⟩ hL dL_law_489 dL_law_490 dL_law_491 dL_law_492 dL_law_493 ?_
  refine LW.arg (n := 2) ⟨by omega, by omega⟩ hL dL_law_494 dL_law_495 dL_law_496 dL_law_497 dL_law_498 ?_
  refine LW.callV (h2 z M1 hq) dL_law_499 mc_L_67 rfl rfl (fun _ => rfl) ⟨Nat.le_of_ble_eq_true rfl, Nat.le_of_ble_eq_true rfl⟩ (Nat.le_of_ble_eq_true rfl) (fun z2 M2 hq2 => ?_)
  obtain ⟨rfl, hI2⟩ := hq2
  exact LW.eq 1048 dL_law_502 (by decide) (kk M2 hI2)
theorem op_brief {Γ : GC} {b L : Nat} {xs : Nat → Int32} {M : Mm} (hL : L ≤ 3072) (i : Int) (hi : 0 ≤ i ∧ i + 6 ≤ L) (hI : Inv M) (kk : ∀ M2 : Mm, Inv M2 → LW Γ b L xs 1048 (LL Γ b i) [] M2) : LW Γ b L xs 507 (LL Γ b i) [] M := by
  refine LW.aload dL_law_507 2 rfl rfl ?_
  refine LW.arg (n := 1) ⟨by omega, by omega⟩ hL dL_law_508 dL_law_509 dL_law_510 dL_law_511 dL_law_512 ?_
  obtain ⟨Qc, h1, h2⟩ := sim_brief Γ M hI (xz xs (i + 1)) (xz_r xs (i + 1))
  refine LW.callV h1 dL_law_513 mc_L_68 rfl rfl (fun _ => rfl) ⟨Nat.le_of_ble_eq_true rfl, Nat.le_of_ble_eq_true rfl⟩ (Nat.le_of_ble_eq_true rfl) (fun z M1 hq => ?_)
  refine LW.aload dL_law_516 1 rfl rfl ?_
  refine LW.arg (n := 1) ⟨by omega, by omega⟩ hL dL_law_517 dL_law_518 dL_law_519 dL_law_520 dL_law_521 ?_
  refine LW.callV (h2 z M1 hq) dL_law_522 mc_L_71 rfl rfl (fun _ => rfl) ⟨Nat.le_of_ble_eq_true rfl, Nat.le_of_ble_eq_true rfl⟩ (Nat.le_of_ble_eq_true rfl) (fun z2 M2 hq2 => ?_)
  obtain ⟨rfl, hI2⟩ := hq2
  exact LW.eq 1048 dL_law_525 (by decide) (kk M2 hI2)
theorem op_nearest {Γ : GC} {b L : Nat} {xs : Nat → Int32} {M : Mm} (hL : L ≤ 3072) (i : Int) (hi : 0 ≤ i ∧ i + 6 ≤ L) (hI : Inv M) (kk : ∀ M2 : Mm, Inv M2 → LW Γ b L xs 1048 (LL Γ b i) [] M2) : LW Γ b L xs 530 (LL Γ b i) [] M := by
  refine LW.aload dL_law_530 2 rfl rfl ?_
  refine LW.arg (n := 1) ⟨by omega, by omega⟩ hL dL_law_531 dL_law_532 dL_law_533 dL_law_534 dL_law_535 ?_
  obtain ⟨Qc, h1, h2⟩ := sim_nearest Γ M hI (xz xs (i + 1)) (xz_r xs (i + 1))
  refine LW.callV h1 dL_law_536 mc_L_72 rfl rfl (fun _ => rfl) ⟨Nat.le_of_ble_eq_true rfl, Nat.le_of_ble_eq_true rfl⟩ (Nat.le_of_ble_eq_true rfl) (fun z M1 hq => ?_)
  refine LW.aload dL_law_539 1 rfl rfl ?_
  refine LW.arg (n := 1) ⟨by omega, by omega⟩ hL dL_law_540 dL_law_541 dL_law_542 dL_law_543 dL_law_544 ?_
  refine LW.callV (h2 z M1 hq) dL_law_545 mc_L_75 rfl rfl (fun _ => rfl) ⟨Nat.le_of_ble_eq_true rfl, Nat.le_of_ble_eq_true rfl⟩ (Nat.le_of_ble_eq_true rfl) (fun z2 M2 hq2 => ?_)
  obtain ⟨rfl, hI2⟩ := hq2
  exact LW.eq 1048 dL_law_548 (by decide) (kk M2 hI2)
theorem op_slips {Γ : GC} {b L : Nat} {xs : Nat → Int32} {M : Mm} (hL : L ≤ 3072) (i : Int) (hi : 0 ≤ i ∧ i + 6 ≤ L) (hI : Inv M) (kk : ∀ M2 : Mm, Inv M2 → LW Γ b L xs 1048 (LL Γ b i) [] M2) : LW Γ b L xs 553 (LL Γ b i) [] M := by
  refine LW.aload dL_law_553 2 rfl rfl ?_
  refine LW.arg (n := 1) ⟨by omega, by omega⟩ hL dL_law_554 dL_law_555 dL_law_556 dL_law_557 dL_law_558 ?_
  obtain ⟨Qc, h1, h2⟩ := sim_slips Γ M hI (xz xs (i + 1)) (xz_r xs (i + 1))
  refine LW.callV h1 dL_law_559 mc_L_76 rfl rfl (fun _ => rfl) ⟨Nat.le_of_ble_eq_true rfl, Nat.le_of_ble_eq_true rfl⟩ (Nat.le_of_ble_eq_true rfl) (fun z M1 hq => ?_)
  refine LW.aload dL_law_562 1 rfl rfl ?_
  refine LW.arg (n := 1) ⟨by omega, by omega⟩ hL dL_law_563 dL_law_564 dL_law_565 dL_law_566 dL_law_567 ?_
  refine LW.callV (h2 z M1 hq) dL_law_568 mc_L_79 rfl rfl (fun _ => rfl) ⟨Nat.le_of_ble_eq_true rfl, Nat.le_of_ble_eq_true rfl⟩ (Nat.le_of_ble_eq_true rfl) (fun z2 M2 hq2 => ?_)
  obtain ⟨rfl, hI2⟩ := hq2
  exact LW.eq 1048 dL_law_571 (by decide) (kk M2 hI2)
theorem op_still {Γ : GC} {b L : Nat} {xs : Nat → Int32} {M : Mm} (hL : L ≤ 3072) (i : Int) (hi : 0 ≤ i ∧ i + 6 ≤ L) (hI : Inv M) (kk : ∀ M2 : Mm, Inv M2 → LW Γ b L xs 1048 (LL Γ b i) [] M2) : LW Γ b L xs 576 (LL Γ b i) [] M := by
  refine LW.aload dL_law_576 2 rfl rfl ?_
  refine LW.arg (n := 1) ⟨by omega, by omega⟩ hL dL_law_577 dL_law_578 dL_law_579 dL_law_580 dL_law_581 ?_
  refine LW.arg (n := 2) ⟨by omega, by omega⟩ hL dL_law_582 dL_law_583 dL_law_584 dL_law_585 dL_law_586 ?_
  refine LW.arg (n := 3) ⟨by omega, by omega⟩ hL dL_law_587 dL_law_588 dL_law_589 dL_law_590 dL_law_591 ?_
  obtain ⟨Qc, h1, h2⟩ := sim_still Γ M hI (xz xs (i + 1)) (xz_r xs (i + 1)) (xz xs (i + 2)) (xz_r xs (i + 2)) (xz xs (i + 3)) (xz_r xs (i + 3))
  refine LW.callV h1 dL_law_592 mc_L_80 rfl rfl (fun _ => rfl) ⟨Nat.le_of_ble_eq_true rfl, Nat.le_of_ble_eq_true rfl⟩ (Nat.le_of_ble_eq_true rfl) (fun z M1 hq => ?_)
  refine LW.aload dL_law_595 1 rfl rfl ?_
  refine LW.arg (n := 1) ⟨by omega, by omega⟩ hL dL_law_596 dL_law_597 dL_law_598 dL_law_599 dL_law_600 ?_
  refine LW.arg (n := 2) ⟨by omega, by omega⟩ hL dL_law_601 dL_law_602 dL_law_603 dL_law_604 dL_law_605 ?_
  refine LW.arg (n := 3) ⟨by omega, by omega⟩ hL dL_law_606 dL_law_607 dL_law_608 dL_law_609 dL_law_610 ?_
  refine LW.callV (h2 z M1 hq) dL_law_611 mc_L_84 rfl rfl (fun _ => rfl) ⟨Nat.le_of_ble_eq_true rfl, Nat.le_of_ble_eq_true rfl⟩ (Nat.le_of_ble_eq_true rfl) (fun z2 M2 hq2 => ?_)
  obtain ⟨rfl, hI2⟩ := hq2
  exact LW.eq 1048 dL_law_614 (by decide) (kk M2 hI2)
theorem op_type {Γ : GC} {b L : Nat} {xs : Nat → Int32} {M : Mm} (hL : L ≤ 3072) (i : Int) (hi : 0 ≤ i ∧ i + 6 ≤ L) (hI : Inv M) (kk : ∀ M2 : Mm, Inv M2 → LW Γ b L xs 1048 (LL Γ b i) [] M2) : LW Γ b L xs 619 (LL Γ b i) [] M := by
  refine LW.aload dL_law_619 2 rfl rfl ?_
  refine LW.arg (n := 1) ⟨by omega, by omega⟩ hL dL_law_620 dL_law_621 dL_law_622 dL_law_623 dL_law_624 ?_
  obtain ⟨Qc, h1, h2⟩ := sim_type Γ M hI (xz xs (i + 1)) (xz_r xs (i + 1))
  refine LW.callV h1 dL_law_625 mc_L_85 rfl rfl (fun _ => rfl) ⟨Nat.le_of_ble_eq_true rfl, Nat.le_of_ble_eq_true rfl⟩ (Nat.le_of_ble_eq_true rfl) (fun z M1 hq => ?_)
  refine LW.aload dL_law_628 1 rfl rfl ?_
  refine LW.arg (n := 1) ⟨by omega, by omega⟩ hL dL_law_629 dL_law_630 dL_law_631 dL_law_632 dL_law_633 ?_
  refine LW.callV (h2 z M1 hq) dL_law_634 mc_L_88 rfl rfl (fun _ => rfl) ⟨Nat.le_of_ble_eq_true rfl, Nat.le_of_ble_eq_true rfl⟩ (Nat.le_of_ble_eq_true rfl) (fun z2 M2 hq2 => ?_)
  obtain ⟨rfl, hI2⟩ := hq2
  exact LW.eq 1048 dL_law_637 (by decide) (kk M2 hI2)
theorem op_read {Γ : GC} {b L : Nat} {xs : Nat → Int32} {M : Mm} (hL : L ≤ 3072) (i : Int) (hi : 0 ≤ i ∧ i + 6 ≤ L) (hI : Inv M) (kk : ∀ M2 : Mm, Inv M2 → LW Γ b L xs 1048 (LL Γ b i) [] M2) : LW Γ b L xs 642 (LL Γ b i) [] M := by
  refine LW.aload dL_law_642 2 rfl rfl ?_
  obtain ⟨Qc, h1, h2⟩ := sim_read Γ M hI 
  refine LW.callV h1 dL_law_643 mc_L_89 rfl rfl (fun _ => rfl) ⟨Nat.le_of_ble_eq_true rfl, Nat.le_of_ble_eq_true rfl⟩ (Nat.le_of_ble_eq_true rfl) (fun z M1 hq => ?_)
  refine LW.aload dL_law_646 1 rfl rfl ?_
  refine LW.callV (h2 z M1 hq) dL_law_647 mc_L_92 rfl rfl (fun _ => rfl) ⟨Nat.le_of_ble_eq_true rfl, Nat.le_of_ble_eq_true rfl⟩ (Nat.le_of_ble_eq_true rfl) (fun z2 M2 hq2 => ?_)
  obtain ⟨rfl, hI2⟩ := hq2
  exact LW.eq 1048 dL_law_650 (by decide) (kk M2 hI2)
theorem op_drift {Γ : GC} {b L : Nat} {xs : Nat → Int32} {M : Mm} (hL : L ≤ 3072) (i : Int) (hi : 0 ≤ i ∧ i + 6 ≤ L) (hI : Inv M) (kk : ∀ M2 : Mm, Inv M2 → LW Γ b L xs 1048 (LL Γ b i) [] M2) : LW Γ b L xs 655 (LL Γ b i) [] M := by
  refine LW.aload dL_law_655 2 rfl rfl ?_
  refine LW.arg (n := 1) ⟨by omega, by omega⟩ hL dL_law_656 dL_law_657 dL_law_658 dL_law_659 dL_law_660 ?_
  obtain ⟨Qc, h1, h2⟩ := sim_drift Γ M hI (xz xs (i + 1)) (xz_r xs (i + 1))
  refine LW.callV h1 dL_law_661 mc_L_93 rfl rfl (fun _ => rfl) ⟨Nat.le_of_ble_eq_true rfl, Nat.le_of_ble_eq_true rfl⟩ (Nat.le_of_ble_eq_true rfl) (fun z M1 hq => ?_)
  refine LW.aload dL_law_664 1 rfl rfl ?_
  refine LW.arg (n := 1) ⟨by omega, by omega⟩ hL dL_law_665 dL_law_666 dL_law_667 dL_law_668 dL_law_669 ?_
  refine LW.callV (h2 z M1 hq) dL_law_670 mc_L_96 rfl rfl (fun _ => rfl) ⟨Nat.le_of_ble_eq_true rfl, Nat.le_of_ble_eq_true rfl⟩ (Nat.le_of_ble_eq_true rfl) (fun z2 M2 hq2 => ?_)
  obtain ⟨rfl, hI2⟩ := hq2
  exact LW.eq 1048 dL_law_673 (by decide) (kk M2 hI2)
theorem op_undo {Γ : GC} {b L : Nat} {xs : Nat → Int32} {M : Mm} (hL : L ≤ 3072) (i : Int) (hi : 0 ≤ i ∧ i + 6 ≤ L) (hI : Inv M) (kk : ∀ M2 : Mm, Inv M2 → LW Γ b L xs 1048 (LL Γ b i) [] M2) : LW Γ b L xs 678 (LL Γ b i) [] M := by
  refine LW.aload dL_law_678 2 rfl rfl ?_
  obtain ⟨Qc, h1, h2⟩ := sim_undo Γ M hI 
  refine LW.callV h1 dL_law_679 mc_L_97 rfl rfl (fun _ => rfl) ⟨Nat.le_of_ble_eq_true rfl, Nat.le_of_ble_eq_true rfl⟩ (Nat.le_of_ble_eq_true rfl) (fun z M1 hq => ?_)
  refine LW.aload dL_law_682 1 rfl rfl ?_
  refine LW.callV (h2 z M1 hq) dL_law_683 mc_L_100 rfl rfl (fun _ => rfl) ⟨Nat.le_of_ble_eq_true rfl, Nat.le_of_ble_eq_true rfl⟩ (Nat.le_of_ble_eq_true rfl) (fun z2 M2 hq2 => ?_)
  obtain ⟨rfl, hI2⟩ := hq2
  exact LW.eq 1048 dL_law_686 (by decide) (kk M2 hI2)
theorem op_seed {Γ : GC} {b L : Nat} {xs : Nat → Int32} {M : Mm} (hL : L ≤ 3072) (i : Int) (hi : 0 ≤ i ∧ i + 6 ≤ L) (hI : Inv M) (kk : ∀ M2 : Mm, Inv M2 → LW Γ b L xs 1048 (LL Γ b i) [] M2) : LW Γ b L xs 691 (LL Γ b i) [] M := by
  refine LW.aload dL_law_691 2 rfl rfl ?_
  refine LW.arg (n := 1) ⟨by omega, by omega⟩ hL dL_law_692 dL_law_693 dL_law_694 dL_law_695 dL_law_696 ?_
  obtain ⟨Qc, h1, h2⟩ := sim_seed Γ M hI (xz xs (i + 1)) (xz_r xs (i + 1))
  refine LW.callV h1 dL_law_697 mc_L_101 rfl rfl (fun _ => rfl) ⟨Nat.le_of_ble_eq_true rfl, Nat.le_of_ble_eq_true rfl⟩ (Nat.le_of_ble_eq_true rfl) (fun z M1 hq => ?_)
  refine LW.aload dL_law_700 1 rfl rfl ?_
  refine LW.arg (n := 1) ⟨by omega, by omega⟩ hL dL_law_701 dL_law_702 dL_law_703 dL_law_704 dL_law_705 ?_
  refine LW.callV (h2 z M1 hq) dL_law_706 mc_L_104 rfl rfl (fun _ => rfl) ⟨Nat.le_of_ble_eq_true rfl, Nat.le_of_ble_eq_true rfl⟩ (Nat.le_of_ble_eq_true rfl) (fun z2 M2 hq2 => ?_)
  obtain ⟨rfl, hI2⟩ := hq2
  exact LW.eq 1048 dL_law_709 (by decide) (kk M2 hI2)
theorem op_image {Γ : GC} {b L : Nat} {xs : Nat → Int32} {M : Mm} (hL : L ≤ 3072) (i : Int) (hi : 0 ≤ i ∧ i + 6 ≤ L) (hI : Inv M) (kk : ∀ M2 : Mm, Inv M2 → LW Γ b L xs 1048 (LL Γ b i) [] M2) : LW Γ b L xs 714 (LL Γ b i) [] M := by
  refine LW.aload dL_law_714 2 rfl rfl ?_
  obtain ⟨Qc, h1, h2⟩ := sim_image Γ M hI 
  refine LW.callV h1 dL_law_715 mc_L_105 rfl rfl (fun _ => rfl) ⟨Nat.le_of_ble_eq_true rfl, Nat.le_of_ble_eq_true rfl⟩ (Nat.le_of_ble_eq_true rfl) (fun z M1 hq => ?_)
  refine LW.aload dL_law_718 1 rfl rfl ?_
  refine LW.callV (h2 z M1 hq) dL_law_719 mc_L_108 rfl rfl (fun _ => rfl) ⟨Nat.le_of_ble_eq_true rfl, Nat.le_of_ble_eq_true rfl⟩ (Nat.le_of_ble_eq_true rfl) (fun z2 M2 hq2 => ?_)
  obtain ⟨rfl, hI2⟩ := hq2
  exact LW.eq 1048 dL_law_722 (by decide) (kk M2 hI2)
theorem op_restore {Γ : GC} {b L : Nat} {xs : Nat → Int32} {M : Mm} (hL : L ≤ 3072) (i : Int) (hi : 0 ≤ i ∧ i + 6 ≤ L) (hI : Inv M) (kk : ∀ M2 : Mm, Inv M2 → LW Γ b L xs 1048 (LL Γ b i) [] M2) : LW Γ b L xs 727 (LL Γ b i) [] M := by
  refine LW.aload dL_law_727 2 rfl rfl ?_
  obtain ⟨Qc, h1, h2⟩ := sim_restore Γ M hI 
  refine LW.callV h1 dL_law_728 mc_L_109 rfl rfl (fun _ => rfl) ⟨Nat.le_of_ble_eq_true rfl, Nat.le_of_ble_eq_true rfl⟩ (Nat.le_of_ble_eq_true rfl) (fun z M1 hq => ?_)
  refine LW.aload dL_law_731 1 rfl rfl ?_
  refine LW.callV (h2 z M1 hq) dL_law_732 mc_L_112 rfl rfl (fun _ => rfl) ⟨Nat.le_of_ble_eq_true rfl, Nat.le_of_ble_eq_true rfl⟩ (Nat.le_of_ble_eq_true rfl) (fun z2 M2 hq2 => ?_)
  obtain ⟨rfl, hI2⟩ := hq2
  exact LW.eq 1048 dL_law_735 (by decide) (kk M2 hI2)
theorem op_seen {Γ : GC} {b L : Nat} {xs : Nat → Int32} {M : Mm} (hL : L ≤ 3072) (i : Int) (hi : 0 ≤ i ∧ i + 6 ≤ L) (hI : Inv M) (kk : ∀ M2 : Mm, Inv M2 → LW Γ b L xs 1048 (LL Γ b i) [] M2) : LW Γ b L xs 740 (LL Γ b i) [] M := by
  refine LW.aload dL_law_740 2 rfl rfl ?_
  refine LW.arg (n := 1) ⟨by omega, by omega⟩ hL dL_law_741 dL_law_742 dL_law_743 dL_law_744 dL_law_745 ?_
  refine LW.arg (n := 2) ⟨by omega, by omega⟩ hL dL_law_746 dL_law_747 dL_law_748 dL_law_749 dL_law_750 ?_
  refine LW.arg (n := 3) ⟨by omega, by omega⟩ hL dL_law_751 dL_law_752 dL_law_753 dL_law_754 dL_law_755 ?_
  refine LW.arg (n := 4) ⟨by omega, by omega⟩ hL dL_law_756 dL_law_757 dL_law_758 dL_law_759 dL_law_760 ?_
  obtain ⟨Qc, h1, h2⟩ := sim_seen Γ M hI (xz xs (i + 1)) (xz_r xs (i + 1)) (xz xs (i + 2)) (xz_r xs (i + 2)) (xz xs (i + 3)) (xz_r xs (i + 3)) (xz xs (i + 4)) (xz_r xs (i + 4))
  refine LW.callV h1 dL_law_761 mc_L_113 rfl rfl (fun _ => rfl) ⟨Nat.le_of_ble_eq_true rfl, Nat.le_of_ble_eq_true rfl⟩ (Nat.le_of_ble_eq_true rfl) (fun z M1 hq => ?_)
  refine LW.aload dL_law_764 1 rfl rfl ?_
  refine LW.arg (n := 1) ⟨by omega, by omega⟩ hL dL_law_765 dL_law_766 dL_law_767 dL_law_768 dL_law_769 ?_
  refine LW.arg (n := 2) ⟨by omega, by omega⟩ hL dL_law_770 dL_law_771 dL_law_772 dL_law_773 dL_law_774 ?_
  refine LW.arg (n := 3) ⟨by omega, by omega⟩ hL dL_law_775 dL_law_776 dL_law_777 dL_law_778 dL_law_779 ?_
  refine LW.arg (n := 4) ⟨by omega, by omega⟩ hL dL_law_780 dL_law_781 dL_law_782 dL_law_783 dL_law_784 ?_
  refine LW.callV (h2 z M1 hq) dL_law_785 mc_L_117 rfl rfl (fun _ => rfl) ⟨Nat.le_of_ble_eq_true rfl, Nat.le_of_ble_eq_true rfl⟩ (Nat.le_of_ble_eq_true rfl) (fun z2 M2 hq2 => ?_)
  obtain ⟨rfl, hI2⟩ := hq2
  exact LW.eq 1048 dL_law_788 (by decide) (kk M2 hI2)
theorem op_film {Γ : GC} {b L : Nat} {xs : Nat → Int32} {M : Mm} (hL : L ≤ 3072) (i : Int) (hi : 0 ≤ i ∧ i + 6 ≤ L) (hI : Inv M) (kk : ∀ M2 : Mm, Inv M2 → LW Γ b L xs 1048 (LL Γ b i) [] M2) : LW Γ b L xs 793 (LL Γ b i) [] M := by
  refine LW.aload dL_law_793 2 rfl rfl ?_
  refine LW.arg (n := 1) ⟨by omega, by omega⟩ hL dL_law_794 dL_law_795 dL_law_796 dL_law_797 dL_law_798 ?_
  refine LW.arg (n := 2) ⟨by omega, by omega⟩ hL dL_law_799 dL_law_800 dL_law_801 dL_law_802 dL_law_803 ?_
  refine LW.arg (n := 3) ⟨by omega, by omega⟩ hL dL_law_804 dL_law_805 dL_law_806 dL_law_807 dL_law_808 ?_
  obtain ⟨Qc, h1, h2⟩ := sim_film Γ M hI (xz xs (i + 1)) (xz_r xs (i + 1)) (xz xs (i + 2)) (xz_r xs (i + 2)) (xz xs (i + 3)) (xz_r xs (i + 3))
  refine LW.callV h1 dL_law_809 mc_L_118 rfl rfl (fun _ => rfl) ⟨Nat.le_of_ble_eq_true rfl, Nat.le_of_ble_eq_true rfl⟩ (Nat.le_of_ble_eq_true rfl) (fun z M1 hq => ?_)
  refine LW.aload dL_law_812 1 rfl rfl ?_
  refine LW.arg (n := 1) ⟨by omega, by omega⟩ hL dL_law_813 dL_law_814 dL_law_815 dL_law_816 dL_law_817 ?_
  refine LW.arg (n := 2) ⟨by omega, by omega⟩ hL dL_law_818 dL_law_819 dL_law_820 dL_law_821 dL_law_822 ?_
  refine LW.arg (n := 3) ⟨by omega, by omega⟩ hL dL_law_823 dL_law_824 dL_law_825 dL_law_826 dL_law_827 ?_
  refine LW.callV (h2 z M1 hq) dL_law_828 mc_L_121 rfl rfl (fun _ => rfl) ⟨Nat.le_of_ble_eq_true rfl, Nat.le_of_ble_eq_true rfl⟩ (Nat.le_of_ble_eq_true rfl) (fun z2 M2 hq2 => ?_)
  obtain ⟨rfl, hI2⟩ := hq2
  exact LW.eq 1048 dL_law_831 (by decide) (kk M2 hI2)
theorem op_sheet {Γ : GC} {b L : Nat} {xs : Nat → Int32} {M : Mm} (hL : L ≤ 3072) (i : Int) (hi : 0 ≤ i ∧ i + 6 ≤ L) (hI : Inv M) (kk : ∀ M2 : Mm, Inv M2 → LW Γ b L xs 1048 (LL Γ b i) [] M2) : LW Γ b L xs 836 (LL Γ b i) [] M := by
  refine LW.aload dL_law_836 2 rfl rfl ?_
  refine LW.arg (n := 1) ⟨by omega, by omega⟩ hL dL_law_837 dL_law_838 dL_law_839 dL_law_840 dL_law_841 ?_
  refine LW.arg (n := 2) ⟨by omega, by omega⟩ hL dL_law_842 dL_law_843 dL_law_844 dL_law_845 dL_law_846 ?_
  refine LW.arg (n := 3) ⟨by omega, by omega⟩ hL dL_law_847 dL_law_848 dL_law_849 dL_law_850 dL_law_851 ?_
  obtain ⟨Qc, h1, h2⟩ := sim_sheet Γ M hI (xz xs (i + 1)) (xz_r xs (i + 1)) (xz xs (i + 2)) (xz_r xs (i + 2)) (xz xs (i + 3)) (xz_r xs (i + 3))
  refine LW.callV h1 dL_law_852 mc_L_122 rfl rfl (fun _ => rfl) ⟨Nat.le_of_ble_eq_true rfl, Nat.le_of_ble_eq_true rfl⟩ (Nat.le_of_ble_eq_true rfl) (fun z M1 hq => ?_)
  refine LW.aload dL_law_855 1 rfl rfl ?_
  refine LW.arg (n := 1) ⟨by omega, by omega⟩ hL dL_law_856 dL_law_857 dL_law_858 dL_law_859 dL_law_860 ?_
  refine LW.arg (n := 2) ⟨by omega, by omega⟩ hL dL_law_861 dL_law_862 dL_law_863 dL_law_864 dL_law_865 ?_
  refine LW.arg (n := 3) ⟨by omega, by omega⟩ hL dL_law_866 dL_law_867 dL_law_868 dL_law_869 dL_law_870 ?_
  refine LW.callV (h2 z M1 hq) dL_law_871 mc_L_125 rfl rfl (fun _ => rfl) ⟨Nat.le_of_ble_eq_true rfl, Nat.le_of_ble_eq_true rfl⟩ (Nat.le_of_ble_eq_true rfl) (fun z2 M2 hq2 => ?_)
  obtain ⟨rfl, hI2⟩ := hq2
  exact LW.eq 1048 dL_law_874 (by decide) (kk M2 hI2)
theorem op_drop {Γ : GC} {b L : Nat} {xs : Nat → Int32} {M : Mm} (hL : L ≤ 3072) (i : Int) (hi : 0 ≤ i ∧ i + 6 ≤ L) (hI : Inv M) (kk : ∀ M2 : Mm, Inv M2 → LW Γ b L xs 1048 (LL Γ b i) [] M2) : LW Γ b L xs 879 (LL Γ b i) [] M := by
  refine LW.aload dL_law_879 2 rfl rfl ?_
  refine LW.arg (n := 1) ⟨by omega, by omega⟩ hL dL_law_880 dL_law_881 dL_law_882 dL_law_883 dL_law_884 ?_
  obtain ⟨Qc, h1, h2⟩ := sim_drop Γ M hI (xz xs (i + 1)) (xz_r xs (i + 1))
  refine LW.callV h1 dL_law_885 mc_L_126 rfl rfl (fun _ => rfl) ⟨Nat.le_of_ble_eq_true rfl, Nat.le_of_ble_eq_true rfl⟩ (Nat.le_of_ble_eq_true rfl) (fun z M1 hq => ?_)
  refine LW.aload dL_law_888 1 rfl rfl ?_
  refine LW.arg (n := 1) ⟨by omega, by omega⟩ hL dL_law_889 dL_law_890 dL_law_891 dL_law_892 dL_law_893 ?_
  refine LW.callV (h2 z M1 hq) dL_law_894 mc_L_129 rfl rfl (fun _ => rfl) ⟨Nat.le_of_ble_eq_true rfl, Nat.le_of_ble_eq_true rfl⟩ (Nat.le_of_ble_eq_true rfl) (fun z2 M2 hq2 => ?_)
  obtain ⟨rfl, hI2⟩ := hq2
  exact LW.eq 1048 dL_law_897 (by decide) (kk M2 hI2)
theorem op_item {Γ : GC} {b L : Nat} {xs : Nat → Int32} {M : Mm} (hL : L ≤ 3072) (i : Int) (hi : 0 ≤ i ∧ i + 6 ≤ L) (hI : Inv M) (kk : ∀ M2 : Mm, Inv M2 → LW Γ b L xs 1048 (LL Γ b i) [] M2) : LW Γ b L xs 902 (LL Γ b i) [] M := by
  refine LW.aload dL_law_902 2 rfl rfl ?_
  refine LW.arg (n := 1) ⟨by omega, by omega⟩ hL dL_law_903 dL_law_904 dL_law_905 dL_law_906 dL_law_907 ?_
  refine LW.arg (n := 2) ⟨by omega, by omega⟩ hL dL_law_908 dL_law_909 dL_law_910 dL_law_911 dL_law_912 ?_
  refine LW.arg (n := 3) ⟨by omega, by omega⟩ hL dL_law_913 dL_law_914 dL_law_915 dL_law_916 dL_law_917 ?_
  refine LW.arg (n := 4) ⟨by omega, by omega⟩ hL dL_law_918 dL_law_919 dL_law_920 dL_law_921 dL_law_922 ?_
  refine LW.i2l dL_law_923 ?_
  refine LW.bipush (z := 32) dL_law_924 rfl ?_
  refine LW.lshl dL_law_926 ?_
  refine LW.arg (n := 5) ⟨by omega, by omega⟩ hL dL_law_927 dL_law_928 dL_law_929 dL_law_930 dL_law_931 ?_
  refine LW.i2l dL_law_932 ?_
  refine LW.ldc2 dL_law_933 kl_L_130 ?_
  refine LW.land dL_law_936 ?_
  refine LW.lor dL_law_937 ?_
  obtain ⟨Qc, h1, h2⟩ := sim_item Γ M hI (xz xs (i + 1)) (xz_r xs (i + 1)) (xz xs (i + 2)) (xz_r xs (i + 2)) (xz xs (i + 3)) (xz_r xs (i + 3)) ((((Int32.ofInt (xz xs (i + 4))).toInt64 <<< ((Int32.ofInt 32).toInt64 &&& 63)) ||| ((Int32.ofInt (xz xs (i + 5))).toInt64 &&& 4294967295)).toInt) ⟨Int64.le_toInt _, Int64.toInt_lt _⟩
  refine LW.callV h1 dL_law_938 mc_L_132 rfl rfl (fun _ => rfl) ⟨Nat.le_of_ble_eq_true rfl, Nat.le_of_ble_eq_true rfl⟩ (Nat.le_of_ble_eq_true rfl) (fun z M1 hq => ?_)
  refine LW.aload dL_law_941 1 rfl rfl ?_
  refine LW.arg (n := 1) ⟨by omega, by omega⟩ hL dL_law_942 dL_law_943 dL_law_944 dL_law_945 dL_law_946 ?_
  refine LW.arg (n := 2) ⟨by omega, by omega⟩ hL dL_law_947 dL_law_948 dL_law_949 dL_law_950 dL_law_951 ?_
  refine LW.arg (n := 3) ⟨by omega, by omega⟩ hL dL_law_952 dL_law_953 dL_law_954 dL_law_955 dL_law_956 ?_
  refine LW.arg (n := 4) ⟨by omega, by omega⟩ hL dL_law_957 dL_law_958 dL_law_959 dL_law_960 dL_law_961 ?_
  refine LW.i2l dL_law_962 ?_
  refine LW.bipush (z := 32) dL_law_963 rfl ?_
  refine LW.lshl dL_law_965 ?_
  refine LW.arg (n := 5) ⟨by omega, by omega⟩ hL dL_law_966 dL_law_967 dL_law_968 dL_law_969 dL_law_970 ?_
  refine LW.i2l dL_law_971 ?_
  refine LW.ldc2 dL_law_972 kl_L_130 ?_
  refine LW.land dL_law_975 ?_
  refine LW.lor dL_law_976 ?_
  refine LW.callV (h2 z M1 hq) dL_law_977 mc_L_136 rfl rfl (fun _ => rfl) ⟨Nat.le_of_ble_eq_true rfl, Nat.le_of_ble_eq_true rfl⟩ (Nat.le_of_ble_eq_true rfl) (fun z2 M2 hq2 => ?_)
  obtain ⟨rfl, hI2⟩ := hq2
  exact LW.eq 1048 dL_law_980 (by decide) (kk M2 hI2)
theorem op_copy {Γ : GC} {b L : Nat} {xs : Nat → Int32} {M : Mm} (hL : L ≤ 3072) (i : Int) (hi : 0 ≤ i ∧ i + 6 ≤ L) (hI : Inv M) (kk : ∀ M2 : Mm, Inv M2 → LW Γ b L xs 1048 (LL Γ b i) [] M2) : LW Γ b L xs 985 (LL Γ b i) [] M := by
  refine LW.aload dL_law_985 2 rfl rfl ?_
  refine LW.arg (n := 1) ⟨by omega, by omega⟩ hL dL_law_986 dL_law_987 dL_law_988 dL_law_989 dL_law_990 ?_
  refine LW.arg (n := 2) ⟨by omega, by omega⟩ hL dL_law_991 dL_law_992 dL_law_993 dL_law_994 dL_law_995 ?_
  refine LW.arg (n := 3) ⟨by omega, by omega⟩ hL dL_law_996 dL_law_997 dL_law_998 dL_law_999 dL_law_1000 ?_
  refine LW.arg (n := 4) ⟨by omega, by omega⟩ hL dL_law_1001 dL_law_1002 dL_law_1003 dL_law_1004 dL_law_1005 ?_
  refine LW.arg (n := 5) ⟨by omega, by omega⟩ hL dL_law_1006 dL_law_1007 dL_law_1008 dL_law_1009 dL_law_1010 ?_
  obtain ⟨Qc, h1, h2⟩ := sim_copy Γ M hI (xz xs (i + 1)) (xz_r xs (i + 1)) (xz xs (i + 2)) (xz_r xs (i + 2)) (xz xs (i + 3)) (xz_r xs (i + 3)) (xz xs (i + 4)) (xz_r xs (i + 4)) (xz xs (i + 5)) (xz_r xs (i + 5))
  refine LW.callV h1 dL_law_1011 mc_L_137 rfl rfl (fun _ => rfl) ⟨Nat.le_of_ble_eq_true rfl, Nat.le_of_ble_eq_true rfl⟩ (Nat.le_of_ble_eq_true rfl) (fun z M1 hq => ?_)
  refine LW.aload dL_law_1014 1 rfl rfl ?_
  refine LW.arg (n := 1) ⟨by omega, by omega⟩ hL dL_law_1015 dL_law_1016 dL_law_1017 dL_law_1018 dL_law_1019 ?_
  refine LW.arg (n := 2) ⟨by omega, by omega⟩ hL dL_law_1020 dL_law_1021 dL_law_1022 dL_law_1023 dL_law_1024 ?_
  refine LW.arg (n := 3) ⟨by omega, by omega⟩ hL dL_law_1025 dL_law_1026 dL_law_1027 dL_law_1028 dL_law_1029 ?_
  refine LW.arg (n := 4) ⟨by omega, by omega⟩ hL dL_law_1030 dL_law_1031 dL_law_1032 dL_law_1033 dL_law_1034 ?_
  refine LW.arg (n := 5) ⟨by omega, by omega⟩ hL dL_law_1035 dL_law_1036 dL_law_1037 dL_law_1038 dL_law_1039 ?_
  refine LW.callV (h2 z M1 hq) dL_law_1040 mc_L_141 rfl rfl (fun _ => rfl) ⟨Nat.le_of_ble_eq_true rfl, Nat.le_of_ble_eq_true rfl⟩ (Nat.le_of_ble_eq_true rfl) (fun z2 M2 hq2 => ?_)
  obtain ⟨rfl, hI2⟩ := hq2
  exact LW.eq 1048 dL_law_1043 (by decide) (kk M2 hI2)
theorem law_loop {Γ : GC} {b L : Nat} {xs : Nat → Int32} (hL : L ≤ 3072) : ∀ (n : Nat) (i : Int) (M : Mm), (0 ≤ i ∧ i ≤ 4000) → (L : Int) - i < n → Inv M → LW Γ b L xs 18 (LL Γ b i) [] M := by
  intro n
  induction n with
  | zero =>
    intro i M hi hn hI
    refine LW.iload dL_law_18 0 rfl rfl ?_
    refine LW.aload dL_law_19 3 rfl rfl ?_
    refine LW.alen dL_law_20 ?_
    refine LW.bipush (z := 6) dL_law_21 rfl ?_
    refine LW.isub dL_law_23 ?_
    refine LW.gt 1054 dL_law_24 (by decide) ⟨by omega, by omega⟩ ⟨by omega, by omega⟩ (fun _ => ?_) (fun c => by omega)
    refine LW.iconst dL_law_1054 ?_
    exact LW.end1 dL_law_1055
  | succ n ih =>
    intro i M hi hn hI
    refine LW.iload dL_law_18 0 rfl rfl ?_
    refine LW.aload dL_law_19 3 rfl rfl ?_
    refine LW.alen dL_law_20 ?_
    refine LW.bipush (z := 6) dL_law_21 rfl ?_
    refine LW.isub dL_law_23 ?_
    refine LW.gt 1054 dL_law_24 (by decide) ⟨by omega, by omega⟩ ⟨by omega, by omega⟩ (fun _ => ?_) (fun c => ?_)
    · refine LW.iconst dL_law_1054 ?_
      exact LW.end1 dL_law_1055
    have h6 : 0 ≤ i ∧ i + 6 ≤ L := by omega
    have kk : ∀ M2 : Mm, Inv M2 → LW Γ b L xs 1048 (LL Γ b i) [] M2 := fun M2 hI2 => by
      refine LW.iinc (LL Γ b (i + 6)) dL_law_1048 0 rfl (by decide) rfl ?_
      refine LW.goto 18 dL_law_1051 (by decide) ?_
      exact ih (i + 6) M2 (by omega) (by omega) hI2
    refine LW.aload dL_law_27 3 rfl rfl ?_
    refine LW.iload dL_law_28 0 rfl rfl ?_
    refine LW.iald i (by omega) (by omega) (by omega) dL_law_29 ?_
    refine LW.bipush (z := 31) dL_law_30 rfl ?_
    refine LW.and31 dL_law_32 ?_
    generalize hk : (xs i.toNat).toInt % 32 = k
    have hk2 : 0 ≤ k ∧ k < 32 := by omega
    clear hk
    rcases (show k = 0 ∨ k = 1 ∨ k = 2 ∨ k = 3 ∨ k = 4 ∨ k = 5 ∨ k = 6 ∨ k = 7 ∨ k = 8 ∨ k = 9 ∨ k = 10 ∨ k = 11 ∨ k = 12 ∨ k = 13 ∨ k = 14 ∨ k = 15 ∨ k = 16 ∨ k = 17 ∨ k = 18 ∨ k = 19 ∨ k = 20 ∨ k = 21 ∨ k = 22 ∨ k = 23 ∨ k = 24 ∨ k = 25 ∨ k = 26 ∨ k = 27 ∨ k = 28 ∨ k = 29 ∨ 30 ≤ k by omega) with rfl | rfl | rfl | rfl | rfl | rfl | rfl | rfl | rfl | rfl | rfl | rfl | rfl | rfl | rfl | rfl | rfl | rfl | rfl | rfl | rfl | rfl | rfl | rfl | rfl | rfl | rfl | rfl | rfl | rfl | hk
    · exact LW.tsIn 168 dL_law_33 (by decide) (by decide) (by decide) rfl (by decide) (op_sign hL i h6 hI kk)
    · exact LW.tsIn 201 dL_law_33 (by decide) (by decide) (by decide) rfl (by decide) (op_letter hL i h6 hI kk)
    · exact LW.tsIn 234 dL_law_33 (by decide) (by decide) (by decide) rfl (by decide) (op_apart hL i h6 hI kk)
    · exact LW.tsIn 267 dL_law_33 (by decide) (by decide) (by decide) rfl (by decide) (op_say hL i h6 hI kk)
    · exact LW.tsIn 290 dL_law_33 (by decide) (by decide) (by decide) rfl (by decide) (op_back hL i h6 hI kk)
    · exact LW.tsIn 303 dL_law_33 (by decide) (by decide) (by decide) rfl (by decide) (op_keep hL i h6 hI kk)
    · exact LW.tsIn 316 dL_law_33 (by decide) (by decide) (by decide) rfl (by decide) (op_lose hL i h6 hI kk)
    · exact LW.tsIn 339 dL_law_33 (by decide) (by decide) (by decide) rfl (by decide) (op_call hL i h6 hI kk)
    · exact LW.tsIn 362 dL_law_33 (by decide) (by decide) (by decide) rfl (by decide) (op_tell hL i h6 hI kk)
    · exact LW.tsIn 395 dL_law_33 (by decide) (by decide) (by decide) rfl (by decide) (op_said hL i h6 hI kk)
    · exact LW.tsIn 428 dL_law_33 (by decide) (by decide) (by decide) rfl (by decide) (op_count hL i h6 hI kk)
    · exact LW.tsIn 451 dL_law_33 (by decide) (by decide) (by decide) rfl (by decide) (op_least hL i h6 hI kk)
    · exact LW.tsIn 474 dL_law_33 (by decide) (by decide) (by decide) rfl (by decide) (op_arm hL i h6 hI kk)
    · exact LW.tsIn 507 dL_law_33 (by decide) (by decide) (by decide) rfl (by decide) (op_brief hL i h6 hI kk)
    · exact LW.tsIn 530 dL_law_33 (by decide) (by decide) (by decide) rfl (by decide) (op_nearest hL i h6 hI kk)
    · exact LW.tsIn 553 dL_law_33 (by decide) (by decide) (by decide) rfl (by decide) (op_slips hL i h6 hI kk)
    · exact LW.tsIn 576 dL_law_33 (by decide) (by decide) (by decide) rfl (by decide) (op_still hL i h6 hI kk)
    · exact LW.tsIn 619 dL_law_33 (by decide) (by decide) (by decide) rfl (by decide) (op_type hL i h6 hI kk)
    · exact LW.tsIn 642 dL_law_33 (by decide) (by decide) (by decide) rfl (by decide) (op_read hL i h6 hI kk)
    · exact LW.tsIn 655 dL_law_33 (by decide) (by decide) (by decide) rfl (by decide) (op_drift hL i h6 hI kk)
    · exact LW.tsIn 678 dL_law_33 (by decide) (by decide) (by decide) rfl (by decide) (op_undo hL i h6 hI kk)
    · exact LW.tsIn 691 dL_law_33 (by decide) (by decide) (by decide) rfl (by decide) (op_seed hL i h6 hI kk)
    · exact LW.tsIn 714 dL_law_33 (by decide) (by decide) (by decide) rfl (by decide) (op_image hL i h6 hI kk)
    · exact LW.tsIn 727 dL_law_33 (by decide) (by decide) (by decide) rfl (by decide) (op_restore hL i h6 hI kk)
    · exact LW.tsIn 740 dL_law_33 (by decide) (by decide) (by decide) rfl (by decide) (op_seen hL i h6 hI kk)
    · exact LW.tsIn 793 dL_law_33 (by decide) (by decide) (by decide) rfl (by decide) (op_film hL i h6 hI kk)
    · exact LW.tsIn 836 dL_law_33 (by decide) (by decide) (by decide) rfl (by decide) (op_sheet hL i h6 hI kk)
    · exact LW.tsIn 879 dL_law_33 (by decide) (by decide) (by decide) rfl (by decide) (op_drop hL i h6 hI kk)
    · exact LW.tsIn 902 dL_law_33 (by decide) (by decide) (by decide) rfl (by decide) (op_item hL i h6 hI kk)
    · exact LW.tsIn 985 dL_law_33 (by decide) (by decide) (by decide) rfl (by decide) (op_copy hL i h6 hI kk)
    · exact LW.tsOut 1048 dL_law_33 ⟨by omega, by omega⟩ (Or.inr (by omega)) (by decide) (kk M hI)
