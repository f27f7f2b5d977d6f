section CASES
variable {X : LXT} {G : pw_G} {gm : Nat → Nat} {b L : Nat} {xs : Nat → Int32} {σ μ : pw_H}
set_option maxRecDepth 100000 in
theorem law_0 (C : LC X G gm b L xs) (hL : L ≤ 3072) {n : Nat} (hn : n + 6 ≤ L) (hI : Inv (vX σ)) (he : vM μ = vX σ) (K : ∀ σ' μ', Inv (vX σ') → vM μ' = vX σ' → LW X G gm b 1129 (n : Int) [] σ' μ') : LW X G gm b 140 (n : Int) [] σ μ := by
  refine l_x C dL_law_140 ?_
  refine l_arg (j := 1) C rfl (by omega) hL dL_law_141 dL_law_142 dL_law_143 dL_law_144 dL_law_145 ?_
  refine l_arg (j := 2) C rfl (by omega) hL dL_law_146 dL_law_147 dL_law_148 dL_law_149 dL_law_150 ?_
  refine l_arg (j := 3) C rfl (by omega) hL dL_law_151 dL_law_152 dL_law_153 dL_law_154 dL_law_155 ?_
  refine l_arg (j := 4) C rfl (by omega) hL dL_law_156 dL_law_157 dL_law_158 dL_law_159 dL_law_160 ?_
  refine l_callX C (c_X5_star _ _ _ hI (iI_rng _) (iI_rng _) (iI_rng _) (iI_rng _)) ok_X5_star (big 464 (by decide +kernel)) rfl rfl rfl (by decide) (by decide) (Nat.le_of_ble_eq_true rfl) dL_law_161 (fun v τ hq => ?_)
  obtain ⟨rfl, e1⟩ := hq
  refine l_m C dL_law_164 ?_
  refine l_arg (j := 1) C rfl (by omega) hL dL_law_165 dL_law_166 dL_law_167 dL_law_168 dL_law_169 ?_
  refine l_arg (j := 2) C rfl (by omega) hL dL_law_170 dL_law_171 dL_law_172 dL_law_173 dL_law_174 ?_
  refine l_arg (j := 3) C rfl (by omega) hL dL_law_175 dL_law_176 dL_law_177 dL_law_178 dL_law_179 ?_
  refine l_arg (j := 4) C rfl (by omega) hL dL_law_180 dL_law_181 dL_law_182 dL_law_183 dL_law_184 ?_
  refine l_callM C (c_X6_star _ _ _ (he ▸ hI) (iI_rng _) (iI_rng _) (iI_rng _) (iI_rng _)) ok_X6_star (big 467 (by decide +kernel)) rfl rfl rfl (by decide) (by decide) (Nat.le_of_ble_eq_true rfl) dL_law_185 (fun v ρ hq => ?_)
  obtain ⟨rfl, e2⟩ := hq
  rw [he] at e2 ⊢
  refine l_eq C rfl (tgt := 1129) (by decide) dL_law_188 ?_
  exact K τ ρ (by rw [e1]; exact i_star hI) (e2.trans e1.symm)
set_option maxRecDepth 100000 in
theorem law_1 (C : LC X G gm b L xs) (hL : L ≤ 3072) {n : Nat} (hn : n + 6 ≤ L) (hI : Inv (vX σ)) (he : vM μ = vX σ) (K : ∀ σ' μ', Inv (vX σ') → vM μ' = vX σ' → LW X G gm b 1129 (n : Int) [] σ' μ') : LW X G gm b 193 (n : Int) [] σ μ := by
  refine l_x C dL_law_193 ?_
  refine l_arg (j := 1) C rfl (by omega) hL dL_law_194 dL_law_195 dL_law_196 dL_law_197 dL_law_198 ?_
  refine l_arg (j := 2) C rfl (by omega) hL dL_law_199 dL_law_200 dL_law_201 dL_law_202 dL_law_203 ?_
  refine l_callX C (c_X5_sky _ _ _ hI (iI_rng _) (iI_rng _)) ok_X5_sky (big 470 (by decide +kernel)) rfl rfl rfl (by decide) (by decide) (Nat.le_of_ble_eq_true rfl) dL_law_204 (fun v τ hq => ?_)
  obtain ⟨rfl, e1⟩ := hq
  refine l_m C dL_law_207 ?_
  refine l_arg (j := 1) C rfl (by omega) hL dL_law_208 dL_law_209 dL_law_210 dL_law_211 dL_law_212 ?_
  refine l_arg (j := 2) C rfl (by omega) hL dL_law_213 dL_law_214 dL_law_215 dL_law_216 dL_law_217 ?_
  refine l_callM C (c_X6_sky _ _ _ (he ▸ hI) (iI_rng _) (iI_rng _)) ok_X6_sky (big 473 (by decide +kernel)) rfl rfl rfl (by decide) (by decide) (Nat.le_of_ble_eq_true rfl) dL_law_218 (fun v ρ hq => ?_)
  obtain ⟨rfl, e2⟩ := hq
  rw [he] at e2 ⊢
  refine l_eq C rfl (tgt := 1129) (by decide) dL_law_221 ?_
  exact K τ ρ (by rw [e1]; exact i_sky hI) (e2.trans e1.symm)
set_option maxRecDepth 100000 in
theorem law_2 (C : LC X G gm b L xs) (hL : L ≤ 3072) {n : Nat} (hn : n + 6 ≤ L) (hI : Inv (vX σ)) (he : vM μ = vX σ) (K : ∀ σ' μ', Inv (vX σ') → vM μ' = vX σ' → LW X G gm b 1129 (n : Int) [] σ' μ') : LW X G gm b 226 (n : Int) [] σ μ := by
  refine l_x C dL_law_226 ?_
  refine l_arg (j := 1) C rfl (by omega) hL dL_law_227 dL_law_228 dL_law_229 dL_law_230 dL_law_231 ?_
  refine l_arg (j := 2) C rfl (by omega) hL dL_law_232 dL_law_233 dL_law_234 dL_law_235 dL_law_236 ?_
  refine l_callX C (c_X5_about _ _ _ hI (iI_rng _) (iI_rng _)) ok_X5_about (big 476 (by decide +kernel)) rfl rfl rfl (by decide) (by decide) (Nat.le_of_ble_eq_true rfl) dL_law_237 (fun v τ hq => ?_)
  obtain ⟨rfl, e1⟩ := hq
  refine l_m C dL_law_240 ?_
  refine l_arg (j := 1) C rfl (by omega) hL dL_law_241 dL_law_242 dL_law_243 dL_law_244 dL_law_245 ?_
  refine l_arg (j := 2) C rfl (by omega) hL dL_law_246 dL_law_247 dL_law_248 dL_law_249 dL_law_250 ?_
  refine l_callM C (c_X6_about _ _ _ (he ▸ hI) (iI_rng _) (iI_rng _)) ok_X6_about (big 479 (by decide +kernel)) rfl rfl rfl (by decide) (by decide) (Nat.le_of_ble_eq_true rfl) dL_law_251 (fun v ρ hq => ?_)
  obtain ⟨rfl, e2⟩ := hq
  rw [he] at e2 ⊢
  refine l_eq C rfl (tgt := 1129) (by decide) dL_law_254 ?_
  exact K τ ρ (by rw [e1]; exact i_about hI) (e2.trans e1.symm)
set_option maxRecDepth 100000 in
theorem law_3 (C : LC X G gm b L xs) (hL : L ≤ 3072) {n : Nat} (hn : n + 6 ≤ L) (hI : Inv (vX σ)) (he : vM μ = vX σ) (K : ∀ σ' μ', Inv (vX σ') → vM μ' = vX σ' → LW X G gm b 1129 (n : Int) [] σ' μ') : LW X G gm b 259 (n : Int) [] σ μ := by
  refine l_x C dL_law_259 ?_
  refine l_arg (j := 1) C rfl (by omega) hL dL_law_260 dL_law_261 dL_law_262 dL_law_263 dL_law_264 ?_
  refine l_callX C (c_X5_limit _ _ _ hI (iI_rng _)) ok_X5_limit (big 482 (by decide +kernel)) rfl rfl rfl (by decide) (by decide) (Nat.le_of_ble_eq_true rfl) dL_law_265 (fun v τ hq => ?_)
  obtain ⟨rfl, e1⟩ := hq
  refine l_m C dL_law_268 ?_
  refine l_arg (j := 1) C rfl (by omega) hL dL_law_269 dL_law_270 dL_law_271 dL_law_272 dL_law_273 ?_
  refine l_callM C (c_X6_limit _ _ _ (he ▸ hI) (iI_rng _)) ok_X6_limit (big 485 (by decide +kernel)) rfl rfl rfl (by decide) (by decide) (Nat.le_of_ble_eq_true rfl) dL_law_274 (fun v ρ hq => ?_)
  obtain ⟨rfl, e2⟩ := hq
  rw [he] at e2 ⊢
  refine l_eq C rfl (tgt := 1129) (by decide) dL_law_277 ?_
  exact K τ ρ (by rw [e1]; exact i_limit hI) (e2.trans e1.symm)
set_option maxRecDepth 100000 in
theorem law_4 (C : LC X G gm b L xs) (hL : L ≤ 3072) {n : Nat} (hn : n + 6 ≤ L) (hI : Inv (vX σ)) (he : vM μ = vX σ) (K : ∀ σ' μ', Inv (vX σ') → vM μ' = vX σ' → LW X G gm b 1129 (n : Int) [] σ' μ') : LW X G gm b 282 (n : Int) [] σ μ := by
  refine l_x C dL_law_282 ?_
  refine l_arg (j := 1) C rfl (by omega) hL dL_law_283 dL_law_284 dL_law_285 dL_law_286 dL_law_287 ?_
  refine l_arg (j := 2) C rfl (by omega) hL dL_law_288 dL_law_289 dL_law_290 dL_law_291 dL_law_292 ?_
  refine l_callX C (c_X5_way _ _ _ hI (iI_rng _) (iI_rng _)) ok_X5_way (big 488 (by decide +kernel)) rfl rfl rfl (by decide) (by decide) (Nat.le_of_ble_eq_true rfl) dL_law_293 (fun v τ hq => ?_)
  obtain ⟨rfl, e1⟩ := hq
  refine l_m C dL_law_296 ?_
  refine l_arg (j := 1) C rfl (by omega) hL dL_law_297 dL_law_298 dL_law_299 dL_law_300 dL_law_301 ?_
  refine l_arg (j := 2) C rfl (by omega) hL dL_law_302 dL_law_303 dL_law_304 dL_law_305 dL_law_306 ?_
  refine l_callM C (c_X6_way _ _ _ (he ▸ hI) (iI_rng _) (iI_rng _)) ok_X6_way (big 491 (by decide +kernel)) rfl rfl rfl (by decide) (by decide) (Nat.le_of_ble_eq_true rfl) dL_law_307 (fun v ρ hq => ?_)
  obtain ⟨rfl, e2⟩ := hq
  rw [he] at e2 ⊢
  refine l_eq C rfl (tgt := 1129) (by decide) dL_law_310 ?_
  exact K τ ρ (by rw [e1]; exact i_way hI) (e2.trans e1.symm)
set_option maxRecDepth 100000 in
theorem law_5 (C : LC X G gm b L xs) (hL : L ≤ 3072) {n : Nat} (hn : n + 6 ≤ L) (hI : Inv (vX σ)) (he : vM μ = vX σ) (K : ∀ σ' μ', Inv (vX σ') → vM μ' = vX σ' → LW X G gm b 1129 (n : Int) [] σ' μ') : LW X G gm b 315 (n : Int) [] σ μ := by
  refine l_x C dL_law_315 ?_
  refine l_callX C (c_X5_list _ _ _ hI) ok_X5_list (big 494 (by decide +kernel)) rfl rfl rfl (by decide) (by decide) (Nat.le_of_ble_eq_true rfl) dL_law_316 (fun v τ hq => ?_)
  obtain ⟨rfl, e1⟩ := hq
  refine l_m C dL_law_319 ?_
  refine l_callM C (c_X6_list _ _ _ (he ▸ hI)) ok_X6_list (big 497 (by decide +kernel)) rfl rfl rfl (by decide) (by decide) (Nat.le_of_ble_eq_true rfl) dL_law_320 (fun v ρ hq => ?_)
  obtain ⟨rfl, e2⟩ := hq
  rw [he] at e2 ⊢
  refine l_eq C rfl (tgt := 1129) (by decide) dL_law_323 ?_
  exact K τ ρ (by rw [e1]; exact i_list hI) (e2.trans e1.symm)
set_option maxRecDepth 100000 in
theorem law_6 (C : LC X G gm b L xs) (hL : L ≤ 3072) {n : Nat} (hn : n + 6 ≤ L) (hI : Inv (vX σ)) (he : vM μ = vX σ) (K : ∀ σ' μ', Inv (vX σ') → vM μ' = vX σ' → LW X G gm b 1129 (n : Int) [] σ' μ') : LW X G gm b 328 (n : Int) [] σ μ := by
  refine l_x C dL_law_328 ?_
  refine l_arg (j := 1) C rfl (by omega) hL dL_law_329 dL_law_330 dL_law_331 dL_law_332 dL_law_333 ?_
  refine l_arg (j := 2) C rfl (by omega) hL dL_law_334 dL_law_335 dL_law_336 dL_law_337 dL_law_338 ?_
  refine l_arg (j := 3) C rfl (by omega) hL dL_law_339 dL_law_340 dL_law_341 dL_law_342 dL_law_343 ?_
  refine l_callX C (c_X5_line _ _ _ hI (iI_rng _) (iI_rng _) (iI_rng _)) ok_X5_line (big 500 (by decide +kernel)) rfl rfl rfl (by decide) (by decide) (Nat.le_of_ble_eq_true rfl) dL_law_344 (fun v τ hq => ?_)
  obtain ⟨rfl, e1⟩ := hq
  refine l_m C dL_law_347 ?_
  refine l_arg (j := 1) C rfl (by omega) hL dL_law_348 dL_law_349 dL_law_350 dL_law_351 dL_law_352 ?_
  refine l_arg (j := 2) C rfl (by omega) hL dL_law_353 dL_law_354 dL_law_355 dL_law_356 dL_law_357 ?_
  refine l_arg (j := 3) C rfl (by omega) hL dL_law_358 dL_law_359 dL_law_360 dL_law_361 dL_law_362 ?_
  refine l_callM C (c_X6_line _ _ _ (he ▸ hI) (iI_rng _) (iI_rng _) (iI_rng _)) ok_X6_line (big 503 (by decide +kernel)) rfl rfl rfl (by decide) (by decide) (Nat.le_of_ble_eq_true rfl) dL_law_363 (fun v ρ hq => ?_)
  obtain ⟨rfl, e2⟩ := hq
  rw [he] at e2 ⊢
  refine l_eq C rfl (tgt := 1129) (by decide) dL_law_366 ?_
  exact K τ ρ (by rw [e1]; exact i_line hI) (e2.trans e1.symm)
set_option maxRecDepth 100000 in
theorem law_7 (C : LC X G gm b L xs) (hL : L ≤ 3072) {n : Nat} (hn : n + 6 ≤ L) (hI : Inv (vX σ)) (he : vM μ = vX σ) (K : ∀ σ' μ', Inv (vX σ') → vM μ' = vX σ' → LW X G gm b 1129 (n : Int) [] σ' μ') : LW X G gm b 371 (n : Int) [] σ μ := by
  refine l_x C dL_law_371 ?_
  refine l_arg (j := 1) C rfl (by omega) hL dL_law_372 dL_law_373 dL_law_374 dL_law_375 dL_law_376 ?_
  refine l_arg (j := 2) C rfl (by omega) hL dL_law_377 dL_law_378 dL_law_379 dL_law_380 dL_law_381 ?_
  refine l_arg (j := 3) C rfl (by omega) hL dL_law_382 dL_law_383 dL_law_384 dL_law_385 dL_law_386 ?_
  refine l_callX C (c_X5_written _ _ _ hI (iI_rng _) (iI_rng _) (iI_rng _)) ok_X5_written (big 506 (by decide +kernel)) rfl rfl rfl (by decide) (by decide) (Nat.le_of_ble_eq_true rfl) dL_law_387 (fun v τ hq => ?_)
  obtain ⟨rfl, e1⟩ := hq
  refine l_m C dL_law_390 ?_
  refine l_arg (j := 1) C rfl (by omega) hL dL_law_391 dL_law_392 dL_law_393 dL_law_394 dL_law_395 ?_
  refine l_arg (j := 2) C rfl (by omega) hL dL_law_396 dL_law_397 dL_law_398 dL_law_399 dL_law_400 ?_
  refine l_arg (j := 3) C rfl (by omega) hL dL_law_401 dL_law_402 dL_law_403 dL_law_404 dL_law_405 ?_
  refine l_callM C (c_X6_written _ _ _ (he ▸ hI) (iI_rng _) (iI_rng _) (iI_rng _)) ok_X6_written (big 509 (by decide +kernel)) rfl rfl rfl (by decide) (by decide) (Nat.le_of_ble_eq_true rfl) dL_law_406 (fun v ρ hq => ?_)
  obtain ⟨rfl, e2⟩ := hq
  rw [he] at e2 ⊢
  refine l_eq C rfl (tgt := 1129) (by decide) dL_law_409 ?_
  exact K τ ρ (by rw [e1]; exact i_written hI) (e2.trans e1.symm)
set_option maxRecDepth 100000 in
theorem law_8 (C : LC X G gm b L xs) (hL : L ≤ 3072) {n : Nat} (hn : n + 6 ≤ L) (hI : Inv (vX σ)) (he : vM μ = vX σ) (K : ∀ σ' μ', Inv (vX σ') → vM μ' = vX σ' → LW X G gm b 1129 (n : Int) [] σ' μ') : LW X G gm b 414 (n : Int) [] σ μ := by
  refine l_x C dL_law_414 ?_
  refine l_arg (j := 1) C rfl (by omega) hL dL_law_415 dL_law_416 dL_law_417 dL_law_418 dL_law_419 ?_
  refine l_arg (j := 2) C rfl (by omega) hL dL_law_420 dL_law_421 dL_law_422 dL_law_423 dL_law_424 ?_
  refine l_arg (j := 3) C rfl (by omega) hL dL_law_425 dL_law_426 dL_law_427 dL_law_428 dL_law_429 ?_
  refine l_arg (j := 4) C rfl (by omega) hL dL_law_430 dL_law_431 dL_law_432 dL_law_433 dL_law_434 ?_
  refine l_callX C (c_X5_mend _ _ _ hI (iI_rng _) (iI_rng _) (iI_rng _) (iI_rng _)) ok_X5_mend (big 512 (by decide +kernel)) rfl rfl rfl (by decide) (by decide) (Nat.le_of_ble_eq_true rfl) dL_law_435 (fun v τ hq => ?_)
  obtain ⟨rfl, e1⟩ := hq
  refine l_m C dL_law_438 ?_
  refine l_arg (j := 1) C rfl (by omega) hL dL_law_439 dL_law_440 dL_law_441 dL_law_442 dL_law_443 ?_
  refine l_arg (j := 2) C rfl (by omega) hL dL_law_444 dL_law_445 dL_law_446 dL_law_447 dL_law_448 ?_
  refine l_arg (j := 3) C rfl (by omega) hL dL_law_449 dL_law_450 dL_law_451 dL_law_452 dL_law_453 ?_
  refine l_arg (j := 4) C rfl (by omega) hL dL_law_454 dL_law_455 dL_law_456 dL_law_457 dL_law_458 ?_
  refine l_callM C (c_X6_mend _ _ _ (he ▸ hI) (iI_rng _) (iI_rng _) (iI_rng _) (iI_rng _)) ok_X6_mend (big 515 (by decide +kernel)) rfl rfl rfl (by decide) (by decide) (Nat.le_of_ble_eq_true rfl) dL_law_459 (fun v ρ hq => ?_)
  obtain ⟨rfl, e2⟩ := hq
  rw [he] at e2 ⊢
  refine l_eq C rfl (tgt := 1129) (by decide) dL_law_462 ?_
  exact K τ ρ (by rw [e1]; exact i_mend hI) (e2.trans e1.symm)
set_option maxRecDepth 100000 in
theorem law_9 (C : LC X G gm b L xs) (hL : L ≤ 3072) {n : Nat} (hn : n + 6 ≤ L) (hI : Inv (vX σ)) (he : vM μ = vX σ) (K : ∀ σ' μ', Inv (vX σ') → vM μ' = vX σ' → LW X G gm b 1129 (n : Int) [] σ' μ') : LW X G gm b 467 (n : Int) [] σ μ := by
  refine l_x C dL_law_467 ?_
  refine l_arg (j := 1) C rfl (by omega) hL dL_law_468 dL_law_469 dL_law_470 dL_law_471 dL_law_472 ?_
  refine l_arg (j := 2) C rfl (by omega) hL dL_law_473 dL_law_474 dL_law_475 dL_law_476 dL_law_477 ?_
  refine l_callX C (c_X5_round _ _ _ hI (iI_rng _) (iI_rng _)) ok_X5_round (big 518 (by decide +kernel)) rfl rfl rfl (by decide) (by decide) (Nat.le_of_ble_eq_true rfl) dL_law_478 (fun v τ hq => ?_)
  obtain ⟨rfl, e1⟩ := hq
  refine l_m C dL_law_481 ?_
  refine l_arg (j := 1) C rfl (by omega) hL dL_law_482 dL_law_483 dL_law_484 dL_law_485 dL_law_486 ?_
  refine l_arg (j := 2) C rfl (by omega) hL dL_law_487 dL_law_488 dL_law_489 dL_law_490 dL_law_491 ?_
  refine l_callM C (c_X6_round_ _ _ _ (he ▸ hI) (iI_rng _) (iI_rng _)) ok_X6_round_ (big 521 (by decide +kernel)) rfl rfl rfl (by decide) (by decide) (Nat.le_of_ble_eq_true rfl) dL_law_492 (fun v ρ hq => ?_)
  obtain ⟨rfl, e2⟩ := hq
  rw [he] at e2 ⊢
  refine l_eq C rfl (tgt := 1129) (by decide) dL_law_495 ?_
  exact K τ ρ (by rw [e1]; exact i_round hI) (e2.trans e1.symm)
set_option maxRecDepth 100000 in
theorem law_10 (C : LC X G gm b L xs) (hL : L ≤ 3072) {n : Nat} (hn : n + 6 ≤ L) (hI : Inv (vX σ)) (he : vM μ = vX σ) (K : ∀ σ' μ', Inv (vX σ') → vM μ' = vX σ' → LW X G gm b 1129 (n : Int) [] σ' μ') : LW X G gm b 500 (n : Int) [] σ μ := by
  refine l_x C dL_law_500 ?_
  refine l_arg (j := 1) C rfl (by omega) hL dL_law_501 dL_law_502 dL_law_503 dL_law_504 dL_law_505 ?_
  refine l_arg (j := 2) C rfl (by omega) hL dL_law_506 dL_law_507 dL_law_508 dL_law_509 dL_law_510 ?_
  refine l_arg (j := 3) C rfl (by omega) hL dL_law_511 dL_law_512 dL_law_513 dL_law_514 dL_law_515 ?_
  refine l_arg (j := 4) C rfl (by omega) hL dL_law_516 dL_law_517 dL_law_518 dL_law_519 dL_law_520 ?_
  refine l_arg (j := 5) C rfl (by omega) hL dL_law_521 dL_law_522 dL_law_523 dL_law_524 dL_law_525 ?_
  refine l_callX C (c_X5_slip _ _ _ hI (iI_rng _) (iI_rng _) (iI_rng _) (iI_rng _) (iI_rng _)) ok_X5_slip (big 524 (by decide +kernel)) rfl rfl rfl (by decide) (by decide) (Nat.le_of_ble_eq_true rfl) dL_law_526 (fun v τ hq => ?_)
  obtain ⟨rfl, e1⟩ := hq
  refine l_m C dL_law_529 ?_
  refine l_arg (j := 1) C rfl (by omega) hL dL_law_530 dL_law_531 dL_law_532 dL_law_533 dL_law_534 ?_
  refine l_arg (j := 2) C rfl (by omega) hL dL_law_535 dL_law_536 dL_law_537 dL_law_538 dL_law_539 ?_
  refine l_arg (j := 3) C rfl (by omega) hL dL_law_540 dL_law_541 dL_law_542 dL_law_543 dL_law_544 ?_
  refine l_arg (j := 4) C rfl (by omega) hL dL_law_545 dL_law_546 dL_law_547 dL_law_548 dL_law_549 ?_
  refine l_arg (j := 5) C rfl (by omega) hL dL_law_550 dL_law_551 dL_law_552 dL_law_553 dL_law_554 ?_
  refine l_callM C (c_X6_slip _ _ _ (he ▸ hI) (iI_rng _) (iI_rng _) (iI_rng _) (iI_rng _) (iI_rng _)) ok_X6_slip (big 527 (by decide +kernel)) rfl rfl rfl (by decide) (by decide) (Nat.le_of_ble_eq_true rfl) dL_law_555 (fun v ρ hq => ?_)
  obtain ⟨rfl, e2⟩ := hq
  rw [he] at e2 ⊢
  refine l_eq C rfl (tgt := 1129) (by decide) dL_law_558 ?_
  exact K τ ρ (by rw [e1]; exact i_slip hI) (e2.trans e1.symm)
set_option maxRecDepth 100000 in
theorem law_11 (C : LC X G gm b L xs) (hL : L ≤ 3072) {n : Nat} (hn : n + 6 ≤ L) (hI : Inv (vX σ)) (he : vM μ = vX σ) (K : ∀ σ' μ', Inv (vX σ') → vM μ' = vX σ' → LW X G gm b 1129 (n : Int) [] σ' μ') : LW X G gm b 563 (n : Int) [] σ μ := by
  refine l_x C dL_law_563 ?_
  refine l_arg (j := 1) C rfl (by omega) hL dL_law_564 dL_law_565 dL_law_566 dL_law_567 dL_law_568 ?_
  refine l_arg (j := 2) C rfl (by omega) hL dL_law_569 dL_law_570 dL_law_571 dL_law_572 dL_law_573 ?_
  refine l_arg (j := 3) C rfl (by omega) hL dL_law_574 dL_law_575 dL_law_576 dL_law_577 dL_law_578 ?_
  refine l_arg (j := 4) C rfl (by omega) hL dL_law_579 dL_law_580 dL_law_581 dL_law_582 dL_law_583 ?_
  refine l_arg (j := 5) C rfl (by omega) hL dL_law_584 dL_law_585 dL_law_586 dL_law_587 dL_law_588 ?_
  refine l_callX C (c_X5_cost _ _ _ hI (iI_rng _) (iI_rng _) (iI_rng _) (iI_rng _) (iI_rng _)) ok_X5_cost (big 530 (by decide +kernel)) rfl rfl rfl (by decide) (by decide) (Nat.le_of_ble_eq_true rfl) dL_law_589 (fun v τ hq => ?_)
  obtain ⟨rfl, e1⟩ := hq
  refine l_m C dL_law_592 ?_
  refine l_arg (j := 1) C rfl (by omega) hL dL_law_593 dL_law_594 dL_law_595 dL_law_596 dL_law_597 ?_
  refine l_arg (j := 2) C rfl (by omega) hL dL_law_598 dL_law_599 dL_law_600 dL_law_601 dL_law_602 ?_
  refine l_arg (j := 3) C rfl (by omega) hL dL_law_603 dL_law_604 dL_law_605 dL_law_606 dL_law_607 ?_
  refine l_arg (j := 4) C rfl (by omega) hL dL_law_608 dL_law_609 dL_law_610 dL_law_611 dL_law_612 ?_
  refine l_arg (j := 5) C rfl (by omega) hL dL_law_613 dL_law_614 dL_law_615 dL_law_616 dL_law_617 ?_
  refine l_callM C (c_X6_cost _ _ _ (he ▸ hI) (iI_rng _) (iI_rng _) (iI_rng _) (iI_rng _) (iI_rng _)) ok_X6_cost (big 533 (by decide +kernel)) rfl rfl rfl (by decide) (by decide) (Nat.le_of_ble_eq_true rfl) dL_law_618 (fun v ρ hq => ?_)
  obtain ⟨rfl, e2⟩ := hq
  rw [he] at e2 ⊢
  refine l_eq C rfl (tgt := 1129) (by decide) dL_law_621 ?_
  exact K τ ρ (by rw [e1]; exact i_cost hI) (e2.trans e1.symm)
set_option maxRecDepth 100000 in
theorem law_12 (C : LC X G gm b L xs) (hL : L ≤ 3072) {n : Nat} (hn : n + 6 ≤ L) (hI : Inv (vX σ)) (he : vM μ = vX σ) (K : ∀ σ' μ', Inv (vX σ') → vM μ' = vX σ' → LW X G gm b 1129 (n : Int) [] σ' μ') : LW X G gm b 626 (n : Int) [] σ μ := by
  refine l_x C dL_law_626 ?_
  refine l_arg (j := 1) C rfl (by omega) hL dL_law_627 dL_law_628 dL_law_629 dL_law_630 dL_law_631 ?_
  refine l_arg (j := 2) C rfl (by omega) hL dL_law_632 dL_law_633 dL_law_634 dL_law_635 dL_law_636 ?_
  refine l_arg (j := 3) C rfl (by omega) hL dL_law_637 dL_law_638 dL_law_639 dL_law_640 dL_law_641 ?_
  refine l_callX C (c_X5_best _ _ _ hI (iI_rng _) (iI_rng _) (iI_rng _)) ok_X5_best (big 536 (by decide +kernel)) rfl rfl rfl (by decide) (by decide) (Nat.le_of_ble_eq_true rfl) dL_law_642 (fun v τ hq => ?_)
  obtain ⟨rfl, e1⟩ := hq
  refine l_m C dL_law_645 ?_
  refine l_arg (j := 1) C rfl (by omega) hL dL_law_646 dL_law_647 dL_law_648 dL_law_649 dL_law_650 ?_
  refine l_arg (j := 2) C rfl (by omega) hL dL_law_651 dL_law_652 dL_law_653 dL_law_654 dL_law_655 ?_
  refine l_arg (j := 3) C rfl (by omega) hL dL_law_656 dL_law_657 dL_law_658 dL_law_659 dL_law_660 ?_
  refine l_callM C (c_X6_best _ _ _ (he ▸ hI) (iI_rng _) (iI_rng _) (iI_rng _)) ok_X6_best (big 539 (by decide +kernel)) rfl rfl rfl (by decide) (by decide) (Nat.le_of_ble_eq_true rfl) dL_law_661 (fun v ρ hq => ?_)
  obtain ⟨rfl, e2⟩ := hq
  rw [he] at e2 ⊢
  refine l_eq C rfl (tgt := 1129) (by decide) dL_law_664 ?_
  exact K τ ρ (by rw [e1]; exact i_best hI) (e2.trans e1.symm)
set_option maxRecDepth 100000 in
theorem law_13 (C : LC X G gm b L xs) (hL : L ≤ 3072) {n : Nat} (hn : n + 6 ≤ L) (hI : Inv (vX σ)) (he : vM μ = vX σ) (K : ∀ σ' μ', Inv (vX σ') → vM μ' = vX σ' → LW X G gm b 1129 (n : Int) [] σ' μ') : LW X G gm b 669 (n : Int) [] σ μ := by
  refine l_x C dL_law_669 ?_
  refine l_arg (j := 1) C rfl (by omega) hL dL_law_670 dL_law_671 dL_law_672 dL_law_673 dL_law_674 ?_
  refine l_arg (j := 2) C rfl (by omega) hL dL_law_675 dL_law_676 dL_law_677 dL_law_678 dL_law_679 ?_
  refine l_arg (j := 3) C rfl (by omega) hL dL_law_680 dL_law_681 dL_law_682 dL_law_683 dL_law_684 ?_
  refine l_arg (j := 4) C rfl (by omega) hL dL_law_685 dL_law_686 dL_law_687 dL_law_688 dL_law_689 ?_
  refine l_callX C (c_X5_matched _ _ _ hI (iI_rng _) (iI_rng _) (iI_rng _) (iI_rng _)) ok_X5_matched (big 542 (by decide +kernel)) rfl rfl rfl (by decide) (by decide) (Nat.le_of_ble_eq_true rfl) dL_law_690 (fun v τ hq => ?_)
  obtain ⟨rfl, e1⟩ := hq
  refine l_m C dL_law_693 ?_
  refine l_arg (j := 1) C rfl (by omega) hL dL_law_694 dL_law_695 dL_law_696 dL_law_697 dL_law_698 ?_
  refine l_arg (j := 2) C rfl (by omega) hL dL_law_699 dL_law_700 dL_law_701 dL_law_702 dL_law_703 ?_
  refine l_arg (j := 3) C rfl (by omega) hL dL_law_704 dL_law_705 dL_law_706 dL_law_707 dL_law_708 ?_
  refine l_arg (j := 4) C rfl (by omega) hL dL_law_709 dL_law_710 dL_law_711 dL_law_712 dL_law_713 ?_
  refine l_callM C (c_X6_matched _ _ _ (he ▸ hI) (iI_rng _) (iI_rng _) (iI_rng _) (iI_rng _)) ok_X6_matched (big 545 (by decide +kernel)) rfl rfl rfl (by decide) (by decide) (Nat.le_of_ble_eq_true rfl) dL_law_714 (fun v ρ hq => ?_)
  obtain ⟨rfl, e2⟩ := hq
  rw [he] at e2 ⊢
  refine l_eq C rfl (tgt := 1129) (by decide) dL_law_717 ?_
  exact K τ ρ (by rw [e1]; exact i_matched hI) (e2.trans e1.symm)
set_option maxRecDepth 100000 in
theorem law_14 (C : LC X G gm b L xs) (hL : L ≤ 3072) {n : Nat} (hn : n + 6 ≤ L) (hI : Inv (vX σ)) (he : vM μ = vX σ) (K : ∀ σ' μ', Inv (vX σ') → vM μ' = vX σ' → LW X G gm b 1129 (n : Int) [] σ' μ') : LW X G gm b 722 (n : Int) [] σ μ := by
  refine l_x C dL_law_722 ?_
  refine l_arg (j := 1) C rfl (by omega) hL dL_law_723 dL_law_724 dL_law_725 dL_law_726 dL_law_727 ?_
  refine l_arg (j := 2) C rfl (by omega) hL dL_law_728 dL_law_729 dL_law_730 dL_law_731 dL_law_732 ?_
  refine l_arg (j := 3) C rfl (by omega) hL dL_law_733 dL_law_734 dL_law_735 dL_law_736 dL_law_737 ?_
  refine l_arg (j := 4) C rfl (by omega) hL dL_law_738 dL_law_739 dL_law_740 dL_law_741 dL_law_742 ?_
  refine l_callX C (c_X5_dated _ _ _ hI (iI_rng _) (iI_rng _) (iI_rng _) (iI_rng _)) ok_X5_dated (big 548 (by decide +kernel)) rfl rfl rfl (by decide) (by decide) (Nat.le_of_ble_eq_true rfl) dL_law_743 (fun v τ hq => ?_)
  obtain ⟨rfl, e1⟩ := hq
  refine l_m C dL_law_746 ?_
  refine l_arg (j := 1) C rfl (by omega) hL dL_law_747 dL_law_748 dL_law_749 dL_law_750 dL_law_751 ?_
  refine l_arg (j := 2) C rfl (by omega) hL dL_law_752 dL_law_753 dL_law_754 dL_law_755 dL_law_756 ?_
  refine l_arg (j := 3) C rfl (by omega) hL dL_law_757 dL_law_758 dL_law_759 dL_law_760 dL_law_761 ?_
  refine l_arg (j := 4) C rfl (by omega) hL dL_law_762 dL_law_763 dL_law_764 dL_law_765 dL_law_766 ?_
  refine l_callM C (c_X6_dated _ _ _ (he ▸ hI) (iI_rng _) (iI_rng _) (iI_rng _) (iI_rng _)) ok_X6_dated (big 551 (by decide +kernel)) rfl rfl rfl (by decide) (by decide) (Nat.le_of_ble_eq_true rfl) dL_law_767 (fun v ρ hq => ?_)
  obtain ⟨rfl, e2⟩ := hq
  rw [he] at e2 ⊢
  refine l_eq C rfl (tgt := 1129) (by decide) dL_law_770 ?_
  exact K τ ρ (by rw [e1]; exact i_dated hI) (e2.trans e1.symm)
set_option maxRecDepth 100000 in
theorem law_15 (C : LC X G gm b L xs) (hL : L ≤ 3072) {n : Nat} (hn : n + 6 ≤ L) (hI : Inv (vX σ)) (he : vM μ = vX σ) (K : ∀ σ' μ', Inv (vX σ') → vM μ' = vX σ' → LW X G gm b 1129 (n : Int) [] σ' μ') : LW X G gm b 775 (n : Int) [] σ μ := by
  refine l_x C dL_law_775 ?_
  refine l_arg (j := 1) C rfl (by omega) hL dL_law_776 dL_law_777 dL_law_778 dL_law_779 dL_law_780 ?_
  refine l_arg (j := 2) C rfl (by omega) hL dL_law_781 dL_law_782 dL_law_783 dL_law_784 dL_law_785 ?_
  refine l_arg (j := 3) C rfl (by omega) hL dL_law_786 dL_law_787 dL_law_788 dL_law_789 dL_law_790 ?_
  refine l_arg (j := 4) C rfl (by omega) hL dL_law_791 dL_law_792 dL_law_793 dL_law_794 dL_law_795 ?_
  refine l_arg (j := 5) C rfl (by omega) hL dL_law_796 dL_law_797 dL_law_798 dL_law_799 dL_law_800 ?_
  refine l_callX C (c_X5_doubt _ _ _ hI (iI_rng _) (iI_rng _) (iI_rng _) (iI_rng _) (iI_rng _)) ok_X5_doubt (big 554 (by decide +kernel)) rfl rfl rfl (by decide) (by decide) (Nat.le_of_ble_eq_true rfl) dL_law_801 (fun v τ hq => ?_)
  obtain ⟨rfl, e1⟩ := hq
  refine l_m C dL_law_804 ?_
  refine l_arg (j := 1) C rfl (by omega) hL dL_law_805 dL_law_806 dL_law_807 dL_law_808 dL_law_809 ?_
  refine l_arg (j := 2) C rfl (by omega) hL dL_law_810 dL_law_811 dL_law_812 dL_law_813 dL_law_814 ?_
  refine l_arg (j := 3) C rfl (by omega) hL dL_law_815 dL_law_816 dL_law_817 dL_law_818 dL_law_819 ?_
  refine l_arg (j := 4) C rfl (by omega) hL dL_law_820 dL_law_821 dL_law_822 dL_law_823 dL_law_824 ?_
  refine l_arg (j := 5) C rfl (by omega) hL dL_law_825 dL_law_826 dL_law_827 dL_law_828 dL_law_829 ?_
  refine l_callM C (c_X6_doubt _ _ _ (he ▸ hI) (iI_rng _) (iI_rng _) (iI_rng _) (iI_rng _) (iI_rng _)) ok_X6_doubt (big 557 (by decide +kernel)) rfl rfl rfl (by decide) (by decide) (Nat.le_of_ble_eq_true rfl) dL_law_830 (fun v ρ hq => ?_)
  obtain ⟨rfl, e2⟩ := hq
  rw [he] at e2 ⊢
  refine l_eq C rfl (tgt := 1129) (by decide) dL_law_833 ?_
  exact K τ ρ (by rw [e1]; exact i_doubt hI) (e2.trans e1.symm)
set_option maxRecDepth 100000 in
theorem law_16 (C : LC X G gm b L xs) (hL : L ≤ 3072) {n : Nat} (hn : n + 6 ≤ L) (hI : Inv (vX σ)) (he : vM μ = vX σ) (K : ∀ σ' μ', Inv (vX σ') → vM μ' = vX σ' → LW X G gm b 1129 (n : Int) [] σ' μ') : LW X G gm b 838 (n : Int) [] σ μ := by
  refine l_x C dL_law_838 ?_
  refine l_arg (j := 1) C rfl (by omega) hL dL_law_839 dL_law_840 dL_law_841 dL_law_842 dL_law_843 ?_
  refine l_arg (j := 2) C rfl (by omega) hL dL_law_844 dL_law_845 dL_law_846 dL_law_847 dL_law_848 ?_
  refine l_callX C (c_X5_shift _ _ _ hI (iI_rng _) (iI_rng _)) ok_X5_shift (big 560 (by decide +kernel)) rfl rfl rfl (by decide) (by decide) (Nat.le_of_ble_eq_true rfl) dL_law_849 (fun v τ hq => ?_)
  obtain ⟨rfl, e1⟩ := hq
  refine l_m C dL_law_852 ?_
  refine l_arg (j := 1) C rfl (by omega) hL dL_law_853 dL_law_854 dL_law_855 dL_law_856 dL_law_857 ?_
  refine l_arg (j := 2) C rfl (by omega) hL dL_law_858 dL_law_859 dL_law_860 dL_law_861 dL_law_862 ?_
  refine l_callM C (c_X6_shift _ _ _ (he ▸ hI) (iI_rng _) (iI_rng _)) ok_X6_shift (big 563 (by decide +kernel)) rfl rfl rfl (by decide) (by decide) (Nat.le_of_ble_eq_true rfl) dL_law_863 (fun v ρ hq => ?_)
  obtain ⟨rfl, e2⟩ := hq
  rw [he] at e2 ⊢
  refine l_eq C rfl (tgt := 1129) (by decide) dL_law_866 ?_
  exact K τ ρ (by rw [e1]; exact i_shift hI) (e2.trans e1.symm)
set_option maxRecDepth 100000 in
theorem law_17 (C : LC X G gm b L xs) (hL : L ≤ 3072) {n : Nat} (hn : n + 6 ≤ L) (hI : Inv (vX σ)) (he : vM μ = vX σ) (K : ∀ σ' μ', Inv (vX σ') → vM μ' = vX σ' → LW X G gm b 1129 (n : Int) [] σ' μ') : LW X G gm b 871 (n : Int) [] σ μ := by
  refine l_x C dL_law_871 ?_
  refine l_arg (j := 1) C rfl (by omega) hL dL_law_872 dL_law_873 dL_law_874 dL_law_875 dL_law_876 ?_
  refine l_arg (j := 2) C rfl (by omega) hL dL_law_877 dL_law_878 dL_law_879 dL_law_880 dL_law_881 ?_
  refine l_arg (j := 3) C rfl (by omega) hL dL_law_882 dL_law_883 dL_law_884 dL_law_885 dL_law_886 ?_
  refine l_arg (j := 4) C rfl (by omega) hL dL_law_887 dL_law_888 dL_law_889 dL_law_890 dL_law_891 ?_
  refine l_callX C (c_X5_fault _ _ _ hI (iI_rng _) (iI_rng _) (iI_rng _) (iI_rng _)) ok_X5_fault (big 566 (by decide +kernel)) rfl rfl rfl (by decide) (by decide) (Nat.le_of_ble_eq_true rfl) dL_law_892 (fun v τ hq => ?_)
  obtain ⟨rfl, e1⟩ := hq
  refine l_m C dL_law_895 ?_
  refine l_arg (j := 1) C rfl (by omega) hL dL_law_896 dL_law_897 dL_law_898 dL_law_899 dL_law_900 ?_
  refine l_arg (j := 2) C rfl (by omega) hL dL_law_901 dL_law_902 dL_law_903 dL_law_904 dL_law_905 ?_
  refine l_arg (j := 3) C rfl (by omega) hL dL_law_906 dL_law_907 dL_law_908 dL_law_909 dL_law_910 ?_
  refine l_arg (j := 4) C rfl (by omega) hL dL_law_911 dL_law_912 dL_law_913 dL_law_914 dL_law_915 ?_
  refine l_callM C (c_X6_fault _ _ _ (he ▸ hI) (iI_rng _) (iI_rng _) (iI_rng _) (iI_rng _)) ok_X6_fault (big 569 (by decide +kernel)) rfl rfl rfl (by decide) (by decide) (Nat.le_of_ble_eq_true rfl) dL_law_916 (fun v ρ hq => ?_)
  obtain ⟨rfl, e2⟩ := hq
  rw [he] at e2 ⊢
  refine l_eq C rfl (tgt := 1129) (by decide) dL_law_919 ?_
  exact K τ ρ (by rw [e1]; exact i_fault hI) (e2.trans e1.symm)
set_option maxRecDepth 100000 in
theorem law_18 (C : LC X G gm b L xs) (hL : L ≤ 3072) {n : Nat} (hn : n + 6 ≤ L) (hI : Inv (vX σ)) (he : vM μ = vX σ) (K : ∀ σ' μ', Inv (vX σ') → vM μ' = vX σ' → LW X G gm b 1129 (n : Int) [] σ' μ') : LW X G gm b 924 (n : Int) [] σ μ := by
  refine l_x C dL_law_924 ?_
  refine l_arg (j := 1) C rfl (by omega) hL dL_law_925 dL_law_926 dL_law_927 dL_law_928 dL_law_929 ?_
  refine l_arg (j := 2) C rfl (by omega) hL dL_law_930 dL_law_931 dL_law_932 dL_law_933 dL_law_934 ?_
  refine l_arg (j := 3) C rfl (by omega) hL dL_law_935 dL_law_936 dL_law_937 dL_law_938 dL_law_939 ?_
  refine l_arg (j := 4) C rfl (by omega) hL dL_law_940 dL_law_941 dL_law_942 dL_law_943 dL_law_944 ?_
  refine l_callX C (c_X5_share _ _ _ hI (iI_rng _) (iI_rng _) (iI_rng _) (iI_rng _)) ok_X5_share (big 572 (by decide +kernel)) rfl rfl rfl (by decide) (by decide) (Nat.le_of_ble_eq_true rfl) dL_law_945 (fun v τ hq => ?_)
  obtain ⟨rfl, e1⟩ := hq
  refine l_m C dL_law_948 ?_
  refine l_arg (j := 1) C rfl (by omega) hL dL_law_949 dL_law_950 dL_law_951 dL_law_952 dL_law_953 ?_
  refine l_arg (j := 2) C rfl (by omega) hL dL_law_954 dL_law_955 dL_law_956 dL_law_957 dL_law_958 ?_
  refine l_arg (j := 3) C rfl (by omega) hL dL_law_959 dL_law_960 dL_law_961 dL_law_962 dL_law_963 ?_
  refine l_arg (j := 4) C rfl (by omega) hL dL_law_964 dL_law_965 dL_law_966 dL_law_967 dL_law_968 ?_
  refine l_callM C (c_X6_share _ _ _ (he ▸ hI) (iI_rng _) (iI_rng _) (iI_rng _) (iI_rng _)) ok_X6_share (big 575 (by decide +kernel)) rfl rfl rfl (by decide) (by decide) (Nat.le_of_ble_eq_true rfl) dL_law_969 (fun v ρ hq => ?_)
  obtain ⟨rfl, e2⟩ := hq
  rw [he] at e2 ⊢
  refine l_eq C rfl (tgt := 1129) (by decide) dL_law_972 ?_
  exact K τ ρ (by rw [e1]; exact i_share hI) (e2.trans e1.symm)
set_option maxRecDepth 100000 in
theorem law_19 (C : LC X G gm b L xs) (hL : L ≤ 3072) {n : Nat} (hn : n + 6 ≤ L) (hI : Inv (vX σ)) (he : vM μ = vX σ) (K : ∀ σ' μ', Inv (vX σ') → vM μ' = vX σ' → LW X G gm b 1129 (n : Int) [] σ' μ') : LW X G gm b 977 (n : Int) [] σ μ := by
  refine l_x C dL_law_977 ?_
  refine l_arg (j := 1) C rfl (by omega) hL dL_law_978 dL_law_979 dL_law_980 dL_law_981 dL_law_982 ?_
  refine l_arg (j := 2) C rfl (by omega) hL dL_law_983 dL_law_984 dL_law_985 dL_law_986 dL_law_987 ?_
  refine l_arg (j := 3) C rfl (by omega) hL dL_law_988 dL_law_989 dL_law_990 dL_law_991 dL_law_992 ?_
  refine l_arg (j := 4) C rfl (by omega) hL dL_law_993 dL_law_994 dL_law_995 dL_law_996 dL_law_997 ?_
  refine l_callX C (c_X5_apart _ _ _ hI (iI_rng _) (iI_rng _) (iI_rng _) (iI_rng _)) ok_X5_apart (big 578 (by decide +kernel)) rfl rfl rfl (by decide) (by decide) (Nat.le_of_ble_eq_true rfl) dL_law_998 (fun v τ hq => ?_)
  obtain ⟨rfl, e1⟩ := hq
  refine l_m C dL_law_1001 ?_
  refine l_arg (j := 1) C rfl (by omega) hL dL_law_1002 dL_law_1003 dL_law_1004 dL_law_1005 dL_law_1006 ?_
  refine l_arg (j := 2) C rfl (by omega) hL dL_law_1007 dL_law_1008 dL_law_1009 dL_law_1010 dL_law_1011 ?_
  refine l_arg (j := 3) C rfl (by omega) hL dL_law_1012 dL_law_1013 dL_law_1014 dL_law_1015 dL_law_1016 ?_
  refine l_arg (j := 4) C rfl (by omega) hL dL_law_1017 dL_law_1018 dL_law_1019 dL_law_1020 dL_law_1021 ?_
  refine l_callM C (c_X6_apart _ _ _ (he ▸ hI) (iI_rng _) (iI_rng _) (iI_rng _) (iI_rng _)) ok_X6_apart (big 581 (by decide +kernel)) rfl rfl rfl (by decide) (by decide) (Nat.le_of_ble_eq_true rfl) dL_law_1022 (fun v ρ hq => ?_)
  obtain ⟨rfl, e2⟩ := hq
  rw [he] at e2 ⊢
  refine l_eq C rfl (tgt := 1129) (by decide) dL_law_1025 ?_
  exact K τ ρ (by rw [e1]; exact i_apart hI) (e2.trans e1.symm)
set_option maxRecDepth 100000 in
theorem law_20 (C : LC X G gm b L xs) (hL : L ≤ 3072) {n : Nat} (hn : n + 6 ≤ L) (hI : Inv (vX σ)) (he : vM μ = vX σ) (K : ∀ σ' μ', Inv (vX σ') → vM μ' = vX σ' → LW X G gm b 1129 (n : Int) [] σ' μ') : LW X G gm b 1030 (n : Int) [] σ μ := by
  refine l_x C dL_law_1030 ?_
  refine l_arg (j := 1) C rfl (by omega) hL dL_law_1031 dL_law_1032 dL_law_1033 dL_law_1034 dL_law_1035 ?_
  refine l_arg (j := 2) C rfl (by omega) hL dL_law_1036 dL_law_1037 dL_law_1038 dL_law_1039 dL_law_1040 ?_
  refine l_callX C (c_X5_tree _ _ _ hI (iI_rng _) (iI_rng _)) ok_X5_tree (big 584 (by decide +kernel)) rfl rfl rfl (by decide) (by decide) (Nat.le_of_ble_eq_true rfl) dL_law_1041 (fun v τ hq => ?_)
  obtain ⟨rfl, e1⟩ := hq
  refine l_m C dL_law_1044 ?_
  refine l_arg (j := 1) C rfl (by omega) hL dL_law_1045 dL_law_1046 dL_law_1047 dL_law_1048 dL_law_1049 ?_
  refine l_arg (j := 2) C rfl (by omega) hL dL_law_1050 dL_law_1051 dL_law_1052 dL_law_1053 dL_law_1054 ?_
  refine l_callM C (c_X6_tree _ _ _ (he ▸ hI) (iI_rng _) (iI_rng _)) ok_X6_tree (big 587 (by decide +kernel)) rfl rfl rfl (by decide) (by decide) (Nat.le_of_ble_eq_true rfl) dL_law_1055 (fun v ρ hq => ?_)
  obtain ⟨rfl, e2⟩ := hq
  rw [he] at e2 ⊢
  refine l_eq C rfl (tgt := 1129) (by decide) dL_law_1058 ?_
  exact K τ ρ (by rw [e1]; exact i_tree hI) (e2.trans e1.symm)
set_option maxRecDepth 100000 in
theorem law_21 (C : LC X G gm b L xs) (hL : L ≤ 3072) {n : Nat} (hn : n + 6 ≤ L) (hI : Inv (vX σ)) (he : vM μ = vX σ) (K : ∀ σ' μ', Inv (vX σ') → vM μ' = vX σ' → LW X G gm b 1129 (n : Int) [] σ' μ') : LW X G gm b 1063 (n : Int) [] σ μ := by
  refine l_x C dL_law_1063 ?_
  refine l_arg (j := 1) C rfl (by omega) hL dL_law_1064 dL_law_1065 dL_law_1066 dL_law_1067 dL_law_1068 ?_
  refine l_arg (j := 2) C rfl (by omega) hL dL_law_1069 dL_law_1070 dL_law_1071 dL_law_1072 dL_law_1073 ?_
  refine l_arg (j := 3) C rfl (by omega) hL dL_law_1074 dL_law_1075 dL_law_1076 dL_law_1077 dL_law_1078 ?_
  refine l_callX C (c_X5_row _ _ _ hI (iI_rng _) (iI_rng _) (iI_rng _)) ok_X5_row (big 590 (by decide +kernel)) rfl rfl rfl (by decide) (by decide) (Nat.le_of_ble_eq_true rfl) dL_law_1079 (fun v τ hq => ?_)
  obtain ⟨rfl, e1⟩ := hq
  refine l_m C dL_law_1082 ?_
  refine l_arg (j := 1) C rfl (by omega) hL dL_law_1083 dL_law_1084 dL_law_1085 dL_law_1086 dL_law_1087 ?_
  refine l_arg (j := 2) C rfl (by omega) hL dL_law_1088 dL_law_1089 dL_law_1090 dL_law_1091 dL_law_1092 ?_
  refine l_arg (j := 3) C rfl (by omega) hL dL_law_1093 dL_law_1094 dL_law_1095 dL_law_1096 dL_law_1097 ?_
  refine l_callM C (c_X6_row _ _ _ (he ▸ hI) (iI_rng _) (iI_rng _) (iI_rng _)) ok_X6_row (big 593 (by decide +kernel)) rfl rfl rfl (by decide) (by decide) (Nat.le_of_ble_eq_true rfl) dL_law_1098 (fun v ρ hq => ?_)
  obtain ⟨rfl, e2⟩ := hq
  rw [he] at e2 ⊢
  refine l_eq C rfl (tgt := 1129) (by decide) dL_law_1101 ?_
  exact K τ ρ (by rw [e1]; exact i_row hI) (e2.trans e1.symm)
set_option maxRecDepth 100000 in
theorem law_22 (C : LC X G gm b L xs) (hL : L ≤ 3072) {n : Nat} (hn : n + 6 ≤ L) (hI : Inv (vX σ)) (he : vM μ = vX σ) (K : ∀ σ' μ', Inv (vX σ') → vM μ' = vX σ' → LW X G gm b 1129 (n : Int) [] σ' μ') : LW X G gm b 1106 (n : Int) [] σ μ := by
  refine l_x C dL_law_1106 ?_
  refine l_arg (j := 1) C rfl (by omega) hL dL_law_1107 dL_law_1108 dL_law_1109 dL_law_1110 dL_law_1111 ?_
  refine l_callX C (c_X5_count _ _ _ hI (iI_rng _)) ok_X5_count (big 596 (by decide +kernel)) rfl rfl rfl (by decide) (by decide) (Nat.le_of_ble_eq_true rfl) dL_law_1112 (fun v τ hq => ?_)
  obtain ⟨rfl, e1⟩ := hq
  refine l_m C dL_law_1115 ?_
  refine l_arg (j := 1) C rfl (by omega) hL dL_law_1116 dL_law_1117 dL_law_1118 dL_law_1119 dL_law_1120 ?_
  refine l_callM C (c_X6_count _ _ _ (he ▸ hI) (iI_rng _)) ok_X6_count (big 599 (by decide +kernel)) rfl rfl rfl (by decide) (by decide) (Nat.le_of_ble_eq_true rfl) dL_law_1121 (fun v ρ hq => ?_)
  obtain ⟨rfl, e2⟩ := hq
  rw [he] at e2 ⊢
  refine l_eq C rfl (tgt := 1129) (by decide) dL_law_1124 ?_
  exact K τ ρ (by rw [e1]; exact i_count hI) (e2.trans e1.symm)
set_option maxRecDepth 100000 in
theorem law_loop (C : LC X G gm b L xs) (hL : L ≤ 3072) : ∀ (k n : Nat) (σ μ : pw_H), L < n + 6 * k + 6 → n ≤ 4000 → Inv (vX σ) → vM μ = vX σ → LW X G gm b 18 (n : Int) [] σ μ := by
  intro k
  induction k with
  | zero =>
    intro n σ μ hk hn hI he
    refine l_head C rfl hn hL dL_law_18 dL_law_19 dL_law_20 dL_law_21 dL_law_23 dL_law_24 (tgt := 1135) (by decide) (fun h => ?_) (fun h => by omega)
    exact l_ret C dL_law_1135 dL_law_1136
  | succ k ih =>
    intro n σ μ hk hn hI he
    refine l_head C rfl hn hL dL_law_18 dL_law_19 dL_law_20 dL_law_21 dL_law_23 dL_law_24 (tgt := 1135) (by decide) (fun h => ?_) (fun h => ?_)
    · exact l_ret C dL_law_1135 dL_law_1136
    have K : ∀ σ' μ', Inv (vX σ') → vM μ' = vX σ' → LW X G gm b 1129 (n : Int) [] σ' μ' := by
      intro σ' μ' hI' he'
      refine l_next C dL_law_1129 dL_law_1132 (tgt := 18) (by decide) ?_
      have := ih (n + 6) σ' μ' (by omega) (by omega) hI' he'
      rw [show ((n + 6 : Nat) : Int) = (n : Int) + 6 by omega] at this
      exact this
    refine l_arg0 C rfl (by omega) hL dL_law_27 dL_law_28 dL_law_29 ?_
    refine l_and C dL_law_30 dL_law_32 (fun z hz => ?_)
    by_cases h0 : z < 0 ∨ 22 < z
    · refine l_tabOut C hz h0 (tgt := 1129) (by decide) dL_law_33 ?_
      exact K σ μ hI he
    by_cases h1 : z = 0
    · subst h1
      refine l_tabIn C (by decide) (by decide) (by decide) rfl (tgt := 140) (by decide) dL_law_33 ?_
      exact law_0 C hL h hI he K
    by_cases h2 : z = 1
    · subst h2
      refine l_tabIn C (by decide) (by decide) (by decide) rfl (tgt := 193) (by decide) dL_law_33 ?_
      exact law_1 C hL h hI he K
    by_cases h3 : z = 2
    · subst h3
      refine l_tabIn C (by decide) (by decide) (by decide) rfl (tgt := 226) (by decide) dL_law_33 ?_
      exact law_2 C hL h hI he K
    by_cases h4 : z = 3
    · subst h4
      refine l_tabIn C (by decide) (by decide) (by decide) rfl (tgt := 259) (by decide) dL_law_33 ?_
      exact law_3 C hL h hI he K
    by_cases h5 : z = 4
    · subst h5
      refine l_tabIn C (by decide) (by decide) (by decide) rfl (tgt := 282) (by decide) dL_law_33 ?_
      exact law_4 C hL h hI he K
    by_cases h6 : z = 5
    · subst h6
      refine l_tabIn C (by decide) (by decide) (by decide) rfl (tgt := 315) (by decide) dL_law_33 ?_
      exact law_5 C hL h hI he K
    by_cases h7 : z = 6
    · subst h7
      refine l_tabIn C (by decide) (by decide) (by decide) rfl (tgt := 328) (by decide) dL_law_33 ?_
      exact law_6 C hL h hI he K
    by_cases h8 : z = 7
    · subst h8
      refine l_tabIn C (by decide) (by decide) (by decide) rfl (tgt := 371) (by decide) dL_law_33 ?_
      exact law_7 C hL h hI he K
    by_cases h9 : z = 8
    · subst h9
      refine l_tabIn C (by decide) (by decide) (by decide) rfl (tgt := 414) (by decide) dL_law_33 ?_
      exact law_8 C hL h hI he K
    by_cases h10 : z = 9
    · subst h10
      refine l_tabIn C (by decide) (by decide) (by decide) rfl (tgt := 467) (by decide) dL_law_33 ?_
      exact law_9 C hL h hI he K
    by_cases h11 : z = 10
    · subst h11
      refine l_tabIn C (by decide) (by decide) (by decide) rfl (tgt := 500) (by decide) dL_law_33 ?_
      exact law_10 C hL h hI he K
    by_cases h12 : z = 11
    · subst h12
      refine l_tabIn C (by decide) (by decide) (by decide) rfl (tgt := 563) (by decide) dL_law_33 ?_
      exact law_11 C hL h hI he K
    by_cases h13 : z = 12
    · subst h13
      refine l_tabIn C (by decide) (by decide) (by decide) rfl (tgt := 626) (by decide) dL_law_33 ?_
      exact law_12 C hL h hI he K
    by_cases h14 : z = 13
    · subst h14
      refine l_tabIn C (by decide) (by decide) (by decide) rfl (tgt := 669) (by decide) dL_law_33 ?_
      exact law_13 C hL h hI he K
    by_cases h15 : z = 14
    · subst h15
      refine l_tabIn C (by decide) (by decide) (by decide) rfl (tgt := 722) (by decide) dL_law_33 ?_
      exact law_14 C hL h hI he K
    by_cases h16 : z = 15
    · subst h16
      refine l_tabIn C (by decide) (by decide) (by decide) rfl (tgt := 775) (by decide) dL_law_33 ?_
      exact law_15 C hL h hI he K
    by_cases h17 : z = 16
    · subst h17
      refine l_tabIn C (by decide) (by decide) (by decide) rfl (tgt := 838) (by decide) dL_law_33 ?_
      exact law_16 C hL h hI he K
    by_cases h18 : z = 17
    · subst h18
      refine l_tabIn C (by decide) (by decide) (by decide) rfl (tgt := 871) (by decide) dL_law_33 ?_
      exact law_17 C hL h hI he K
    by_cases h19 : z = 18
    · subst h19
      refine l_tabIn C (by decide) (by decide) (by decide) rfl (tgt := 924) (by decide) dL_law_33 ?_
      exact law_18 C hL h hI he K
    by_cases h20 : z = 19
    · subst h20
      refine l_tabIn C (by decide) (by decide) (by decide) rfl (tgt := 977) (by decide) dL_law_33 ?_
      exact law_19 C hL h hI he K
    by_cases h21 : z = 20
    · subst h21
      refine l_tabIn C (by decide) (by decide) (by decide) rfl (tgt := 1030) (by decide) dL_law_33 ?_
      exact law_20 C hL h hI he K
    by_cases h22 : z = 21
    · subst h22
      refine l_tabIn C (by decide) (by decide) (by decide) rfl (tgt := 1063) (by decide) dL_law_33 ?_
      exact law_21 C hL h hI he K
    by_cases h23 : z = 22
    · subst h23
      refine l_tabIn C (by decide) (by decide) (by decide) rfl (tgt := 1106) (by decide) dL_law_33 ?_
      exact law_22 C hL h hI he K
    exfalso; omega
end CASES
