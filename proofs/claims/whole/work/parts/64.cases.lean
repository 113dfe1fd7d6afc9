/-! THE LAW'S CASES: each call on both sides, and the answers alike -/
abbrev mL : zM := (yL_law, code, 4, ret)
def zXs (X : zCx) (L : Nat) (xs : Nat → Int32) : Prop := va_X ((zE X).2.2 122) L xs (zs X) (zs X).heap ∧ (zE X).2.2 122 < (zs X).heap.size ∧ ¬ zA (zE X) ((zE X).2.2 122)
abbrev zlv (i : Nat) : List (Option Value) := [some (.ref 122), some (.ref 0), some (.ref 50), some (.int (nI i))]
theorem zRW.hi {S : zS} {σ τ : zSt} (h : zRW S σ) (k : ∀ c, 50 ≤ c → τ c = σ c) : zRW S τ := h.keep ⟨by rw [k 50 (by omega)], by rw [k 50 (by omega)], by rw [k 50 (by omega)]⟩ (fun c hc => k c (by omega))
theorem zCW.lo {S : zS} {σ τ : zSt} (h : zCW S σ) (k : ∀ c, c < 50 → τ c = σ c) : zCW S τ := h.keep (fun c hc => k c (by omega))
section zLAW
variable {n pc : Nat} {X : zCx} {L i : Nat} {xs : Nat → Int32} {st : List Value} {σ : zSt}
theorem zw_scrN {j : Nat} {lv : List (Option Value)} (hB : zB mL n X) (hX : zXs X L xs) (hL : L ≤ 2560) (hj : j < L) (hd : decode code pc = .ok (.iaload, 1)) (k : zW X (pc + 1) lv (.int (xs j) :: st) σ) : zW X pc lv (.int (nI j) :: .ref 122 :: st) σ := by
  intro H locs ls hP hS hV
  refine va_sld hB.1 hB.2.1 hX.1 hX.2.1 hX.2.2 hS (vp_in_nI hj (by omega)) hd ?_
  rw [nI_clamp (by omega)]
  exact k H locs ls hP hS hV
theorem zw_scrlen {lv : List (Option Value)} (hB : zB mL n X) (hX : zXs X L xs) (hd : decode code pc = .ok (.arraylength, 1)) (k : zW X (pc + 1) lv (.int (nI L) :: st) σ) : zW X pc lv (.ref 122 :: st) σ := by
  intro H locs ls hP hS hV
  exact va_slen hB.1 hB.2.1 hX.1 hX.2.1 hX.2.2 hS hd (k H locs ls hP hS hV)
theorem zw_arg {j : Nat} {v : Int} (hB : zB mL n X) (hX : zXs X L xs) (hL : L ≤ 2560) (hi : i + 5 ≤ L) (hj : j < 5) (d1 : decode code pc = .ok (.aload_n 0, 1)) (d2 : decode code (pc + 1) = .ok (.iload_n 3, 1)) (d3 : decode code (pc + 2) = .ok (.iconst v, 1)) (hv : Int32.ofInt v = nI j)
    (d4 : decode code (pc + 3) = .ok (.iadd, 1)) (d5 : decode code (pc + 4) = .ok (.iaload, 1)) (k : zW X (pc + 5) (zlv i) (.int (xs (i + j)) :: st) σ) : zW X pc (zlv i) st σ := by
  refine zw_aload0 hB d1 ?_
  refine zw_iload3 hB d2 ?_
  refine zw_iconst hB d3 hv ?_
  refine zw_iaddN hB d4 ?_
  exact zw_scrN hB hX hL (by omega) d5 k
theorem zw_alike {lv : List (Option Value)} {off : Int} {tgt : Nat} {w : Value} (hB : zB mL n X) (hd : decode code pc = .ok (.if_icmp .eq off, 3)) (ht : (pc : Int) + off = (tgt : Int)) (hw : ∃ v : Int32, w = .int v) (k : zW X tgt lv st σ) : zW X pc lv (w :: w :: st) σ := by
  obtain ⟨v, rfl⟩ := hw
  exact zw_icmp_eq hB hd ht (fun _ => k) (fun h => absurd rfl h)
theorem zcmp_self (x : Int64) : lg_cmp x x = 0 := by
  unfold lg_cmp
  simp
theorem zw_alikeL {lv : List (Option Value)} {off : Int} {tgt : Nat} {w : Value} (hB : zB mL n X) (hd0 : decode code pc = .ok (.lcmp, 1)) (hd : decode code (pc + 1) = .ok (.ifCond .eq off, 3)) (ht : ((pc + 1 : Nat) : Int) + off = (tgt : Int)) (hw : ∃ v : Int64, w = .long v) (k : zW X tgt lv st σ) : zW X pc lv (w :: w :: st) σ := by
  obtain ⟨v, rfl⟩ := hw
  refine zw_lcmp hB hd0 ?_
  exact zw_if_eq hB hd ht (fun _ => k) (fun h => absurd (zcmp_self v) h)
theorem zcat1 (w : Value) : ([w].map fun v => v.category).sum ≤ 8 := by
  cases w <;> exact Nat.le_of_ble_eq_true rfl
theorem zqi {S : zS} {e : Int32} {a : Value × zS} (h : ∃ v : Int32, a.1 = .int v) : ∃ v : Int32, (zq S e a).1 = .int v := by
  unfold zq
  split
  · exact h
  · exact ⟨_, rfl⟩
theorem zqli {S : zS} {e : Int32} {a : Value × zS} (h : ∃ v : Int64, a.1 = .long v) : ∃ v : Int64, (zqL S e a).1 = .long v := by
  unfold zqL
  split
  · exact h
  · exact ⟨_, rfl⟩
theorem zoni (S : zS) : ∃ v : Int32, (q_on S).1 = .int v := by
  unfold q_on
  split <;> exact ⟨_, rfl⟩
theorem zc_letter {S : zS} (hB : zB mL 21 X) (hX : zXs X L xs) (hL : L ≤ 2560) (hi : i + 5 ≤ L) (hO : zOk S) (hC : zCW S σ) (hR : zRW S σ) (k : ∀ (S1 : zS) (τ : zSt), zOk S1 → zCW S1 τ → zRW S1 τ → zW X 1216 (zlv i) [] τ) : zW X 200 (zlv i) [] σ := by
  refine zw_aload1 hB dL_law_200 ?_
  refine zw_arg (j := 1) hB hX hL hi (by decide) dL_law_201 dL_law_202 dL_law_203 (by decide) dL_law_204 dL_law_205 ?_
  refine zw_callV1 (M' := mX5_letter) hB dL_law_206 zl_L_13 zg_X5_letter (zRc.of rfl rfl rfl) (s_X5_letter hO hC _) (fun v τ q => ?_)
  obtain ⟨rfl, hC1, hk1⟩ := q
  refine zw_aload2 hB dL_law_209 ?_
  refine zw_arg (j := 1) hB hX hL hi (by decide) dL_law_210 dL_law_211 dL_law_212 (by decide) dL_law_213 dL_law_214 ?_
  refine zw_callV1 (M' := mX6_letter) hB dL_law_215 zl_L_17 zg_X6_letter (zRc.of rfl rfl rfl) (s_X6_letter hO (hR.hi hk1) _) (fun v υ q => ?_) (by decide) (zcat1 _)
  obtain ⟨rfl, hR2, hk2⟩ := q
  exact zw_alike hB dL_law_218 (tgt := 1216) (by decide) (zqi ⟨_, rfl⟩) (k _ _ (zOk_letter hO _) (hC1.lo hk2) hR2)
theorem zc_land {S : zS} (hB : zB mL 21 X) (hX : zXs X L xs) (hL : L ≤ 2560) (hi : i + 5 ≤ L) (hO : zOk S) (hC : zCW S σ) (hR : zRW S σ) (k : ∀ (S1 : zS) (τ : zSt), zOk S1 → zCW S1 τ → zRW S1 τ → zW X 1216 (zlv i) [] τ) : zW X 223 (zlv i) [] σ := by
  refine zw_aload1 hB dL_law_223 ?_
  refine zw_callV0 (M' := mX5_land) hB dL_law_224 zl_L_18 zg_X5_land (zRc.of rfl rfl rfl) (s_X5_land hO hC) (fun v τ q => ?_)
  obtain ⟨rfl, hC1, hk1⟩ := q
  refine zw_aload2 hB dL_law_227 ?_
  refine zw_callV0 (M' := mX6_land) hB dL_law_228 zl_L_22 zg_X6_land (zRc.of rfl rfl rfl) (s_X6_land hO (hR.hi hk1)) (fun v υ q => ?_) (by decide) (zcat1 _)
  obtain ⟨rfl, hR2, hk2⟩ := q
  exact zw_alike hB dL_law_231 (tgt := 1216) (by decide) (⟨_, rfl⟩) (k _ _ (zOk_land hO) (hC1.lo hk2) hR2)
theorem zc_farm {S : zS} (hB : zB mL 21 X) (hX : zXs X L xs) (hL : L ≤ 2560) (hi : i + 5 ≤ L) (hO : zOk S) (hC : zCW S σ) (hR : zRW S σ) (k : ∀ (S1 : zS) (τ : zSt), zOk S1 → zCW S1 τ → zRW S1 τ → zW X 1216 (zlv i) [] τ) : zW X 236 (zlv i) [] σ := by
  refine zw_aload1 hB dL_law_236 ?_
  refine zw_arg (j := 1) hB hX hL hi (by decide) dL_law_237 dL_law_238 dL_law_239 (by decide) dL_law_240 dL_law_241 ?_
  refine zw_arg (j := 2) hB hX hL hi (by decide) dL_law_242 dL_law_243 dL_law_244 (by decide) dL_law_245 dL_law_246 ?_
  refine zw_callV2 (M' := mX5_farm) hB dL_law_247 zl_L_23 zg_X5_farm (zRc.of rfl rfl rfl) (s_X5_farm hO hC _ _) (fun v τ q => ?_)
  obtain ⟨rfl, hC1, hk1⟩ := q
  refine zw_aload2 hB dL_law_250 ?_
  refine zw_arg (j := 1) hB hX hL hi (by decide) dL_law_251 dL_law_252 dL_law_253 (by decide) dL_law_254 dL_law_255 ?_
  refine zw_arg (j := 2) hB hX hL hi (by decide) dL_law_256 dL_law_257 dL_law_258 (by decide) dL_law_259 dL_law_260 ?_
  refine zw_callV2 (M' := mX6_farm) hB dL_law_261 zl_L_27 zg_X6_farm (zRc.of rfl rfl rfl) (s_X6_farm hO (hR.hi hk1) _ _) (fun v υ q => ?_) (by decide) (zcat1 _)
  obtain ⟨rfl, hR2, hk2⟩ := q
  exact zw_alike hB dL_law_264 (tgt := 1216) (by decide) (zqi ⟨_, rfl⟩) (k _ _ (zOk_q hO (fun _ => hO)) (hC1.lo hk2) hR2)
theorem zc_farmer {S : zS} (hB : zB mL 21 X) (hX : zXs X L xs) (hL : L ≤ 2560) (hi : i + 5 ≤ L) (hO : zOk S) (hC : zCW S σ) (hR : zRW S σ) (k : ∀ (S1 : zS) (τ : zSt), zOk S1 → zCW S1 τ → zRW S1 τ → zW X 1216 (zlv i) [] τ) : zW X 269 (zlv i) [] σ := by
  refine zw_aload1 hB dL_law_269 ?_
  refine zw_arg (j := 1) hB hX hL hi (by decide) dL_law_270 dL_law_271 dL_law_272 (by decide) dL_law_273 dL_law_274 ?_
  refine zw_arg (j := 2) hB hX hL hi (by decide) dL_law_275 dL_law_276 dL_law_277 (by decide) dL_law_278 dL_law_279 ?_
  refine zw_callV2 (M' := mX5_farmer) hB dL_law_280 zl_L_28 zg_X5_farmer (zRc.of rfl rfl rfl) (s_X5_farmer hO hC _ _) (fun v τ q => ?_)
  obtain ⟨rfl, hC1, hk1⟩ := q
  refine zw_aload2 hB dL_law_283 ?_
  refine zw_arg (j := 1) hB hX hL hi (by decide) dL_law_284 dL_law_285 dL_law_286 (by decide) dL_law_287 dL_law_288 ?_
  refine zw_arg (j := 2) hB hX hL hi (by decide) dL_law_289 dL_law_290 dL_law_291 (by decide) dL_law_292 dL_law_293 ?_
  refine zw_callV2 (M' := mX6_farmer) hB dL_law_294 zl_L_31 zg_X6_farmer (zRc.of rfl rfl rfl) (s_X6_farmer hO (hR.hi hk1) _ _) (fun v υ q => ?_) (by decide) (zcat1 _)
  obtain ⟨rfl, hR2, hk2⟩ := q
  exact zw_alike hB dL_law_297 (tgt := 1216) (by decide) (zqi ⟨_, rfl⟩) (k _ _ (zOk_q hO (fun _ => hO)) (hC1.lo hk2) hR2)
theorem zc_sits {S : zS} (hB : zB mL 21 X) (hX : zXs X L xs) (hL : L ≤ 2560) (hi : i + 5 ≤ L) (hO : zOk S) (hC : zCW S σ) (hR : zRW S σ) (k : ∀ (S1 : zS) (τ : zSt), zOk S1 → zCW S1 τ → zRW S1 τ → zW X 1216 (zlv i) [] τ) : zW X 302 (zlv i) [] σ := by
  refine zw_aload1 hB dL_law_302 ?_
  refine zw_arg (j := 1) hB hX hL hi (by decide) dL_law_303 dL_law_304 dL_law_305 (by decide) dL_law_306 dL_law_307 ?_
  refine zw_arg (j := 2) hB hX hL hi (by decide) dL_law_308 dL_law_309 dL_law_310 (by decide) dL_law_311 dL_law_312 ?_
  refine zw_callV2 (M' := mX5_sits) hB dL_law_313 zl_L_32 zg_X5_sits (zRc.of rfl rfl rfl) (s_X5_sits hO hC _ _) (fun v τ q => ?_)
  obtain ⟨rfl, hC1, hk1⟩ := q
  refine zw_aload2 hB dL_law_316 ?_
  refine zw_arg (j := 1) hB hX hL hi (by decide) dL_law_317 dL_law_318 dL_law_319 (by decide) dL_law_320 dL_law_321 ?_
  refine zw_arg (j := 2) hB hX hL hi (by decide) dL_law_322 dL_law_323 dL_law_324 (by decide) dL_law_325 dL_law_326 ?_
  refine zw_callV2 (M' := mX6_sits) hB dL_law_327 zl_L_35 zg_X6_sits (zRc.of rfl rfl rfl) (s_X6_sits hO (hR.hi hk1) _ _) (fun v υ q => ?_) (by decide) (zcat1 _)
  obtain ⟨rfl, hR2, hk2⟩ := q
  exact zw_alike hB dL_law_330 (tgt := 1216) (by decide) (zqi ⟨_, rfl⟩) (k _ _ (zOk_sits hO _ _) (hC1.lo hk2) hR2)
theorem zc_leaves {S : zS} (hB : zB mL 21 X) (hX : zXs X L xs) (hL : L ≤ 2560) (hi : i + 5 ≤ L) (hO : zOk S) (hC : zCW S σ) (hR : zRW S σ) (k : ∀ (S1 : zS) (τ : zSt), zOk S1 → zCW S1 τ → zRW S1 τ → zW X 1216 (zlv i) [] τ) : zW X 335 (zlv i) [] σ := by
  refine zw_aload1 hB dL_law_335 ?_
  refine zw_arg (j := 1) hB hX hL hi (by decide) dL_law_336 dL_law_337 dL_law_338 (by decide) dL_law_339 dL_law_340 ?_
  refine zw_callV1 (M' := mX5_leaves) hB dL_law_341 zl_L_36 zg_X5_leaves (zRc.of rfl rfl rfl) (s_X5_leaves hO hC _) (fun v τ q => ?_)
  obtain ⟨rfl, hC1, hk1⟩ := q
  refine zw_aload2 hB dL_law_344 ?_
  refine zw_arg (j := 1) hB hX hL hi (by decide) dL_law_345 dL_law_346 dL_law_347 (by decide) dL_law_348 dL_law_349 ?_
  refine zw_callV1 (M' := mX6_leaves) hB dL_law_350 zl_L_39 zg_X6_leaves (zRc.of rfl rfl rfl) (s_X6_leaves hO (hR.hi hk1) _) (fun v υ q => ?_) (by decide) (zcat1 _)
  obtain ⟨rfl, hR2, hk2⟩ := q
  exact zw_alike hB dL_law_353 (tgt := 1216) (by decide) (zqi ⟨_, rfl⟩) (k _ _ (zOk_leaves hO _) (hC1.lo hk2) hR2)
theorem zc_hearts {S : zS} (hB : zB mL 21 X) (hX : zXs X L xs) (hL : L ≤ 2560) (hi : i + 5 ≤ L) (hO : zOk S) (hC : zCW S σ) (hR : zRW S σ) (k : ∀ (S1 : zS) (τ : zSt), zOk S1 → zCW S1 τ → zRW S1 τ → zW X 1216 (zlv i) [] τ) : zW X 358 (zlv i) [] σ := by
  refine zw_aload1 hB dL_law_358 ?_
  refine zw_arg (j := 1) hB hX hL hi (by decide) dL_law_359 dL_law_360 dL_law_361 (by decide) dL_law_362 dL_law_363 ?_
  refine zw_arg (j := 2) hB hX hL hi (by decide) dL_law_364 dL_law_365 dL_law_366 (by decide) dL_law_367 dL_law_368 ?_
  refine zw_arg (j := 3) hB hX hL hi (by decide) dL_law_369 dL_law_370 dL_law_371 (by decide) dL_law_372 dL_law_373 ?_
  refine zw_callV3 (M' := mX5_hearts) hB dL_law_374 zl_L_40 zg_X5_hearts (zRc.of rfl rfl rfl) (s_X5_hearts hO hC _ _ _) (fun v τ q => ?_)
  obtain ⟨rfl, hC1, hk1⟩ := q
  refine zw_aload2 hB dL_law_377 ?_
  refine zw_arg (j := 1) hB hX hL hi (by decide) dL_law_378 dL_law_379 dL_law_380 (by decide) dL_law_381 dL_law_382 ?_
  refine zw_arg (j := 2) hB hX hL hi (by decide) dL_law_383 dL_law_384 dL_law_385 (by decide) dL_law_386 dL_law_387 ?_
  refine zw_arg (j := 3) hB hX hL hi (by decide) dL_law_388 dL_law_389 dL_law_390 (by decide) dL_law_391 dL_law_392 ?_
  refine zw_callV3 (M' := mX6_hearts) hB dL_law_393 zl_L_44 zg_X6_hearts (zRc.of rfl rfl rfl) (s_X6_hearts hO (hR.hi hk1) _ _ _) (fun v υ q => ?_) (by decide) (zcat1 _)
  obtain ⟨rfl, hR2, hk2⟩ := q
  exact zw_alike hB dL_law_396 (tgt := 1216) (by decide) (zqi ⟨_, rfl⟩) (k _ _ (zOk_hearts hO _ _ _) (hC1.lo hk2) hR2)
theorem zc_steps {S : zS} (hB : zB mL 21 X) (hX : zXs X L xs) (hL : L ≤ 2560) (hi : i + 5 ≤ L) (hO : zOk S) (hC : zCW S σ) (hR : zRW S σ) (k : ∀ (S1 : zS) (τ : zSt), zOk S1 → zCW S1 τ → zRW S1 τ → zW X 1216 (zlv i) [] τ) : zW X 401 (zlv i) [] σ := by
  refine zw_aload1 hB dL_law_401 ?_
  refine zw_arg (j := 1) hB hX hL hi (by decide) dL_law_402 dL_law_403 dL_law_404 (by decide) dL_law_405 dL_law_406 ?_
  refine zw_callV1 (M' := mX5_steps) hB dL_law_407 zl_L_45 zg_X5_steps (zRc.of rfl rfl rfl) (s_X5_steps hO hC _) (fun v τ q => ?_)
  obtain ⟨rfl, hC1, hk1⟩ := q
  refine zw_aload2 hB dL_law_410 ?_
  refine zw_arg (j := 1) hB hX hL hi (by decide) dL_law_411 dL_law_412 dL_law_413 (by decide) dL_law_414 dL_law_415 ?_
  refine zw_callV1 (M' := mX6_steps) hB dL_law_416 zl_L_48 zg_X6_steps (zRc.of rfl rfl rfl) (s_X6_steps hO (hR.hi hk1) _) (fun v υ q => ?_) (by decide) (zcat1 _)
  obtain ⟨rfl, hR2, hk2⟩ := q
  exact zw_alike hB dL_law_419 (tgt := 1216) (by decide) (zqi ⟨_, rfl⟩) (k _ _ (zOk_steps hO _) (hC1.lo hk2) hR2)
theorem zc_tires {S : zS} (hB : zB mL 21 X) (hX : zXs X L xs) (hL : L ≤ 2560) (hi : i + 5 ≤ L) (hO : zOk S) (hC : zCW S σ) (hR : zRW S σ) (k : ∀ (S1 : zS) (τ : zSt), zOk S1 → zCW S1 τ → zRW S1 τ → zW X 1216 (zlv i) [] τ) : zW X 424 (zlv i) [] σ := by
  refine zw_aload1 hB dL_law_424 ?_
  refine zw_arg (j := 1) hB hX hL hi (by decide) dL_law_425 dL_law_426 dL_law_427 (by decide) dL_law_428 dL_law_429 ?_
  refine zw_arg (j := 2) hB hX hL hi (by decide) dL_law_430 dL_law_431 dL_law_432 (by decide) dL_law_433 dL_law_434 ?_
  refine zw_callV2 (M' := mX5_tires) hB dL_law_435 zl_L_49 zg_X5_tires (zRc.of rfl rfl rfl) (s_X5_tires hO hC _ _) (fun v τ q => ?_)
  obtain ⟨rfl, hC1, hk1⟩ := q
  refine zw_aload2 hB dL_law_438 ?_
  refine zw_arg (j := 1) hB hX hL hi (by decide) dL_law_439 dL_law_440 dL_law_441 (by decide) dL_law_442 dL_law_443 ?_
  refine zw_arg (j := 2) hB hX hL hi (by decide) dL_law_444 dL_law_445 dL_law_446 (by decide) dL_law_447 dL_law_448 ?_
  refine zw_callV2 (M' := mX6_tires) hB dL_law_449 zl_L_52 zg_X6_tires (zRc.of rfl rfl rfl) (s_X6_tires hO (hR.hi hk1) _ _) (fun v υ q => ?_) (by decide) (zcat1 _)
  obtain ⟨rfl, hR2, hk2⟩ := q
  exact zw_alike hB dL_law_452 (tgt := 1216) (by decide) (zqi ⟨_, rfl⟩) (k _ _ (zOk_tires hO _ _) (hC1.lo hk2) hR2)
theorem zc_turn {S : zS} (hB : zB mL 21 X) (hX : zXs X L xs) (hL : L ≤ 2560) (hi : i + 5 ≤ L) (hO : zOk S) (hC : zCW S σ) (hR : zRW S σ) (k : ∀ (S1 : zS) (τ : zSt), zOk S1 → zCW S1 τ → zRW S1 τ → zW X 1216 (zlv i) [] τ) : zW X 457 (zlv i) [] σ := by
  refine zw_aload1 hB dL_law_457 ?_
  refine zw_arg (j := 1) hB hX hL hi (by decide) dL_law_458 dL_law_459 dL_law_460 (by decide) dL_law_461 dL_law_462 ?_
  refine zw_arg (j := 2) hB hX hL hi (by decide) dL_law_463 dL_law_464 dL_law_465 (by decide) dL_law_466 dL_law_467 ?_
  refine zw_arg (j := 3) hB hX hL hi (by decide) dL_law_468 dL_law_469 dL_law_470 (by decide) dL_law_471 dL_law_472 ?_
  refine zw_callV3 (M' := mX5_turn) hB dL_law_473 zl_L_53 zg_X5_turn (zRc.of rfl rfl rfl) (s_X5_turn hO hC _ _ _) (fun v τ q => ?_)
  obtain ⟨rfl, hC1, hk1⟩ := q
  refine zw_aload2 hB dL_law_476 ?_
  refine zw_arg (j := 1) hB hX hL hi (by decide) dL_law_477 dL_law_478 dL_law_479 (by decide) dL_law_480 dL_law_481 ?_
  refine zw_arg (j := 2) hB hX hL hi (by decide) dL_law_482 dL_law_483 dL_law_484 (by decide) dL_law_485 dL_law_486 ?_
  refine zw_arg (j := 3) hB hX hL hi (by decide) dL_law_487 dL_law_488 dL_law_489 (by decide) dL_law_490 dL_law_491 ?_
  refine zw_callV3 (M' := mX6_turn) hB dL_law_492 zl_L_56 zg_X6_turn (zRc.of rfl rfl rfl) (s_X6_turn hO (hR.hi hk1) _ _ _) (fun v υ q => ?_) (by decide) (zcat1 _)
  obtain ⟨rfl, hR2, hk2⟩ := q
  exact zw_alike hB dL_law_495 (tgt := 1216) (by decide) (zqi ⟨_, rfl⟩) (k _ _ (zOk_turn hO _ _ _) (hC1.lo hk2) hR2)
theorem zc_years {S : zS} (hB : zB mL 21 X) (hX : zXs X L xs) (hL : L ≤ 2560) (hi : i + 5 ≤ L) (hO : zOk S) (hC : zCW S σ) (hR : zRW S σ) (k : ∀ (S1 : zS) (τ : zSt), zOk S1 → zCW S1 τ → zRW S1 τ → zW X 1216 (zlv i) [] τ) : zW X 500 (zlv i) [] σ := by
  refine zw_aload1 hB dL_law_500 ?_
  refine zw_arg (j := 1) hB hX hL hi (by decide) dL_law_501 dL_law_502 dL_law_503 (by decide) dL_law_504 dL_law_505 ?_
  refine zw_callV1 (M' := mX5_years) hB dL_law_506 zl_L_57 zg_X5_years (zRc.of rfl rfl rfl) (s_X5_years hO hC _) (fun v τ q => ?_)
  obtain ⟨rfl, hC1, hk1⟩ := q
  refine zw_aload2 hB dL_law_509 ?_
  refine zw_arg (j := 1) hB hX hL hi (by decide) dL_law_510 dL_law_511 dL_law_512 (by decide) dL_law_513 dL_law_514 ?_
  refine zw_callV1 (M' := mX6_years) hB dL_law_515 zl_L_60 zg_X6_years (zRc.of rfl rfl rfl) (s_X6_years hO (hR.hi hk1) _) (fun v υ q => ?_) (by decide) (zcat1 _)
  obtain ⟨rfl, hR2, hk2⟩ := q
  exact zw_alike hB dL_law_518 (tgt := 1216) (by decide) (zqi ⟨_, rfl⟩) (k _ _ (zOk_years hO _) (hC1.lo hk2) hR2)
theorem zc_heartThen {S : zS} (hB : zB mL 21 X) (hX : zXs X L xs) (hL : L ≤ 2560) (hi : i + 5 ≤ L) (hO : zOk S) (hC : zCW S σ) (hR : zRW S σ) (k : ∀ (S1 : zS) (τ : zSt), zOk S1 → zCW S1 τ → zRW S1 τ → zW X 1216 (zlv i) [] τ) : zW X 523 (zlv i) [] σ := by
  refine zw_aload1 hB dL_law_523 ?_
  refine zw_arg (j := 1) hB hX hL hi (by decide) dL_law_524 dL_law_525 dL_law_526 (by decide) dL_law_527 dL_law_528 ?_
  refine zw_arg (j := 2) hB hX hL hi (by decide) dL_law_529 dL_law_530 dL_law_531 (by decide) dL_law_532 dL_law_533 ?_
  refine zw_arg (j := 3) hB hX hL hi (by decide) dL_law_534 dL_law_535 dL_law_536 (by decide) dL_law_537 dL_law_538 ?_
  refine zw_callV3 (M' := mX5_heartThen) hB dL_law_539 zl_L_61 zg_X5_heartThen (zRc.of rfl rfl rfl) (s_X5_heartThen hO hC _ _ _) (fun v τ q => ?_)
  obtain ⟨rfl, hC1, hk1⟩ := q
  refine zw_aload2 hB dL_law_542 ?_
  refine zw_arg (j := 1) hB hX hL hi (by decide) dL_law_543 dL_law_544 dL_law_545 (by decide) dL_law_546 dL_law_547 ?_
  refine zw_arg (j := 2) hB hX hL hi (by decide) dL_law_548 dL_law_549 dL_law_550 (by decide) dL_law_551 dL_law_552 ?_
  refine zw_arg (j := 3) hB hX hL hi (by decide) dL_law_553 dL_law_554 dL_law_555 (by decide) dL_law_556 dL_law_557 ?_
  refine zw_callV3 (M' := mX6_heartThen) hB dL_law_558 zl_L_64 zg_X6_heartThen (zRc.of rfl rfl rfl) (s_X6_heartThen hO (hR.hi hk1) _ _ _) (fun v υ q => ?_) (by decide) (zcat1 _)
  obtain ⟨rfl, hR2, hk2⟩ := q
  exact zw_alike hB dL_law_561 (tgt := 1216) (by decide) (zqi ⟨_, rfl⟩) (k _ _ (zOk_q hO (fun _ => hO)) (hC1.lo hk2) hR2)
theorem zc_farmerThen {S : zS} (hB : zB mL 21 X) (hX : zXs X L xs) (hL : L ≤ 2560) (hi : i + 5 ≤ L) (hO : zOk S) (hC : zCW S σ) (hR : zRW S σ) (k : ∀ (S1 : zS) (τ : zSt), zOk S1 → zCW S1 τ → zRW S1 τ → zW X 1216 (zlv i) [] τ) : zW X 566 (zlv i) [] σ := by
  refine zw_aload1 hB dL_law_566 ?_
  refine zw_arg (j := 1) hB hX hL hi (by decide) dL_law_567 dL_law_568 dL_law_569 (by decide) dL_law_570 dL_law_571 ?_
  refine zw_arg (j := 2) hB hX hL hi (by decide) dL_law_572 dL_law_573 dL_law_574 (by decide) dL_law_575 dL_law_576 ?_
  refine zw_arg (j := 3) hB hX hL hi (by decide) dL_law_577 dL_law_578 dL_law_579 (by decide) dL_law_580 dL_law_581 ?_
  refine zw_callV3 (M' := mX5_farmerThen) hB dL_law_582 zl_L_65 zg_X5_farmerThen (zRc.of rfl rfl rfl) (s_X5_farmerThen hO hC _ _ _) (fun v τ q => ?_)
  obtain ⟨rfl, hC1, hk1⟩ := q
  refine zw_aload2 hB dL_law_585 ?_
  refine zw_arg (j := 1) hB hX hL hi (by decide) dL_law_586 dL_law_587 dL_law_588 (by decide) dL_law_589 dL_law_590 ?_
  refine zw_arg (j := 2) hB hX hL hi (by decide) dL_law_591 dL_law_592 dL_law_593 (by decide) dL_law_594 dL_law_595 ?_
  refine zw_arg (j := 3) hB hX hL hi (by decide) dL_law_596 dL_law_597 dL_law_598 (by decide) dL_law_599 dL_law_600 ?_
  refine zw_callV3 (M' := mX6_farmerThen) hB dL_law_601 zl_L_68 zg_X6_farmerThen (zRc.of rfl rfl rfl) (s_X6_farmerThen hO (hR.hi hk1) _ _ _) (fun v υ q => ?_) (by decide) (zcat1 _)
  obtain ⟨rfl, hR2, hk2⟩ := q
  exact zw_alike hB dL_law_604 (tgt := 1216) (by decide) (zqi ⟨_, rfl⟩) (k _ _ (zOk_q hO (fun _ => hO)) (hC1.lo hk2) hR2)
theorem zc_barnThen {S : zS} (hB : zB mL 21 X) (hX : zXs X L xs) (hL : L ≤ 2560) (hi : i + 5 ≤ L) (hO : zOk S) (hC : zCW S σ) (hR : zRW S σ) (k : ∀ (S1 : zS) (τ : zSt), zOk S1 → zCW S1 τ → zRW S1 τ → zW X 1216 (zlv i) [] τ) : zW X 609 (zlv i) [] σ := by
  refine zw_aload1 hB dL_law_609 ?_
  refine zw_arg (j := 1) hB hX hL hi (by decide) dL_law_610 dL_law_611 dL_law_612 (by decide) dL_law_613 dL_law_614 ?_
  refine zw_callV1 (M' := mX5_barnThen) hB dL_law_615 zl_L_69 zg_X5_barnThen (zRc.of rfl rfl rfl) (s_X5_barnThen hO hC _) (fun v τ q => ?_)
  obtain ⟨rfl, hC1, hk1⟩ := q
  refine zw_aload2 hB dL_law_618 ?_
  refine zw_arg (j := 1) hB hX hL hi (by decide) dL_law_619 dL_law_620 dL_law_621 (by decide) dL_law_622 dL_law_623 ?_
  refine zw_callV1 (M' := mX6_barnThen) hB dL_law_624 zl_L_72 zg_X6_barnThen (zRc.of rfl rfl rfl) (s_X6_barnThen hO (hR.hi hk1) _) (fun v υ q => ?_) (by decide) (zcat1 _)
  obtain ⟨rfl, hR2, hk2⟩ := q
  exact zw_alike hB dL_law_627 (tgt := 1216) (by decide) (zqi ⟨_, rfl⟩) (k _ _ (zOk_q hO (fun _ => hO)) (hC1.lo hk2) hR2)
theorem zc_greenest {S : zS} (hB : zB mL 21 X) (hX : zXs X L xs) (hL : L ≤ 2560) (hi : i + 5 ≤ L) (hO : zOk S) (hC : zCW S σ) (hR : zRW S σ) (k : ∀ (S1 : zS) (τ : zSt), zOk S1 → zCW S1 τ → zRW S1 τ → zW X 1216 (zlv i) [] τ) : zW X 632 (zlv i) [] σ := by
  refine zw_aload1 hB dL_law_632 ?_
  refine zw_callV0 (M' := mX5_greenest) hB dL_law_633 zl_L_73 zg_X5_greenest (zRc.of rfl rfl rfl) (s_X5_greenest hO hC) (fun v τ q => ?_)
  obtain ⟨rfl, hC1, hk1⟩ := q
  refine zw_aload2 hB dL_law_636 ?_
  refine zw_callV0 (M' := mX6_greenest) hB dL_law_637 zl_L_76 zg_X6_greenest (zRc.of rfl rfl rfl) (s_X6_greenest hO (hR.hi hk1)) (fun v υ q => ?_) (by decide) (zcat1 _)
  obtain ⟨rfl, hR2, hk2⟩ := q
  exact zw_alike hB dL_law_640 (tgt := 1216) (by decide) (⟨_, rfl⟩) (k _ _ (hO) (hC1.lo hk2) hR2)
theorem zc_lost {S : zS} (hB : zB mL 21 X) (hX : zXs X L xs) (hL : L ≤ 2560) (hi : i + 5 ≤ L) (hO : zOk S) (hC : zCW S σ) (hR : zRW S σ) (k : ∀ (S1 : zS) (τ : zSt), zOk S1 → zCW S1 τ → zRW S1 τ → zW X 1216 (zlv i) [] τ) : zW X 645 (zlv i) [] σ := by
  refine zw_aload1 hB dL_law_645 ?_
  refine zw_arg (j := 1) hB hX hL hi (by decide) dL_law_646 dL_law_647 dL_law_648 (by decide) dL_law_649 dL_law_650 ?_
  refine zw_callV1 (M' := mX5_lost) hB dL_law_651 zl_L_77 zg_X5_lost (zRc.of rfl rfl rfl) (s_X5_lost hO hC _) (fun v τ q => ?_)
  obtain ⟨rfl, hC1, hk1⟩ := q
  refine zw_aload2 hB dL_law_654 ?_
  refine zw_arg (j := 1) hB hX hL hi (by decide) dL_law_655 dL_law_656 dL_law_657 (by decide) dL_law_658 dL_law_659 ?_
  refine zw_callV1 (M' := mX6_lost) hB dL_law_660 zl_L_80 zg_X6_lost (zRc.of rfl rfl rfl) (s_X6_lost hO (hR.hi hk1) _) (fun v υ q => ?_) (by decide) (zcat1 _)
  obtain ⟨rfl, hR2, hk2⟩ := q
  exact zw_alike hB dL_law_663 (tgt := 1216) (by decide) (zqi ⟨_, rfl⟩) (k _ _ (zOk_q hO (fun _ => hO)) (hC1.lo hk2) hR2)
theorem zc_crop {S : zS} (hB : zB mL 21 X) (hX : zXs X L xs) (hL : L ≤ 2560) (hi : i + 5 ≤ L) (hO : zOk S) (hC : zCW S σ) (hR : zRW S σ) (k : ∀ (S1 : zS) (τ : zSt), zOk S1 → zCW S1 τ → zRW S1 τ → zW X 1216 (zlv i) [] τ) : zW X 668 (zlv i) [] σ := by
  refine zw_aload1 hB dL_law_668 ?_
  refine zw_arg (j := 1) hB hX hL hi (by decide) dL_law_669 dL_law_670 dL_law_671 (by decide) dL_law_672 dL_law_673 ?_
  refine zw_arg (j := 2) hB hX hL hi (by decide) dL_law_674 dL_law_675 dL_law_676 (by decide) dL_law_677 dL_law_678 ?_
  refine zw_callV2 (M' := mX5_crop) hB dL_law_679 zl_L_81 zg_X5_crop (zRc.of rfl rfl rfl) (s_X5_crop hO hC _ _) (fun v τ q => ?_)
  obtain ⟨rfl, hC1, hk1⟩ := q
  refine zw_aload2 hB dL_law_682 ?_
  refine zw_arg (j := 1) hB hX hL hi (by decide) dL_law_683 dL_law_684 dL_law_685 (by decide) dL_law_686 dL_law_687 ?_
  refine zw_arg (j := 2) hB hX hL hi (by decide) dL_law_688 dL_law_689 dL_law_690 (by decide) dL_law_691 dL_law_692 ?_
  refine zw_callV2 (M' := mX6_crop) hB dL_law_693 zl_L_84 zg_X6_crop (zRc.of rfl rfl rfl) (s_X6_crop hO (hR.hi hk1) _ _) (fun v υ q => ?_) (by decide) (zcat1 _)
  obtain ⟨rfl, hR2, hk2⟩ := q
  exact zw_alike hB dL_law_696 (tgt := 1216) (by decide) (zqi ⟨_, rfl⟩) (k _ _ (zOk_q hO (fun _ => hO)) (hC1.lo hk2) hR2)
theorem zc_bestStep {S : zS} (hB : zB mL 21 X) (hX : zXs X L xs) (hL : L ≤ 2560) (hi : i + 5 ≤ L) (hO : zOk S) (hC : zCW S σ) (hR : zRW S σ) (k : ∀ (S1 : zS) (τ : zSt), zOk S1 → zCW S1 τ → zRW S1 τ → zW X 1216 (zlv i) [] τ) : zW X 701 (zlv i) [] σ := by
  refine zw_aload1 hB dL_law_701 ?_
  refine zw_arg (j := 1) hB hX hL hi (by decide) dL_law_702 dL_law_703 dL_law_704 (by decide) dL_law_705 dL_law_706 ?_
  refine zw_arg (j := 2) hB hX hL hi (by decide) dL_law_707 dL_law_708 dL_law_709 (by decide) dL_law_710 dL_law_711 ?_
  refine zw_callV2 (M' := mX5_bestStep) hB dL_law_712 zl_L_85 zg_X5_bestStep (zRc.of rfl rfl rfl) (s_X5_bestStep hO hC _ _) (fun v τ q => ?_)
  obtain ⟨rfl, hC1, hk1⟩ := q
  refine zw_aload2 hB dL_law_715 ?_
  refine zw_arg (j := 1) hB hX hL hi (by decide) dL_law_716 dL_law_717 dL_law_718 (by decide) dL_law_719 dL_law_720 ?_
  refine zw_arg (j := 2) hB hX hL hi (by decide) dL_law_721 dL_law_722 dL_law_723 (by decide) dL_law_724 dL_law_725 ?_
  refine zw_callV2 (M' := mX6_bestStep) hB dL_law_726 zl_L_88 zg_X6_bestStep (zRc.of rfl rfl rfl) (s_X6_bestStep hO (hR.hi hk1) _ _) (fun v υ q => ?_) (by decide) (zcat1 _)
  obtain ⟨rfl, hR2, hk2⟩ := q
  exact zw_alike hB dL_law_729 (tgt := 1216) (by decide) (zqi ⟨_, rfl⟩) (k _ _ (zOk_q hO (fun _ => hO)) (hC1.lo hk2) hR2)
theorem zc_send {S : zS} (hB : zB mL 21 X) (hX : zXs X L xs) (hL : L ≤ 2560) (hi : i + 5 ≤ L) (hO : zOk S) (hC : zCW S σ) (hR : zRW S σ) (k : ∀ (S1 : zS) (τ : zSt), zOk S1 → zCW S1 τ → zRW S1 τ → zW X 1216 (zlv i) [] τ) : zW X 734 (zlv i) [] σ := by
  refine zw_aload1 hB dL_law_734 ?_
  refine zw_arg (j := 1) hB hX hL hi (by decide) dL_law_735 dL_law_736 dL_law_737 (by decide) dL_law_738 dL_law_739 ?_
  refine zw_callV1 (M' := mX5_send) hB dL_law_740 zl_L_89 zg_X5_send (zRc.of rfl rfl rfl) (s_X5_send hO hC _) (fun v τ q => ?_)
  obtain ⟨rfl, hC1, hk1⟩ := q
  refine zw_aload2 hB dL_law_743 ?_
  refine zw_arg (j := 1) hB hX hL hi (by decide) dL_law_744 dL_law_745 dL_law_746 (by decide) dL_law_747 dL_law_748 ?_
  refine zw_callV1 (M' := mX6_send) hB dL_law_749 zl_L_92 zg_X6_send (zRc.of rfl rfl rfl) (s_X6_send hO (hR.hi hk1) _) (fun v υ q => ?_) (by decide) (zcat1 _)
  obtain ⟨rfl, hR2, hk2⟩ := q
  exact zw_alike hB dL_law_752 (tgt := 1216) (by decide) (zqi ⟨_, rfl⟩) (k _ _ (zOk_q hO (fun _ => hO)) (hC1.lo hk2) hR2)
theorem zc_change {S : zS} (hB : zB mL 21 X) (hX : zXs X L xs) (hL : L ≤ 2560) (hi : i + 5 ≤ L) (hO : zOk S) (hC : zCW S σ) (hR : zRW S σ) (k : ∀ (S1 : zS) (τ : zSt), zOk S1 → zCW S1 τ → zRW S1 τ → zW X 1216 (zlv i) [] τ) : zW X 757 (zlv i) [] σ := by
  refine zw_aload1 hB dL_law_757 ?_
  refine zw_arg (j := 1) hB hX hL hi (by decide) dL_law_758 dL_law_759 dL_law_760 (by decide) dL_law_761 dL_law_762 ?_
  refine zw_callV1 (M' := mX5_change) hB dL_law_763 zl_L_93 zg_X5_change (zRc.of rfl rfl rfl) (s_X5_change hO hC _) (fun v τ q => ?_)
  obtain ⟨rfl, hC1, hk1⟩ := q
  refine zw_aload2 hB dL_law_766 ?_
  refine zw_arg (j := 1) hB hX hL hi (by decide) dL_law_767 dL_law_768 dL_law_769 (by decide) dL_law_770 dL_law_771 ?_
  refine zw_callV1 (M' := mX6_change) hB dL_law_772 zl_L_96 zg_X6_change (zRc.of rfl rfl rfl) (s_X6_change hO (hR.hi hk1) _) (fun v υ q => ?_) (by decide) (zcat1 _)
  obtain ⟨rfl, hR2, hk2⟩ := q
  exact zw_alike hB dL_law_775 (tgt := 1216) (by decide) (zqi ⟨_, rfl⟩) (k _ _ (zOk_q hO (fun _ => hO)) (hC1.lo hk2) hR2)
theorem zc_next {S : zS} (hB : zB mL 21 X) (hX : zXs X L xs) (hL : L ≤ 2560) (hi : i + 5 ≤ L) (hO : zOk S) (hC : zCW S σ) (hR : zRW S σ) (k : ∀ (S1 : zS) (τ : zSt), zOk S1 → zCW S1 τ → zRW S1 τ → zW X 1216 (zlv i) [] τ) : zW X 780 (zlv i) [] σ := by
  refine zw_aload1 hB dL_law_780 ?_
  refine zw_arg (j := 1) hB hX hL hi (by decide) dL_law_781 dL_law_782 dL_law_783 (by decide) dL_law_784 dL_law_785 ?_
  refine zw_callV1 (M' := mX5_next) hB dL_law_786 zl_L_97 zg_X5_next (zRc.of rfl rfl rfl) (s_X5_next hO hC _) (fun v τ q => ?_)
  obtain ⟨rfl, hC1, hk1⟩ := q
  refine zw_aload2 hB dL_law_789 ?_
  refine zw_arg (j := 1) hB hX hL hi (by decide) dL_law_790 dL_law_791 dL_law_792 (by decide) dL_law_793 dL_law_794 ?_
  refine zw_callV1 (M' := mX6_next) hB dL_law_795 zl_L_100 zg_X6_next (zRc.of rfl rfl rfl) (s_X6_next hO (hR.hi hk1) _) (fun v υ q => ?_) (by decide) (zcat1 _)
  obtain ⟨rfl, hR2, hk2⟩ := q
  exact zw_alike hB dL_law_798 (tgt := 1216) (by decide) (zqi ⟨_, rfl⟩) (k _ _ (zOk_q hO (fun _ => hO)) (hC1.lo hk2) hR2)
theorem zc_feed {S : zS} (hB : zB mL 21 X) (hX : zXs X L xs) (hL : L ≤ 2560) (hi : i + 5 ≤ L) (hO : zOk S) (hC : zCW S σ) (hR : zRW S σ) (k : ∀ (S1 : zS) (τ : zSt), zOk S1 → zCW S1 τ → zRW S1 τ → zW X 1216 (zlv i) [] τ) : zW X 803 (zlv i) [] σ := by
  refine zw_aload1 hB dL_law_803 ?_
  refine zw_arg (j := 1) hB hX hL hi (by decide) dL_law_804 dL_law_805 dL_law_806 (by decide) dL_law_807 dL_law_808 ?_
  refine zw_arg (j := 2) hB hX hL hi (by decide) dL_law_809 dL_law_810 dL_law_811 (by decide) dL_law_812 dL_law_813 ?_
  refine zw_callV2 (M' := mX5_feed) hB dL_law_814 zl_L_101 zg_X5_feed (zRc.of rfl rfl rfl) (s_X5_feed hO hC _ _) (fun v τ q => ?_)
  obtain ⟨rfl, hC1, hk1⟩ := q
  refine zw_aload2 hB dL_law_817 ?_
  refine zw_arg (j := 1) hB hX hL hi (by decide) dL_law_818 dL_law_819 dL_law_820 (by decide) dL_law_821 dL_law_822 ?_
  refine zw_arg (j := 2) hB hX hL hi (by decide) dL_law_823 dL_law_824 dL_law_825 (by decide) dL_law_826 dL_law_827 ?_
  refine zw_callV2 (M' := mX6_feed) hB dL_law_828 zl_L_104 zg_X6_feed (zRc.of rfl rfl rfl) (s_X6_feed hO (hR.hi hk1) _ _) (fun v υ q => ?_) (by decide) (zcat1 _)
  obtain ⟨rfl, hR2, hk2⟩ := q
  exact zw_alike hB dL_law_831 (tgt := 1216) (by decide) (zqi ⟨_, rfl⟩) (k _ _ (zOk_q hO (fun _ => hO)) (hC1.lo hk2) hR2)
theorem zc_settles {S : zS} (hB : zB mL 21 X) (hX : zXs X L xs) (hL : L ≤ 2560) (hi : i + 5 ≤ L) (hO : zOk S) (hC : zCW S σ) (hR : zRW S σ) (k : ∀ (S1 : zS) (τ : zSt), zOk S1 → zCW S1 τ → zRW S1 τ → zW X 1216 (zlv i) [] τ) : zW X 836 (zlv i) [] σ := by
  refine zw_aload1 hB dL_law_836 ?_
  refine zw_callV0 (M' := mX5_settles) hB dL_law_837 zl_L_105 zg_X5_settles (zRc.of rfl rfl rfl) (s_X5_settles hO hC) (fun v τ q => ?_)
  obtain ⟨rfl, hC1, hk1⟩ := q
  refine zw_aload2 hB dL_law_840 ?_
  refine zw_callV0 (M' := mX6_settles) hB dL_law_841 zl_L_108 zg_X6_settles (zRc.of rfl rfl rfl) (s_X6_settles hO (hR.hi hk1)) (fun v υ q => ?_) (by decide) (zcat1 _)
  obtain ⟨rfl, hR2, hk2⟩ := q
  exact zw_alike hB dL_law_844 (tgt := 1216) (by decide) (⟨_, rfl⟩) (k _ _ (hO) (hC1.lo hk2) hR2)
theorem zc_round {S : zS} (hB : zB mL 21 X) (hX : zXs X L xs) (hL : L ≤ 2560) (hi : i + 5 ≤ L) (hO : zOk S) (hC : zCW S σ) (hR : zRW S σ) (k : ∀ (S1 : zS) (τ : zSt), zOk S1 → zCW S1 τ → zRW S1 τ → zW X 1216 (zlv i) [] τ) : zW X 849 (zlv i) [] σ := by
  refine zw_aload1 hB dL_law_849 ?_
  refine zw_callV0 (M' := mX5_round) hB dL_law_850 zl_L_109 zg_X5_round (zRc.of rfl rfl rfl) (s_X5_round hO hC) (fun v τ q => ?_)
  obtain ⟨rfl, hC1, hk1⟩ := q
  refine zw_aload2 hB dL_law_853 ?_
  refine zw_callV0 (M' := mX6_round) hB dL_law_854 zl_L_112 zg_X6_round (zRc.of rfl rfl rfl) (s_X6_round hO (hR.hi hk1)) (fun v υ q => ?_) (by decide) (zcat1 _)
  obtain ⟨rfl, hR2, hk2⟩ := q
  exact zw_alike hB dL_law_857 (tgt := 1216) (by decide) (⟨_, rfl⟩) (k _ _ (hO) (hC1.lo hk2) hR2)
theorem zc_free {S : zS} (hB : zB mL 21 X) (hX : zXs X L xs) (hL : L ≤ 2560) (hi : i + 5 ≤ L) (hO : zOk S) (hC : zCW S σ) (hR : zRW S σ) (k : ∀ (S1 : zS) (τ : zSt), zOk S1 → zCW S1 τ → zRW S1 τ → zW X 1216 (zlv i) [] τ) : zW X 862 (zlv i) [] σ := by
  refine zw_aload1 hB dL_law_862 ?_
  refine zw_arg (j := 1) hB hX hL hi (by decide) dL_law_863 dL_law_864 dL_law_865 (by decide) dL_law_866 dL_law_867 ?_
  refine zw_callV1 (M' := mX5_free) hB dL_law_868 zl_L_113 zg_X5_free (zRc.of rfl rfl rfl) (s_X5_free hO hC _) (fun v τ q => ?_)
  obtain ⟨rfl, hC1, hk1⟩ := q
  refine zw_aload2 hB dL_law_871 ?_
  refine zw_arg (j := 1) hB hX hL hi (by decide) dL_law_872 dL_law_873 dL_law_874 (by decide) dL_law_875 dL_law_876 ?_
  refine zw_callV1 (M' := mX6_free) hB dL_law_877 zl_L_116 zg_X6_free (zRc.of rfl rfl rfl) (s_X6_free hO (hR.hi hk1) _) (fun v υ q => ?_) (by decide) (zcat1 _)
  obtain ⟨rfl, hR2, hk2⟩ := q
  exact zw_alike hB dL_law_880 (tgt := 1216) (by decide) (zqi ⟨_, rfl⟩) (k _ _ (zOk_q hO (fun _ => hO)) (hC1.lo hk2) hR2)
theorem zc_inHeart {S : zS} (hB : zB mL 21 X) (hX : zXs X L xs) (hL : L ≤ 2560) (hi : i + 5 ≤ L) (hO : zOk S) (hC : zCW S σ) (hR : zRW S σ) (k : ∀ (S1 : zS) (τ : zSt), zOk S1 → zCW S1 τ → zRW S1 τ → zW X 1216 (zlv i) [] τ) : zW X 885 (zlv i) [] σ := by
  refine zw_aload1 hB dL_law_885 ?_
  refine zw_callV0 (M' := mX5_inHeart) hB dL_law_886 zl_L_117 zg_X5_inHeart (zRc.of rfl rfl rfl) (s_X5_inHeart hO hC) (fun v τ q => ?_)
  obtain ⟨rfl, hC1, hk1⟩ := q
  refine zw_aload2 hB dL_law_889 ?_
  refine zw_callV0 (M' := mX6_inHeart) hB dL_law_890 zl_L_120 zg_X6_inHeart (zRc.of rfl rfl rfl) (s_X6_inHeart hO (hR.hi hk1)) (fun v υ q => ?_) (by decide) (zcat1 _)
  obtain ⟨rfl, hR2, hk2⟩ := q
  exact zw_alike hB dL_law_893 (tgt := 1216) (by decide) (⟨_, rfl⟩) (k _ _ (hO) (hC1.lo hk2) hR2)
theorem zc_even {S : zS} (hB : zB mL 21 X) (hX : zXs X L xs) (hL : L ≤ 2560) (hi : i + 5 ≤ L) (hO : zOk S) (hC : zCW S σ) (hR : zRW S σ) (k : ∀ (S1 : zS) (τ : zSt), zOk S1 → zCW S1 τ → zRW S1 τ → zW X 1216 (zlv i) [] τ) : zW X 898 (zlv i) [] σ := by
  refine zw_aload1 hB dL_law_898 ?_
  refine zw_callV0 (M' := mX5_even) hB dL_law_899 zl_L_121 zg_X5_even (zRc.of rfl rfl rfl) (s_X5_even hO hC) (fun v τ q => ?_)
  obtain ⟨rfl, hC1, hk1⟩ := q
  refine zw_aload2 hB dL_law_902 ?_
  refine zw_callV0 (M' := mX6_even) hB dL_law_903 zl_L_124 zg_X6_even (zRc.of rfl rfl rfl) (s_X6_even hO (hR.hi hk1)) (fun v υ q => ?_) (by decide) (zcat1 _)
  obtain ⟨rfl, hR2, hk2⟩ := q
  exact zw_alike hB dL_law_906 (tgt := 1216) (by decide) (⟨_, rfl⟩) (k _ _ (hO) (hC1.lo hk2) hR2)
theorem zc_two {S : zS} (hB : zB mL 21 X) (hX : zXs X L xs) (hL : L ≤ 2560) (hi : i + 5 ≤ L) (hO : zOk S) (hC : zCW S σ) (hR : zRW S σ) (k : ∀ (S1 : zS) (τ : zSt), zOk S1 → zCW S1 τ → zRW S1 τ → zW X 1216 (zlv i) [] τ) : zW X 911 (zlv i) [] σ := by
  refine zw_aload1 hB dL_law_911 ?_
  refine zw_arg (j := 1) hB hX hL hi (by decide) dL_law_912 dL_law_913 dL_law_914 (by decide) dL_law_915 dL_law_916 ?_
  refine zw_arg (j := 2) hB hX hL hi (by decide) dL_law_917 dL_law_918 dL_law_919 (by decide) dL_law_920 dL_law_921 ?_
  refine zw_arg (j := 3) hB hX hL hi (by decide) dL_law_922 dL_law_923 dL_law_924 (by decide) dL_law_925 dL_law_926 ?_
  refine zw_callV3 (M' := mX5_two) hB dL_law_927 zl_L_125 zg_X5_two (zRc.of rfl rfl rfl) (s_X5_two hO hC _ _ _) (fun v τ q => ?_)
  obtain ⟨rfl, hC1, hk1⟩ := q
  refine zw_aload2 hB dL_law_930 ?_
  refine zw_arg (j := 1) hB hX hL hi (by decide) dL_law_931 dL_law_932 dL_law_933 (by decide) dL_law_934 dL_law_935 ?_
  refine zw_arg (j := 2) hB hX hL hi (by decide) dL_law_936 dL_law_937 dL_law_938 (by decide) dL_law_939 dL_law_940 ?_
  refine zw_arg (j := 3) hB hX hL hi (by decide) dL_law_941 dL_law_942 dL_law_943 (by decide) dL_law_944 dL_law_945 ?_
  refine zw_callV3 (M' := mX6_two) hB dL_law_946 zl_L_128 zg_X6_two (zRc.of rfl rfl rfl) (s_X6_two hO (hR.hi hk1) _ _ _) (fun v υ q => ?_) (by decide) (zcat1 _)
  obtain ⟨rfl, hR2, hk2⟩ := q
  exact zw_alike hB dL_law_949 (tgt := 1216) (by decide) (zqi ⟨_, rfl⟩) (k _ _ (zOk_q hO (fun _ => hO)) (hC1.lo hk2) hR2)
theorem zc_frost {S : zS} (hB : zB mL 21 X) (hX : zXs X L xs) (hL : L ≤ 2560) (hi : i + 5 ≤ L) (hO : zOk S) (hC : zCW S σ) (hR : zRW S σ) (k : ∀ (S1 : zS) (τ : zSt), zOk S1 → zCW S1 τ → zRW S1 τ → zW X 1216 (zlv i) [] τ) : zW X 954 (zlv i) [] σ := by
  refine zw_aload1 hB dL_law_954 ?_
  refine zw_arg (j := 1) hB hX hL hi (by decide) dL_law_955 dL_law_956 dL_law_957 (by decide) dL_law_958 dL_law_959 ?_
  refine zw_arg (j := 2) hB hX hL hi (by decide) dL_law_960 dL_law_961 dL_law_962 (by decide) dL_law_963 dL_law_964 ?_
  refine zw_arg (j := 3) hB hX hL hi (by decide) dL_law_965 dL_law_966 dL_law_967 (by decide) dL_law_968 dL_law_969 ?_
  refine zw_arg (j := 4) hB hX hL hi (by decide) dL_law_970 dL_law_971 dL_law_972 (by decide) dL_law_973 dL_law_974 ?_
  refine zw_callV4 (M' := mX5_frost) hB dL_law_975 zl_L_129 zg_X5_frost (zRc.of rfl rfl rfl) (s_X5_frost hO hC _ _ _ _) (fun v τ q => ?_)
  obtain ⟨rfl, hC1, hk1⟩ := q
  refine zw_aload2 hB dL_law_978 ?_
  refine zw_arg (j := 1) hB hX hL hi (by decide) dL_law_979 dL_law_980 dL_law_981 (by decide) dL_law_982 dL_law_983 ?_
  refine zw_arg (j := 2) hB hX hL hi (by decide) dL_law_984 dL_law_985 dL_law_986 (by decide) dL_law_987 dL_law_988 ?_
  refine zw_arg (j := 3) hB hX hL hi (by decide) dL_law_989 dL_law_990 dL_law_991 (by decide) dL_law_992 dL_law_993 ?_
  refine zw_arg (j := 4) hB hX hL hi (by decide) dL_law_994 dL_law_995 dL_law_996 (by decide) dL_law_997 dL_law_998 ?_
  refine zw_callV4 (M' := mX6_frost) hB dL_law_999 zl_L_133 zg_X6_frost (zRc.of rfl rfl rfl) (s_X6_frost hO (hR.hi hk1) _ _ _ _) (fun v υ q => ?_) (by decide) (zcat1 _)
  obtain ⟨rfl, hR2, hk2⟩ := q
  exact zw_alikeL hB dL_law_1002 dL_law_1003 (tgt := 1216) (by decide) (zqli ⟨_, rfl⟩) (k _ _ (zOk_qL hO (fun _ => hO)) (hC1.lo hk2) hR2)
theorem zc_mean {S : zS} (hB : zB mL 21 X) (hX : zXs X L xs) (hL : L ≤ 2560) (hi : i + 5 ≤ L) (hO : zOk S) (hC : zCW S σ) (hR : zRW S σ) (k : ∀ (S1 : zS) (τ : zSt), zOk S1 → zCW S1 τ → zRW S1 τ → zW X 1216 (zlv i) [] τ) : zW X 1008 (zlv i) [] σ := by
  refine zw_aload1 hB dL_law_1008 ?_
  refine zw_arg (j := 1) hB hX hL hi (by decide) dL_law_1009 dL_law_1010 dL_law_1011 (by decide) dL_law_1012 dL_law_1013 ?_
  refine zw_callV1 (M' := mX5_mean) hB dL_law_1014 zl_L_134 zg_X5_mean (zRc.of rfl rfl rfl) (s_X5_mean hO hC _) (fun v τ q => ?_)
  obtain ⟨rfl, hC1, hk1⟩ := q
  refine zw_aload2 hB dL_law_1017 ?_
  refine zw_arg (j := 1) hB hX hL hi (by decide) dL_law_1018 dL_law_1019 dL_law_1020 (by decide) dL_law_1021 dL_law_1022 ?_
  refine zw_callV1 (M' := mX6_mean) hB dL_law_1023 zl_L_138 zg_X6_mean (zRc.of rfl rfl rfl) (s_X6_mean hO (hR.hi hk1) _) (fun v υ q => ?_) (by decide) (zcat1 _)
  obtain ⟨rfl, hR2, hk2⟩ := q
  exact zw_alikeL hB dL_law_1026 dL_law_1027 (tgt := 1216) (by decide) (zqli ⟨_, rfl⟩) (k _ _ (zOk_qL hO (fun _ => hO)) (hC1.lo hk2) hR2)
theorem zc_whoSat {S : zS} (hB : zB mL 21 X) (hX : zXs X L xs) (hL : L ≤ 2560) (hi : i + 5 ≤ L) (hO : zOk S) (hC : zCW S σ) (hR : zRW S σ) (k : ∀ (S1 : zS) (τ : zSt), zOk S1 → zCW S1 τ → zRW S1 τ → zW X 1216 (zlv i) [] τ) : zW X 1032 (zlv i) [] σ := by
  refine zw_aload1 hB dL_law_1032 ?_
  refine zw_arg (j := 1) hB hX hL hi (by decide) dL_law_1033 dL_law_1034 dL_law_1035 (by decide) dL_law_1036 dL_law_1037 ?_
  refine zw_arg (j := 2) hB hX hL hi (by decide) dL_law_1038 dL_law_1039 dL_law_1040 (by decide) dL_law_1041 dL_law_1042 ?_
  refine zw_arg (j := 3) hB hX hL hi (by decide) dL_law_1043 dL_law_1044 dL_law_1045 (by decide) dL_law_1046 dL_law_1047 ?_
  refine zw_callV3 (M' := mX5_whoSat) hB dL_law_1048 zl_L_139 zg_X5_whoSat (zRc.of rfl rfl rfl) (s_X5_whoSat hO hC _ _ _) (fun v τ q => ?_)
  obtain ⟨rfl, hC1, hk1⟩ := q
  refine zw_aload2 hB dL_law_1051 ?_
  refine zw_arg (j := 1) hB hX hL hi (by decide) dL_law_1052 dL_law_1053 dL_law_1054 (by decide) dL_law_1055 dL_law_1056 ?_
  refine zw_arg (j := 2) hB hX hL hi (by decide) dL_law_1057 dL_law_1058 dL_law_1059 (by decide) dL_law_1060 dL_law_1061 ?_
  refine zw_arg (j := 3) hB hX hL hi (by decide) dL_law_1062 dL_law_1063 dL_law_1064 (by decide) dL_law_1065 dL_law_1066 ?_
  refine zw_callV3 (M' := mX6_whoSat) hB dL_law_1067 zl_L_142 zg_X6_whoSat (zRc.of rfl rfl rfl) (s_X6_whoSat hO (hR.hi hk1) _ _ _) (fun v υ q => ?_) (by decide) (zcat1 _)
  obtain ⟨rfl, hR2, hk2⟩ := q
  exact zw_alike hB dL_law_1070 (tgt := 1216) (by decide) (zqi ⟨_, rfl⟩) (k _ _ (zOk_q hO (fun _ => hO)) (hC1.lo hk2) hR2)
theorem zc_row {S : zS} (hB : zB mL 21 X) (hX : zXs X L xs) (hL : L ≤ 2560) (hi : i + 5 ≤ L) (hO : zOk S) (hC : zCW S σ) (hR : zRW S σ) (k : ∀ (S1 : zS) (τ : zSt), zOk S1 → zCW S1 τ → zRW S1 τ → zW X 1216 (zlv i) [] τ) : zW X 1075 (zlv i) [] σ := by
  refine zw_aload1 hB dL_law_1075 ?_
  refine zw_arg (j := 1) hB hX hL hi (by decide) dL_law_1076 dL_law_1077 dL_law_1078 (by decide) dL_law_1079 dL_law_1080 ?_
  refine zw_callV1 (M' := mX5_row) hB dL_law_1081 zl_L_143 zg_X5_row (zRc.of rfl rfl rfl) (s_X5_row hO hC _) (fun v τ q => ?_)
  obtain ⟨rfl, hC1, hk1⟩ := q
  refine zw_aload2 hB dL_law_1084 ?_
  refine zw_arg (j := 1) hB hX hL hi (by decide) dL_law_1085 dL_law_1086 dL_law_1087 (by decide) dL_law_1088 dL_law_1089 ?_
  refine zw_callV1 (M' := mX6_row) hB dL_law_1090 zl_L_146 zg_X6_row (zRc.of rfl rfl rfl) (s_X6_row hO (hR.hi hk1) _) (fun v υ q => ?_) (by decide) (zcat1 _)
  obtain ⟨rfl, hR2, hk2⟩ := q
  exact zw_alike hB dL_law_1093 (tgt := 1216) (by decide) (zqi ⟨_, rfl⟩) (k _ _ (zOk_row hO _) (hC1.lo hk2) hR2)
theorem zc_judge {S : zS} (hB : zB mL 21 X) (hX : zXs X L xs) (hL : L ≤ 2560) (hi : i + 5 ≤ L) (hO : zOk S) (hC : zCW S σ) (hR : zRW S σ) (k : ∀ (S1 : zS) (τ : zSt), zOk S1 → zCW S1 τ → zRW S1 τ → zW X 1216 (zlv i) [] τ) : zW X 1098 (zlv i) [] σ := by
  refine zw_aload1 hB dL_law_1098 ?_
  refine zw_callV0 (M' := mX5_judge) hB dL_law_1099 zl_L_147 zg_X5_judge (zRc.of rfl rfl rfl) (s_X5_judge hO hC) (fun v τ q => ?_)
  obtain ⟨rfl, hC1, hk1⟩ := q
  refine zw_aload2 hB dL_law_1102 ?_
  refine zw_callV0 (M' := mX6_judge) hB dL_law_1103 zl_L_150 zg_X6_judge (zRc.of rfl rfl rfl) (s_X6_judge hO (hR.hi hk1)) (fun v υ q => ?_) (by decide) (zcat1 _)
  obtain ⟨rfl, hR2, hk2⟩ := q
  exact zw_alike hB dL_law_1106 (tgt := 1216) (by decide) (⟨_, rfl⟩) (k _ _ (zOk_noRow hO) (hC1.lo hk2) hR2)
theorem zc_clear {S : zS} (hB : zB mL 21 X) (hX : zXs X L xs) (hL : L ≤ 2560) (hi : i + 5 ≤ L) (hO : zOk S) (hC : zCW S σ) (hR : zRW S σ) (k : ∀ (S1 : zS) (τ : zSt), zOk S1 → zCW S1 τ → zRW S1 τ → zW X 1216 (zlv i) [] τ) : zW X 1111 (zlv i) [] σ := by
  refine zw_aload1 hB dL_law_1111 ?_
  refine zw_callV0 (M' := mX5_clear) hB dL_law_1112 zl_L_151 zg_X5_clear (zRc.of rfl rfl rfl) (s_X5_clear hO hC) (fun v τ q => ?_)
  obtain ⟨rfl, hC1, hk1⟩ := q
  refine zw_aload2 hB dL_law_1115 ?_
  refine zw_callV0 (M' := mX6_clear) hB dL_law_1116 zl_L_154 zg_X6_clear (zRc.of rfl rfl rfl) (s_X6_clear hO (hR.hi hk1)) (fun v υ q => ?_) (by decide) (zcat1 _)
  obtain ⟨rfl, hR2, hk2⟩ := q
  exact zw_alike hB dL_law_1119 (tgt := 1216) (by decide) (⟨_, rfl⟩) (k _ _ (zOk_noRow hO) (hC1.lo hk2) hR2)
theorem zc_lots {S : zS} (hB : zB mL 21 X) (hX : zXs X L xs) (hL : L ≤ 2560) (hi : i + 5 ≤ L) (hO : zOk S) (hC : zCW S σ) (hR : zRW S σ) (k : ∀ (S1 : zS) (τ : zSt), zOk S1 → zCW S1 τ → zRW S1 τ → zW X 1216 (zlv i) [] τ) : zW X 1124 (zlv i) [] σ := by
  refine zw_aload1 hB dL_law_1124 ?_
  refine zw_arg (j := 1) hB hX hL hi (by decide) dL_law_1125 dL_law_1126 dL_law_1127 (by decide) dL_law_1128 dL_law_1129 ?_
  refine zw_arg (j := 2) hB hX hL hi (by decide) dL_law_1130 dL_law_1131 dL_law_1132 (by decide) dL_law_1133 dL_law_1134 ?_
  refine zw_arg (j := 3) hB hX hL hi (by decide) dL_law_1135 dL_law_1136 dL_law_1137 (by decide) dL_law_1138 dL_law_1139 ?_
  refine zw_callV3 (M' := mX5_lots) hB dL_law_1140 zl_L_155 zg_X5_lots (zRc.of rfl rfl rfl) (s_X5_lots hO hC _ _ _) (fun v τ q => ?_)
  obtain ⟨rfl, hC1, hk1⟩ := q
  refine zw_aload2 hB dL_law_1143 ?_
  refine zw_arg (j := 1) hB hX hL hi (by decide) dL_law_1144 dL_law_1145 dL_law_1146 (by decide) dL_law_1147 dL_law_1148 ?_
  refine zw_arg (j := 2) hB hX hL hi (by decide) dL_law_1149 dL_law_1150 dL_law_1151 (by decide) dL_law_1152 dL_law_1153 ?_
  refine zw_arg (j := 3) hB hX hL hi (by decide) dL_law_1154 dL_law_1155 dL_law_1156 (by decide) dL_law_1157 dL_law_1158 ?_
  refine zw_callV3 (M' := mX6_lots) hB dL_law_1159 zl_L_158 zg_X6_lots (zRc.of rfl rfl rfl) (s_X6_lots hO (hR.hi hk1) _ _ _) (fun v υ q => ?_) (by decide) (zcat1 _)
  obtain ⟨rfl, hR2, hk2⟩ := q
  exact zw_alike hB dL_law_1162 (tgt := 1216) (by decide) (zqi ⟨_, rfl⟩) (k _ _ (zOk_q hO (fun _ => hO)) (hC1.lo hk2) hR2)
theorem zc_image {S : zS} (hB : zB mL 21 X) (hX : zXs X L xs) (hL : L ≤ 2560) (hi : i + 5 ≤ L) (hO : zOk S) (hC : zCW S σ) (hR : zRW S σ) (k : ∀ (S1 : zS) (τ : zSt), zOk S1 → zCW S1 τ → zRW S1 τ → zW X 1216 (zlv i) [] τ) : zW X 1167 (zlv i) [] σ := by
  refine zw_aload1 hB dL_law_1167 ?_
  refine zw_callV0 (M' := mX5_image) hB dL_law_1168 zl_L_159 zg_X5_image (zRc.of rfl rfl rfl) (s_X5_image hO hC) (fun v τ q => ?_)
  obtain ⟨rfl, hC1, hk1⟩ := q
  refine zw_aload2 hB dL_law_1171 ?_
  refine zw_callV0 (M' := mX6_image) hB dL_law_1172 zl_L_162 zg_X6_image (zRc.of rfl rfl rfl) (s_X6_image hO (hR.hi hk1)) (fun v υ q => ?_) (by decide) (zcat1 _)
  obtain ⟨rfl, hR2, hk2⟩ := q
  exact zw_alike hB dL_law_1175 (tgt := 1216) (by decide) (⟨_, rfl⟩) (k _ _ (zOk_image hO) (hC1.lo hk2) hR2)
theorem zc_on {S : zS} (hB : zB mL 21 X) (hX : zXs X L xs) (hL : L ≤ 2560) (hi : i + 5 ≤ L) (hO : zOk S) (hC : zCW S σ) (hR : zRW S σ) (k : ∀ (S1 : zS) (τ : zSt), zOk S1 → zCW S1 τ → zRW S1 τ → zW X 1216 (zlv i) [] τ) : zW X 1180 (zlv i) [] σ := by
  refine zw_aload1 hB dL_law_1180 ?_
  refine zw_callV0 (M' := mX5_on) hB dL_law_1181 zl_L_163 zg_X5_on (zRc.of rfl rfl rfl) (s_X5_on hO hC) (fun v τ q => ?_)
  obtain ⟨rfl, hC1, hk1⟩ := q
  refine zw_aload2 hB dL_law_1184 ?_
  refine zw_callV0 (M' := mX6_on) hB dL_law_1185 zl_L_166 zg_X6_on (zRc.of rfl rfl rfl) (s_X6_on hO (hR.hi hk1)) (fun v υ q => ?_) (by decide) (zcat1 _)
  obtain ⟨rfl, hR2, hk2⟩ := q
  exact zw_alike hB dL_law_1188 (tgt := 1216) (by decide) (zoni S) (k _ _ (zOk_on hO) (hC1.lo hk2) hR2)
theorem zc_count {S : zS} (hB : zB mL 21 X) (hX : zXs X L xs) (hL : L ≤ 2560) (hi : i + 5 ≤ L) (hO : zOk S) (hC : zCW S σ) (hR : zRW S σ) (k : ∀ (S1 : zS) (τ : zSt), zOk S1 → zCW S1 τ → zRW S1 τ → zW X 1216 (zlv i) [] τ) : zW X 1193 (zlv i) [] σ := by
  refine zw_aload1 hB dL_law_1193 ?_
  refine zw_arg (j := 1) hB hX hL hi (by decide) dL_law_1194 dL_law_1195 dL_law_1196 (by decide) dL_law_1197 dL_law_1198 ?_
  refine zw_callV1 (M' := mX5_count) hB dL_law_1199 zl_L_167 zg_X5_count (zRc.of rfl rfl rfl) (s_X5_count hO hC _) (fun v τ q => ?_)
  obtain ⟨rfl, hC1, hk1⟩ := q
  refine zw_aload2 hB dL_law_1202 ?_
  refine zw_arg (j := 1) hB hX hL hi (by decide) dL_law_1203 dL_law_1204 dL_law_1205 (by decide) dL_law_1206 dL_law_1207 ?_
  refine zw_callV1 (M' := mX6_count) hB dL_law_1208 zl_L_170 zg_X6_count (zRc.of rfl rfl rfl) (s_X6_count hO (hR.hi hk1) _) (fun v υ q => ?_) (by decide) (zcat1 _)
  obtain ⟨rfl, hR2, hk2⟩ := q
  exact zw_alike hB dL_law_1211 (tgt := 1216) (by decide) (⟨_, rfl⟩) (k _ _ (hO) (hC1.lo hk2) hR2)
theorem zand63 (x : Int32) : ∃ k, k < 64 ∧ x &&& nI 63 = nI k := by
  refine ⟨(x &&& nI 63).toBitVec.toNat, ?_, ?_⟩
  · rw [Int32.toBitVec_and, BitVec.toNat_and]
    exact Nat.lt_of_le_of_lt Nat.and_le_right (by decide)
  · apply Int32.toBitVec_inj.mp
    apply BitVec.eq_of_toNat_eq
    show _ = (BitVec.ofNat 32 (x &&& nI 63).toBitVec.toNat).toNat
    rw [BitVec.toNat_ofNat, Nat.mod_eq_of_lt (BitVec.isLt _)]
theorem zlt5 (hL : L ≤ 2560) (hi : i ≤ 2565) (h : ¬ nI L - nI 5 < nI i) : i + 5 ≤ L := by
  rcases Nat.lt_or_ge L 5 with g | g
  · exfalso
    have h0 : nI L - nI 5 < 0 := by
      rcases (show L = 0 ∨ L = 1 ∨ L = 2 ∨ L = 3 ∨ L = 4 by omega) with rfl | rfl | rfl | rfl | rfl <;> decide +kernel
    have h1 := Int32.not_lt.mp h
    exact nI_pos (n := i) (by omega) (Int32.lt_of_le_of_lt h1 h0)
  · have e : nI L - nI 5 = nI (L - 5) := by
      have e1 : nI (L - 5) + nI 5 = nI L := by rw [nI_add]; congr 1; omega
      rw [← e1, Int32.add_sub_cancel]
    rw [e, nI_ltI (by omega) (by omega)] at h
    omega
theorem zlaw_sw {S : zS} (hB : zB mL 21 X) (hX : zXs X L xs) (hL : L ≤ 2560) (hi : i + 5 ≤ L) (hO : zOk S) (hC : zCW S σ) (hR : zRW S σ) (k : ∀ (S1 : zS) (τ : zSt), zOk S1 → zCW S1 τ → zRW S1 τ → zW X 1216 (zlv i) [] τ) : zW X 26 (zlv i) [] σ := by
  refine zw_aload0 hB dL_law_26 ?_
  refine zw_iload3 hB dL_law_27 ?_
  refine zw_scrN hB hX hL (by omega) dL_law_28 ?_
  refine zw_bipush hB dL_law_29 (x := nI 63) (by decide) ?_
  refine zw_iand hB dL_law_31 ?_
  obtain ⟨c, hc, e⟩ := zand63 (xs i)
  refine zw_eqI e ?_
  rcases Nat.lt_or_ge c 38 with g | g
  · rcases (show c = 0 ∨ c = 1 ∨ c = 2 ∨ c = 3 ∨ c = 4 ∨ c = 5 ∨ c = 6 ∨ c = 7 ∨ c = 8 ∨ c = 9 ∨ c = 10 ∨ c = 11 ∨ c = 12 ∨ c = 13 ∨ c = 14 ∨ c = 15 ∨ c = 16 ∨ c = 17 ∨ c = 18 ∨ c = 19 ∨ c = 20 ∨ c = 21 ∨ c = 22 ∨ c = 23 ∨ c = 24 ∨ c = 25 ∨ c = 26 ∨ c = 27 ∨ c = 28 ∨ c = 29 ∨ c = 30 ∨ c = 31 ∨ c = 32 ∨ c = 33 ∨ c = 34 ∨ c = 35 ∨ c = 36 ∨ c = 37 by omega) with rfl | rfl | rfl | rfl | rfl | rfl | rfl | rfl | rfl | rfl | rfl | rfl | rfl | rfl | rfl | rfl | rfl | rfl | rfl | rfl | rfl | rfl | rfl | rfl | rfl | rfl | rfl | rfl | rfl | rfl | rfl | rfl | rfl | rfl | rfl | rfl | rfl | rfl
    · exact zw_tabIn (tgt := 200) hB dL_law_32 (by decide +kernel) (by decide +kernel) rfl (by decide) (zc_letter hB hX hL hi hO hC hR k)
    · exact zw_tabIn (tgt := 223) hB dL_law_32 (by decide +kernel) (by decide +kernel) rfl (by decide) (zc_land hB hX hL hi hO hC hR k)
    · exact zw_tabIn (tgt := 236) hB dL_law_32 (by decide +kernel) (by decide +kernel) rfl (by decide) (zc_farm hB hX hL hi hO hC hR k)
    · exact zw_tabIn (tgt := 269) hB dL_law_32 (by decide +kernel) (by decide +kernel) rfl (by decide) (zc_farmer hB hX hL hi hO hC hR k)
    · exact zw_tabIn (tgt := 302) hB dL_law_32 (by decide +kernel) (by decide +kernel) rfl (by decide) (zc_sits hB hX hL hi hO hC hR k)
    · exact zw_tabIn (tgt := 335) hB dL_law_32 (by decide +kernel) (by decide +kernel) rfl (by decide) (zc_leaves hB hX hL hi hO hC hR k)
    · exact zw_tabIn (tgt := 358) hB dL_law_32 (by decide +kernel) (by decide +kernel) rfl (by decide) (zc_hearts hB hX hL hi hO hC hR k)
    · exact zw_tabIn (tgt := 401) hB dL_law_32 (by decide +kernel) (by decide +kernel) rfl (by decide) (zc_steps hB hX hL hi hO hC hR k)
    · exact zw_tabIn (tgt := 424) hB dL_law_32 (by decide +kernel) (by decide +kernel) rfl (by decide) (zc_tires hB hX hL hi hO hC hR k)
    · exact zw_tabIn (tgt := 457) hB dL_law_32 (by decide +kernel) (by decide +kernel) rfl (by decide) (zc_turn hB hX hL hi hO hC hR k)
    · exact zw_tabIn (tgt := 500) hB dL_law_32 (by decide +kernel) (by decide +kernel) rfl (by decide) (zc_years hB hX hL hi hO hC hR k)
    · exact zw_tabIn (tgt := 523) hB dL_law_32 (by decide +kernel) (by decide +kernel) rfl (by decide) (zc_heartThen hB hX hL hi hO hC hR k)
    · exact zw_tabIn (tgt := 566) hB dL_law_32 (by decide +kernel) (by decide +kernel) rfl (by decide) (zc_farmerThen hB hX hL hi hO hC hR k)
    · exact zw_tabIn (tgt := 609) hB dL_law_32 (by decide +kernel) (by decide +kernel) rfl (by decide) (zc_barnThen hB hX hL hi hO hC hR k)
    · exact zw_tabIn (tgt := 632) hB dL_law_32 (by decide +kernel) (by decide +kernel) rfl (by decide) (zc_greenest hB hX hL hi hO hC hR k)
    · exact zw_tabIn (tgt := 645) hB dL_law_32 (by decide +kernel) (by decide +kernel) rfl (by decide) (zc_lost hB hX hL hi hO hC hR k)
    · exact zw_tabIn (tgt := 668) hB dL_law_32 (by decide +kernel) (by decide +kernel) rfl (by decide) (zc_crop hB hX hL hi hO hC hR k)
    · exact zw_tabIn (tgt := 701) hB dL_law_32 (by decide +kernel) (by decide +kernel) rfl (by decide) (zc_bestStep hB hX hL hi hO hC hR k)
    · exact zw_tabIn (tgt := 734) hB dL_law_32 (by decide +kernel) (by decide +kernel) rfl (by decide) (zc_send hB hX hL hi hO hC hR k)
    · exact zw_tabIn (tgt := 757) hB dL_law_32 (by decide +kernel) (by decide +kernel) rfl (by decide) (zc_change hB hX hL hi hO hC hR k)
    · exact zw_tabIn (tgt := 780) hB dL_law_32 (by decide +kernel) (by decide +kernel) rfl (by decide) (zc_next hB hX hL hi hO hC hR k)
    · exact zw_tabIn (tgt := 803) hB dL_law_32 (by decide +kernel) (by decide +kernel) rfl (by decide) (zc_feed hB hX hL hi hO hC hR k)
    · exact zw_tabIn (tgt := 836) hB dL_law_32 (by decide +kernel) (by decide +kernel) rfl (by decide) (zc_settles hB hX hL hi hO hC hR k)
    · exact zw_tabIn (tgt := 849) hB dL_law_32 (by decide +kernel) (by decide +kernel) rfl (by decide) (zc_round hB hX hL hi hO hC hR k)
    · exact zw_tabIn (tgt := 862) hB dL_law_32 (by decide +kernel) (by decide +kernel) rfl (by decide) (zc_free hB hX hL hi hO hC hR k)
    · exact zw_tabIn (tgt := 885) hB dL_law_32 (by decide +kernel) (by decide +kernel) rfl (by decide) (zc_inHeart hB hX hL hi hO hC hR k)
    · exact zw_tabIn (tgt := 898) hB dL_law_32 (by decide +kernel) (by decide +kernel) rfl (by decide) (zc_even hB hX hL hi hO hC hR k)
    · exact zw_tabIn (tgt := 911) hB dL_law_32 (by decide +kernel) (by decide +kernel) rfl (by decide) (zc_two hB hX hL hi hO hC hR k)
    · exact zw_tabIn (tgt := 954) hB dL_law_32 (by decide +kernel) (by decide +kernel) rfl (by decide) (zc_frost hB hX hL hi hO hC hR k)
    · exact zw_tabIn (tgt := 1008) hB dL_law_32 (by decide +kernel) (by decide +kernel) rfl (by decide) (zc_mean hB hX hL hi hO hC hR k)
    · exact zw_tabIn (tgt := 1032) hB dL_law_32 (by decide +kernel) (by decide +kernel) rfl (by decide) (zc_whoSat hB hX hL hi hO hC hR k)
    · exact zw_tabIn (tgt := 1075) hB dL_law_32 (by decide +kernel) (by decide +kernel) rfl (by decide) (zc_row hB hX hL hi hO hC hR k)
    · exact zw_tabIn (tgt := 1098) hB dL_law_32 (by decide +kernel) (by decide +kernel) rfl (by decide) (zc_judge hB hX hL hi hO hC hR k)
    · exact zw_tabIn (tgt := 1111) hB dL_law_32 (by decide +kernel) (by decide +kernel) rfl (by decide) (zc_clear hB hX hL hi hO hC hR k)
    · exact zw_tabIn (tgt := 1124) hB dL_law_32 (by decide +kernel) (by decide +kernel) rfl (by decide) (zc_lots hB hX hL hi hO hC hR k)
    · exact zw_tabIn (tgt := 1167) hB dL_law_32 (by decide +kernel) (by decide +kernel) rfl (by decide) (zc_image hB hX hL hi hO hC hR k)
    · exact zw_tabIn (tgt := 1180) hB dL_law_32 (by decide +kernel) (by decide +kernel) rfl (by decide) (zc_on hB hX hL hi hO hC hR k)
    · exact zw_tabIn (tgt := 1193) hB dL_law_32 (by decide +kernel) (by decide +kernel) rfl (by decide) (zc_count hB hX hL hi hO hC hR k)
  · refine zw_tabOut (tgt := 1216) hB dL_law_32 (Or.inr ?_) (by decide) (k S σ hO hC hR)
    rw [nI_toInt (by omega)]
    omega
theorem zlaw_loop (hB : zB mL 21 X) (hX : zXs X L xs) (hL : L ≤ 2560) (hend : ∀ (i : Nat) (σ : zSt), zW X 1222 (zlv i) [] σ) : ∀ (d i : Nat) (S : zS) (σ : zSt), L - i ≤ d → i ≤ L → zOk S → zCW S σ → zRW S σ → zW X 18 (zlv i) [] σ := by
  intro d
  induction d with
  | zero =>
    intro i S σ hd hi hO hC hR
    refine zw_iload3 hB dL_law_18 ?_
    refine zw_aload0 hB dL_law_19 ?_
    refine zw_scrlen hB hX dL_law_20 ?_
    refine zw_iconst hB dL_law_21 (x := nI 5) (by decide) ?_
    refine zw_isub hB dL_law_22 ?_
    refine zw_icmp_gt (tgt := 1222) hB dL_law_23 (by decide) (fun _ => hend i σ) (fun h => ?_)
    have h5 := zlt5 hL (by omega) h
    omega
  | succ d ih =>
    intro i S σ hd hi hO hC hR
    refine zw_iload3 hB dL_law_18 ?_
    refine zw_aload0 hB dL_law_19 ?_
    refine zw_scrlen hB hX dL_law_20 ?_
    refine zw_iconst hB dL_law_21 (x := nI 5) (by decide) ?_
    refine zw_isub hB dL_law_22 ?_
    refine zw_icmp_gt (tgt := 1222) hB dL_law_23 (by decide) (fun _ => hend i σ) (fun h => ?_)
    have h5 := zlt5 hL (by omega) h
    refine zlaw_sw hB hX hL h5 hO hC hR (fun S1 τ g1 g2 g3 => ?_)
    refine zw_iinc3 hB dL_law_1216 (y := nI (i + 5)) (nI_add i 5) rfl ?_
    refine zw_goto (tgt := 18) hB dL_law_1219 (by decide) ?_
    exact ih (i + 5) S1 τ (by omega) (by omega) g1 g2 g3
end zLAW
