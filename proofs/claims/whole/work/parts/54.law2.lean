/-! THE LAW: one call of each -/
theorem l_looks {M t : Nat} {xs : Nat → Int32} {h : Hp} (hM : M ≤ 3072) (ht : 6 * t + 6 ≤ M) (hI : Inv h t) (k : ∀ f, Inv f (t + 1) → SW jL_law (EL M xs) ZL 891 (LL4 t) [] f) : SW jL_law (EL M xs) ZL 164 (LL4 t) [] h := by
  obtain ⟨x, hx⟩ := b_looks (xs (6 * t + 1)) h t (by omega) hI
  refine sw_aload_n dL_law_164 rfl ?_
  refine sw_aload_n dL_law_165 rfl ?_
  refine sw_iload_n dL_law_166 rfl ?_
  refine sw_iconst (v := nI 1) dL_law_167 (by decide) ?_
  first | refine sw_iaddN dL_law_168 ?_ | refine sw_iadd dL_law_168 ?_
  refine sw_sld dL_law_169 hM (by omega) ?_
  refine sw_callV (i := 0) hx dL_law_170 lkL_13 (by decide) ⟨by decide, _, rfl, rfl⟩ rfl rfl rfl (Nat.le_of_ble_eq_true rfl) (fun v h1 hq => ?_)
  obtain ⟨rfl, hy⟩ := hq
  refine sw_aload_n dL_law_173 rfl ?_
  refine sw_aload_n dL_law_174 rfl ?_
  refine sw_iload_n dL_law_175 rfl ?_
  refine sw_iconst (v := nI 1) dL_law_176 (by decide) ?_
  first | refine sw_iaddN dL_law_177 ?_ | refine sw_iadd dL_law_177 ?_
  refine sw_sld dL_law_178 hM (by omega) ?_
  refine sw_callV (i := 0) hy dL_law_179 lkL_17 (by decide) ⟨by decide, _, rfl, rfl⟩ rfl rfl rfl (Nat.le_of_ble_eq_true rfl) (fun v h1 hq => ?_)
  obtain ⟨rfl, hz⟩ := hq
  refine sw_icmp_eq (tgt := 891) dL_law_182 (by decide) (fun hc => ?_) (fun hc => ?_)
  · exact k _ hz
  · exact absurd rfl hc
theorem l_put {M t : Nat} {xs : Nat → Int32} {h : Hp} (hM : M ≤ 3072) (ht : 6 * t + 6 ≤ M) (hI : Inv h t) (k : ∀ f, Inv f (t + 1) → SW jL_law (EL M xs) ZL 891 (LL4 t) [] f) : SW jL_law (EL M xs) ZL 187 (LL4 t) [] h := by
  obtain ⟨x, hx⟩ := b_put (xs (6 * t + 1)) h t (by omega) hI
  refine sw_aload_n dL_law_187 rfl ?_
  refine sw_aload_n dL_law_188 rfl ?_
  refine sw_iload_n dL_law_189 rfl ?_
  refine sw_iconst (v := nI 1) dL_law_190 (by decide) ?_
  first | refine sw_iaddN dL_law_191 ?_ | refine sw_iadd dL_law_191 ?_
  refine sw_sld dL_law_192 hM (by omega) ?_
  refine sw_callV (i := 0) hx dL_law_193 lkL_18 (by decide) ⟨by decide, _, rfl, rfl⟩ rfl rfl rfl (Nat.le_of_ble_eq_true rfl) (fun v h1 hq => ?_)
  obtain ⟨rfl, hy⟩ := hq
  refine sw_aload_n dL_law_196 rfl ?_
  refine sw_aload_n dL_law_197 rfl ?_
  refine sw_iload_n dL_law_198 rfl ?_
  refine sw_iconst (v := nI 1) dL_law_199 (by decide) ?_
  first | refine sw_iaddN dL_law_200 ?_ | refine sw_iadd dL_law_200 ?_
  refine sw_sld dL_law_201 hM (by omega) ?_
  refine sw_callV (i := 0) hy dL_law_202 lkL_21 (by decide) ⟨by decide, _, rfl, rfl⟩ rfl rfl rfl (Nat.le_of_ble_eq_true rfl) (fun v h1 hq => ?_)
  obtain ⟨rfl, hz⟩ := hq
  refine sw_icmp_eq (tgt := 891) dL_law_205 (by decide) (fun hc => ?_) (fun hc => ?_)
  · exact k _ hz
  · exact absurd rfl hc
theorem l_drop {M t : Nat} {xs : Nat → Int32} {h : Hp} (hM : M ≤ 3072) (ht : 6 * t + 6 ≤ M) (hI : Inv h t) (k : ∀ f, Inv f (t + 1) → SW jL_law (EL M xs) ZL 891 (LL4 t) [] f) : SW jL_law (EL M xs) ZL 210 (LL4 t) [] h := by
  obtain ⟨x, hx⟩ := b_drop h t (by omega) hI
  refine sw_aload_n dL_law_210 rfl ?_
  refine sw_callV (i := 0) hx dL_law_211 lkL_22 (by decide) ⟨by decide, _, rfl, rfl⟩ rfl rfl rfl (Nat.le_of_ble_eq_true rfl) (fun v h1 hq => ?_)
  obtain ⟨rfl, hy⟩ := hq
  refine sw_aload_n dL_law_214 rfl ?_
  refine sw_callV (i := 0) hy dL_law_215 lkL_26 (by decide) ⟨by decide, _, rfl, rfl⟩ rfl rfl rfl (Nat.le_of_ble_eq_true rfl) (fun v h1 hq => ?_)
  obtain ⟨rfl, hz⟩ := hq
  refine sw_icmp_eq (tgt := 891) dL_law_218 (by decide) (fun hc => ?_) (fun hc => ?_)
  · exact k _ hz
  · exact absurd rfl hc
theorem l_told {M t : Nat} {xs : Nat → Int32} {h : Hp} (hM : M ≤ 3072) (ht : 6 * t + 6 ≤ M) (hI : Inv h t) (k : ∀ f, Inv f (t + 1) → SW jL_law (EL M xs) ZL 891 (LL4 t) [] f) : SW jL_law (EL M xs) ZL 223 (LL4 t) [] h := by
  obtain ⟨x, hx⟩ := b_told (xs (6 * t + 1)) (xs (6 * t + 2)) h t (by omega) hI
  refine sw_aload_n dL_law_223 rfl ?_
  refine sw_aload_n dL_law_224 rfl ?_
  refine sw_iload_n dL_law_225 rfl ?_
  refine sw_iconst (v := nI 1) dL_law_226 (by decide) ?_
  first | refine sw_iaddN dL_law_227 ?_ | refine sw_iadd dL_law_227 ?_
  refine sw_sld dL_law_228 hM (by omega) ?_
  refine sw_aload_n dL_law_229 rfl ?_
  refine sw_iload_n dL_law_230 rfl ?_
  refine sw_iconst (v := nI 2) dL_law_231 (by decide) ?_
  first | refine sw_iaddN dL_law_232 ?_ | refine sw_iadd dL_law_232 ?_
  refine sw_sld dL_law_233 hM (by omega) ?_
  refine sw_callV (i := 0) hx dL_law_234 lkL_27 (by decide) ⟨by decide, _, rfl, rfl⟩ rfl rfl rfl (Nat.le_of_ble_eq_true rfl) (fun v h1 hq => ?_)
  obtain ⟨rfl, hy⟩ := hq
  refine sw_aload_n dL_law_237 rfl ?_
  refine sw_aload_n dL_law_238 rfl ?_
  refine sw_iload_n dL_law_239 rfl ?_
  refine sw_iconst (v := nI 1) dL_law_240 (by decide) ?_
  first | refine sw_iaddN dL_law_241 ?_ | refine sw_iadd dL_law_241 ?_
  refine sw_sld dL_law_242 hM (by omega) ?_
  refine sw_aload_n dL_law_243 rfl ?_
  refine sw_iload_n dL_law_244 rfl ?_
  refine sw_iconst (v := nI 2) dL_law_245 (by decide) ?_
  first | refine sw_iaddN dL_law_246 ?_ | refine sw_iadd dL_law_246 ?_
  refine sw_sld dL_law_247 hM (by omega) ?_
  refine sw_callV (i := 0) hy dL_law_248 lkL_31 (by decide) ⟨by decide, _, rfl, rfl⟩ rfl rfl rfl (Nat.le_of_ble_eq_true rfl) (fun v h1 hq => ?_)
  obtain ⟨rfl, hz⟩ := hq
  refine sw_icmp_eq (tgt := 891) dL_law_251 (by decide) (fun hc => ?_) (fun hc => ?_)
  · exact k _ hz
  · exact absurd rfl hc
theorem l_weight {M t : Nat} {xs : Nat → Int32} {h : Hp} (hM : M ≤ 3072) (ht : 6 * t + 6 ≤ M) (hI : Inv h t) (k : ∀ f, Inv f (t + 1) → SW jL_law (EL M xs) ZL 891 (LL4 t) [] f) : SW jL_law (EL M xs) ZL 256 (LL4 t) [] h := by
  obtain ⟨x, hx⟩ := b_weight (xs (6 * t + 1)) (xs (6 * t + 2)) (xs (6 * t + 3)) h t (by omega) hI
  refine sw_aload_n dL_law_256 rfl ?_
  refine sw_aload_n dL_law_257 rfl ?_
  refine sw_iload_n dL_law_258 rfl ?_
  refine sw_iconst (v := nI 1) dL_law_259 (by decide) ?_
  first | refine sw_iaddN dL_law_260 ?_ | refine sw_iadd dL_law_260 ?_
  refine sw_sld dL_law_261 hM (by omega) ?_
  refine sw_aload_n dL_law_262 rfl ?_
  refine sw_iload_n dL_law_263 rfl ?_
  refine sw_iconst (v := nI 2) dL_law_264 (by decide) ?_
  first | refine sw_iaddN dL_law_265 ?_ | refine sw_iadd dL_law_265 ?_
  refine sw_sld dL_law_266 hM (by omega) ?_
  refine sw_aload_n dL_law_267 rfl ?_
  refine sw_iload_n dL_law_268 rfl ?_
  refine sw_iconst (v := nI 3) dL_law_269 (by decide) ?_
  first | refine sw_iaddN dL_law_270 ?_ | refine sw_iadd dL_law_270 ?_
  refine sw_sld dL_law_271 hM (by omega) ?_
  refine sw_callV (i := 0) hx dL_law_272 lkL_32 (by decide) ⟨by decide, _, rfl, rfl⟩ rfl rfl rfl (Nat.le_of_ble_eq_true rfl) (fun v h1 hq => ?_)
  obtain ⟨rfl, hy⟩ := hq
  refine sw_aload_n dL_law_275 rfl ?_
  refine sw_aload_n dL_law_276 rfl ?_
  refine sw_iload_n dL_law_277 rfl ?_
  refine sw_iconst (v := nI 1) dL_law_278 (by decide) ?_
  first | refine sw_iaddN dL_law_279 ?_ | refine sw_iadd dL_law_279 ?_
  refine sw_sld dL_law_280 hM (by omega) ?_
  refine sw_aload_n dL_law_281 rfl ?_
  refine sw_iload_n dL_law_282 rfl ?_
  refine sw_iconst (v := nI 2) dL_law_283 (by decide) ?_
  first | refine sw_iaddN dL_law_284 ?_ | refine sw_iadd dL_law_284 ?_
  refine sw_sld dL_law_285 hM (by omega) ?_
  refine sw_aload_n dL_law_286 rfl ?_
  refine sw_iload_n dL_law_287 rfl ?_
  refine sw_iconst (v := nI 3) dL_law_288 (by decide) ?_
  first | refine sw_iaddN dL_law_289 ?_ | refine sw_iadd dL_law_289 ?_
  refine sw_sld dL_law_290 hM (by omega) ?_
  refine sw_callV (i := 0) hy dL_law_291 lkL_36 (by decide) ⟨by decide, _, rfl, rfl⟩ rfl rfl rfl (Nat.le_of_ble_eq_true rfl) (fun v h1 hq => ?_)
  obtain ⟨rfl, hz⟩ := hq
  refine sw_icmp_eq (tgt := 891) dL_law_294 (by decide) (fun hc => ?_) (fun hc => ?_)
  · exact k _ hz
  · exact absurd rfl hc
theorem l_stake {M t : Nat} {xs : Nat → Int32} {h : Hp} (hM : M ≤ 3072) (ht : 6 * t + 6 ≤ M) (hI : Inv h t) (k : ∀ f, Inv f (t + 1) → SW jL_law (EL M xs) ZL 891 (LL4 t) [] f) : SW jL_law (EL M xs) ZL 299 (LL4 t) [] h := by
  obtain ⟨x, hx⟩ := b_stake (xs (6 * t + 1)) (xs (6 * t + 2)) (xs (6 * t + 3)) h t (by omega) hI
  refine sw_aload_n dL_law_299 rfl ?_
  refine sw_aload_n dL_law_300 rfl ?_
  refine sw_iload_n dL_law_301 rfl ?_
  refine sw_iconst (v := nI 1) dL_law_302 (by decide) ?_
  first | refine sw_iaddN dL_law_303 ?_ | refine sw_iadd dL_law_303 ?_
  refine sw_sld dL_law_304 hM (by omega) ?_
  refine sw_aload_n dL_law_305 rfl ?_
  refine sw_iload_n dL_law_306 rfl ?_
  refine sw_iconst (v := nI 2) dL_law_307 (by decide) ?_
  first | refine sw_iaddN dL_law_308 ?_ | refine sw_iadd dL_law_308 ?_
  refine sw_sld dL_law_309 hM (by omega) ?_
  refine sw_aload_n dL_law_310 rfl ?_
  refine sw_iload_n dL_law_311 rfl ?_
  refine sw_iconst (v := nI 3) dL_law_312 (by decide) ?_
  first | refine sw_iaddN dL_law_313 ?_ | refine sw_iadd dL_law_313 ?_
  refine sw_sld dL_law_314 hM (by omega) ?_
  refine sw_callV (i := 0) hx dL_law_315 lkL_37 (by decide) ⟨by decide, _, rfl, rfl⟩ rfl rfl rfl (Nat.le_of_ble_eq_true rfl) (fun v h1 hq => ?_)
  obtain ⟨rfl, hy⟩ := hq
  refine sw_aload_n dL_law_318 rfl ?_
  refine sw_aload_n dL_law_319 rfl ?_
  refine sw_iload_n dL_law_320 rfl ?_
  refine sw_iconst (v := nI 1) dL_law_321 (by decide) ?_
  first | refine sw_iaddN dL_law_322 ?_ | refine sw_iadd dL_law_322 ?_
  refine sw_sld dL_law_323 hM (by omega) ?_
  refine sw_aload_n dL_law_324 rfl ?_
  refine sw_iload_n dL_law_325 rfl ?_
  refine sw_iconst (v := nI 2) dL_law_326 (by decide) ?_
  first | refine sw_iaddN dL_law_327 ?_ | refine sw_iadd dL_law_327 ?_
  refine sw_sld dL_law_328 hM (by omega) ?_
  refine sw_aload_n dL_law_329 rfl ?_
  refine sw_iload_n dL_law_330 rfl ?_
  refine sw_iconst (v := nI 3) dL_law_331 (by decide) ?_
  first | refine sw_iaddN dL_law_332 ?_ | refine sw_iadd dL_law_332 ?_
  refine sw_sld dL_law_333 hM (by omega) ?_
  refine sw_callV (i := 0) hy dL_law_334 lkL_40 (by decide) ⟨by decide, _, rfl, rfl⟩ rfl rfl rfl (Nat.le_of_ble_eq_true rfl) (fun v h1 hq => ?_)
  obtain ⟨rfl, hz⟩ := hq
  refine sw_icmp_eq (tgt := 891) dL_law_337 (by decide) (fun hc => ?_) (fun hc => ?_)
  · exact k _ hz
  · exact absurd rfl hc
theorem l_parity {M t : Nat} {xs : Nat → Int32} {h : Hp} (hM : M ≤ 3072) (ht : 6 * t + 6 ≤ M) (hI : Inv h t) (k : ∀ f, Inv f (t + 1) → SW jL_law (EL M xs) ZL 891 (LL4 t) [] f) : SW jL_law (EL M xs) ZL 342 (LL4 t) [] h := by
  obtain ⟨x, hx⟩ := b_parity (xs (6 * t + 1)) (xs (6 * t + 2)) h t (by omega) hI
  refine sw_aload_n dL_law_342 rfl ?_
  refine sw_aload_n dL_law_343 rfl ?_
  refine sw_iload_n dL_law_344 rfl ?_
  refine sw_iconst (v := nI 1) dL_law_345 (by decide) ?_
  first | refine sw_iaddN dL_law_346 ?_ | refine sw_iadd dL_law_346 ?_
  refine sw_sld dL_law_347 hM (by omega) ?_
  refine sw_aload_n dL_law_348 rfl ?_
  refine sw_iload_n dL_law_349 rfl ?_
  refine sw_iconst (v := nI 2) dL_law_350 (by decide) ?_
  first | refine sw_iaddN dL_law_351 ?_ | refine sw_iadd dL_law_351 ?_
  refine sw_sld dL_law_352 hM (by omega) ?_
  refine sw_callV (i := 0) hx dL_law_353 lkL_41 (by decide) ⟨by decide, _, rfl, rfl⟩ rfl rfl rfl (Nat.le_of_ble_eq_true rfl) (fun v h1 hq => ?_)
  obtain ⟨rfl, hy⟩ := hq
  refine sw_aload_n dL_law_356 rfl ?_
  refine sw_aload_n dL_law_357 rfl ?_
  refine sw_iload_n dL_law_358 rfl ?_
  refine sw_iconst (v := nI 1) dL_law_359 (by decide) ?_
  first | refine sw_iaddN dL_law_360 ?_ | refine sw_iadd dL_law_360 ?_
  refine sw_sld dL_law_361 hM (by omega) ?_
  refine sw_aload_n dL_law_362 rfl ?_
  refine sw_iload_n dL_law_363 rfl ?_
  refine sw_iconst (v := nI 2) dL_law_364 (by decide) ?_
  first | refine sw_iaddN dL_law_365 ?_ | refine sw_iadd dL_law_365 ?_
  refine sw_sld dL_law_366 hM (by omega) ?_
  refine sw_callV (i := 0) hy dL_law_367 lkL_44 (by decide) ⟨by decide, _, rfl, rfl⟩ rfl rfl rfl (Nat.le_of_ble_eq_true rfl) (fun v h1 hq => ?_)
  obtain ⟨rfl, hz⟩ := hq
  refine sw_icmp_eq (tgt := 891) dL_law_370 (by decide) (fun hc => ?_) (fun hc => ?_)
  · exact k _ hz
  · exact absurd rfl hc
theorem l_joint {M t : Nat} {xs : Nat → Int32} {h : Hp} (hM : M ≤ 3072) (ht : 6 * t + 6 ≤ M) (hI : Inv h t) (k : ∀ f, Inv f (t + 1) → SW jL_law (EL M xs) ZL 891 (LL4 t) [] f) : SW jL_law (EL M xs) ZL 375 (LL4 t) [] h := by
  obtain ⟨x, hx⟩ := b_joint (xs (6 * t + 1)) (xs (6 * t + 2)) h t (by omega) hI
  refine sw_aload_n dL_law_375 rfl ?_
  refine sw_aload_n dL_law_376 rfl ?_
  refine sw_iload_n dL_law_377 rfl ?_
  refine sw_iconst (v := nI 1) dL_law_378 (by decide) ?_
  first | refine sw_iaddN dL_law_379 ?_ | refine sw_iadd dL_law_379 ?_
  refine sw_sld dL_law_380 hM (by omega) ?_
  refine sw_aload_n dL_law_381 rfl ?_
  refine sw_iload_n dL_law_382 rfl ?_
  refine sw_iconst (v := nI 2) dL_law_383 (by decide) ?_
  first | refine sw_iaddN dL_law_384 ?_ | refine sw_iadd dL_law_384 ?_
  refine sw_sld dL_law_385 hM (by omega) ?_
  refine sw_callV (i := 0) hx dL_law_386 lkL_45 (by decide) ⟨by decide, _, rfl, rfl⟩ rfl rfl rfl (Nat.le_of_ble_eq_true rfl) (fun v h1 hq => ?_)
  obtain ⟨rfl, hy⟩ := hq
  refine sw_aload_n dL_law_389 rfl ?_
  refine sw_aload_n dL_law_390 rfl ?_
  refine sw_iload_n dL_law_391 rfl ?_
  refine sw_iconst (v := nI 1) dL_law_392 (by decide) ?_
  first | refine sw_iaddN dL_law_393 ?_ | refine sw_iadd dL_law_393 ?_
  refine sw_sld dL_law_394 hM (by omega) ?_
  refine sw_aload_n dL_law_395 rfl ?_
  refine sw_iload_n dL_law_396 rfl ?_
  refine sw_iconst (v := nI 2) dL_law_397 (by decide) ?_
  first | refine sw_iaddN dL_law_398 ?_ | refine sw_iadd dL_law_398 ?_
  refine sw_sld dL_law_399 hM (by omega) ?_
  refine sw_callV (i := 0) hy dL_law_400 lkL_48 (by decide) ⟨by decide, _, rfl, rfl⟩ rfl rfl rfl (Nat.le_of_ble_eq_true rfl) (fun v h1 hq => ?_)
  obtain ⟨rfl, hz⟩ := hq
  refine sw_icmp_eq (tgt := 891) dL_law_403 (by decide) (fun hc => ?_) (fun hc => ?_)
  · exact k _ hz
  · exact absurd rfl hc
theorem l_agrees {M t : Nat} {xs : Nat → Int32} {h : Hp} (hM : M ≤ 3072) (ht : 6 * t + 6 ≤ M) (hI : Inv h t) (k : ∀ f, Inv f (t + 1) → SW jL_law (EL M xs) ZL 891 (LL4 t) [] f) : SW jL_law (EL M xs) ZL 408 (LL4 t) [] h := by
  obtain ⟨x, hx⟩ := b_agrees h t (by omega) hI
  refine sw_aload_n dL_law_408 rfl ?_
  refine sw_callV (i := 0) hx dL_law_409 lkL_49 (by decide) ⟨by decide, _, rfl, rfl⟩ rfl rfl rfl (Nat.le_of_ble_eq_true rfl) (fun v h1 hq => ?_)
  obtain ⟨rfl, hy⟩ := hq
  refine sw_aload_n dL_law_412 rfl ?_
  refine sw_callV (i := 0) hy dL_law_413 lkL_52 (by decide) ⟨by decide, _, rfl, rfl⟩ rfl rfl rfl (Nat.le_of_ble_eq_true rfl) (fun v h1 hq => ?_)
  obtain ⟨rfl, hz⟩ := hq
  refine sw_icmp_eq (tgt := 891) dL_law_416 (by decide) (fun hc => ?_) (fun hc => ?_)
  · exact k _ hz
  · exact absurd rfl hc
theorem l_quarrel {M t : Nat} {xs : Nat → Int32} {h : Hp} (hM : M ≤ 3072) (ht : 6 * t + 6 ≤ M) (hI : Inv h t) (k : ∀ f, Inv f (t + 1) → SW jL_law (EL M xs) ZL 891 (LL4 t) [] f) : SW jL_law (EL M xs) ZL 421 (LL4 t) [] h := by
  obtain ⟨x, hx⟩ := b_quarrel h t (by omega) hI
  refine sw_aload_n dL_law_421 rfl ?_
  refine sw_callV (i := 0) hx dL_law_422 lkL_53 (by decide) ⟨by decide, _, rfl, rfl⟩ rfl rfl rfl (Nat.le_of_ble_eq_true rfl) (fun v h1 hq => ?_)
  obtain ⟨rfl, hy⟩ := hq
  refine sw_aload_n dL_law_425 rfl ?_
  refine sw_callV (i := 0) hy dL_law_426 lkL_56 (by decide) ⟨by decide, _, rfl, rfl⟩ rfl rfl rfl (Nat.le_of_ble_eq_true rfl) (fun v h1 hq => ?_)
  obtain ⟨rfl, hz⟩ := hq
  refine sw_icmp_eq (tgt := 891) dL_law_429 (by decide) (fun hc => ?_) (fun hc => ?_)
  · exact k _ hz
  · exact absurd rfl hc
theorem l_possible {M t : Nat} {xs : Nat → Int32} {h : Hp} (hM : M ≤ 3072) (ht : 6 * t + 6 ≤ M) (hI : Inv h t) (k : ∀ f, Inv f (t + 1) → SW jL_law (EL M xs) ZL 891 (LL4 t) [] f) : SW jL_law (EL M xs) ZL 434 (LL4 t) [] h := by
  obtain ⟨x, hx⟩ := b_possible (xs (6 * t + 1)) h t (by omega) hI
  refine sw_aload_n dL_law_434 rfl ?_
  refine sw_aload_n dL_law_435 rfl ?_
  refine sw_iload_n dL_law_436 rfl ?_
  refine sw_iconst (v := nI 1) dL_law_437 (by decide) ?_
  first | refine sw_iaddN dL_law_438 ?_ | refine sw_iadd dL_law_438 ?_
  refine sw_sld dL_law_439 hM (by omega) ?_
  refine sw_callV (i := 0) hx dL_law_440 lkL_57 (by decide) ⟨by decide, _, rfl, rfl⟩ rfl rfl rfl (Nat.le_of_ble_eq_true rfl) (fun v h1 hq => ?_)
  obtain ⟨rfl, hy⟩ := hq
  refine sw_aload_n dL_law_443 rfl ?_
  refine sw_aload_n dL_law_444 rfl ?_
  refine sw_iload_n dL_law_445 rfl ?_
  refine sw_iconst (v := nI 1) dL_law_446 (by decide) ?_
  first | refine sw_iaddN dL_law_447 ?_ | refine sw_iadd dL_law_447 ?_
  refine sw_sld dL_law_448 hM (by omega) ?_
  refine sw_callV (i := 0) hy dL_law_449 lkL_60 (by decide) ⟨by decide, _, rfl, rfl⟩ rfl rfl rfl (Nat.le_of_ble_eq_true rfl) (fun v h1 hq => ?_)
  obtain ⟨rfl, hz⟩ := hq
  refine sw_icmp_eq (tgt := 891) dL_law_452 (by decide) (fun hc => ?_) (fun hc => ?_)
  · exact k _ hz
  · exact absurd rfl hc
theorem l_lost {M t : Nat} {xs : Nat → Int32} {h : Hp} (hM : M ≤ 3072) (ht : 6 * t + 6 ≤ M) (hI : Inv h t) (k : ∀ f, Inv f (t + 1) → SW jL_law (EL M xs) ZL 891 (LL4 t) [] f) : SW jL_law (EL M xs) ZL 457 (LL4 t) [] h := by
  obtain ⟨x, hx⟩ := b_lost (xs (6 * t + 1)) h t (by omega) hI
  refine sw_aload_n dL_law_457 rfl ?_
  refine sw_aload_n dL_law_458 rfl ?_
  refine sw_iload_n dL_law_459 rfl ?_
  refine sw_iconst (v := nI 1) dL_law_460 (by decide) ?_
  first | refine sw_iaddN dL_law_461 ?_ | refine sw_iadd dL_law_461 ?_
  refine sw_sld dL_law_462 hM (by omega) ?_
  refine sw_callV (i := 0) hx dL_law_463 lkL_61 (by decide) ⟨by decide, _, rfl, rfl⟩ rfl rfl rfl (Nat.le_of_ble_eq_true rfl) (fun v h1 hq => ?_)
  obtain ⟨rfl, hy⟩ := hq
  refine sw_aload_n dL_law_466 rfl ?_
  refine sw_aload_n dL_law_467 rfl ?_
  refine sw_iload_n dL_law_468 rfl ?_
  refine sw_iconst (v := nI 1) dL_law_469 (by decide) ?_
  first | refine sw_iaddN dL_law_470 ?_ | refine sw_iadd dL_law_470 ?_
  refine sw_sld dL_law_471 hM (by omega) ?_
  refine sw_callV (i := 0) hy dL_law_472 lkL_64 (by decide) ⟨by decide, _, rfl, rfl⟩ rfl rfl rfl (Nat.le_of_ble_eq_true rfl) (fun v h1 hq => ?_)
  obtain ⟨rfl, hz⟩ := hq
  refine sw_icmp_eq (tgt := 891) dL_law_475 (by decide) (fun hc => ?_) (fun hc => ?_)
  · exact k _ hz
  · exact absurd rfl hc
theorem l_bound {M t : Nat} {xs : Nat → Int32} {h : Hp} (hM : M ≤ 3072) (ht : 6 * t + 6 ≤ M) (hI : Inv h t) (k : ∀ f, Inv f (t + 1) → SW jL_law (EL M xs) ZL 891 (LL4 t) [] f) : SW jL_law (EL M xs) ZL 480 (LL4 t) [] h := by
  obtain ⟨x, hx⟩ := b_bound h t (by omega) hI
  refine sw_aload_n dL_law_480 rfl ?_
  refine sw_callV (i := 0) hx dL_law_481 lkL_65 (by decide) ⟨by decide, _, rfl, rfl⟩ rfl rfl rfl (Nat.le_of_ble_eq_true rfl) (fun v h1 hq => ?_)
  obtain ⟨rfl, hy⟩ := hq
  refine sw_aload_n dL_law_484 rfl ?_
  refine sw_callV (i := 0) hy dL_law_485 lkL_68 (by decide) ⟨by decide, _, rfl, rfl⟩ rfl rfl rfl (Nat.le_of_ble_eq_true rfl) (fun v h1 hq => ?_)
  obtain ⟨rfl, hz⟩ := hq
  refine sw_icmp_eq (tgt := 891) dL_law_488 (by decide) (fun hc => ?_) (fun hc => ?_)
  · exact k _ hz
  · exact absurd rfl hc
theorem l_best {M t : Nat} {xs : Nat → Int32} {h : Hp} (hM : M ≤ 3072) (ht : 6 * t + 6 ≤ M) (hI : Inv h t) (k : ∀ f, Inv f (t + 1) → SW jL_law (EL M xs) ZL 891 (LL4 t) [] f) : SW jL_law (EL M xs) ZL 493 (LL4 t) [] h := by
  obtain ⟨x, hx⟩ := b_best h t (by omega) hI
  refine sw_aload_n dL_law_493 rfl ?_
  refine sw_callV (i := 0) hx dL_law_494 lkL_69 (by decide) ⟨by decide, _, rfl, rfl⟩ rfl rfl rfl (Nat.le_of_ble_eq_true rfl) (fun v h1 hq => ?_)
  obtain ⟨rfl, hy⟩ := hq
  refine sw_aload_n dL_law_497 rfl ?_
  refine sw_callV (i := 0) hy dL_law_498 lkL_72 (by decide) ⟨by decide, _, rfl, rfl⟩ rfl rfl rfl (Nat.le_of_ble_eq_true rfl) (fun v h1 hq => ?_)
  obtain ⟨rfl, hz⟩ := hq
  refine sw_icmp_eq (tgt := 891) dL_law_501 (by decide) (fun hc => ?_) (fun hc => ?_)
  · exact k _ hz
  · exact absurd rfl hc
theorem l_worth {M t : Nat} {xs : Nat → Int32} {h : Hp} (hM : M ≤ 3072) (ht : 6 * t + 6 ≤ M) (hI : Inv h t) (k : ∀ f, Inv f (t + 1) → SW jL_law (EL M xs) ZL 891 (LL4 t) [] f) : SW jL_law (EL M xs) ZL 506 (LL4 t) [] h := by
  obtain ⟨x, hx⟩ := b_worth h t (by omega) hI
  refine sw_aload_n dL_law_506 rfl ?_
  refine sw_callV (i := 0) hx dL_law_507 lkL_73 (by decide) ⟨by decide, _, rfl, rfl⟩ rfl rfl rfl (Nat.le_of_ble_eq_true rfl) (fun v h1 hq => ?_)
  obtain ⟨rfl, hy⟩ := hq
  refine sw_aload_n dL_law_510 rfl ?_
  refine sw_callV (i := 0) hy dL_law_511 lkL_76 (by decide) ⟨by decide, _, rfl, rfl⟩ rfl rfl rfl (Nat.le_of_ble_eq_true rfl) (fun v h1 hq => ?_)
  obtain ⟨rfl, hz⟩ := hq
  refine sw_icmp_eq (tgt := 891) dL_law_514 (by decide) (fun hc => ?_) (fun hc => ?_)
  · exact k _ hz
  · exact absurd rfl hc
theorem l_beyond {M t : Nat} {xs : Nat → Int32} {h : Hp} (hM : M ≤ 3072) (ht : 6 * t + 6 ≤ M) (hI : Inv h t) (k : ∀ f, Inv f (t + 1) → SW jL_law (EL M xs) ZL 891 (LL4 t) [] f) : SW jL_law (EL M xs) ZL 519 (LL4 t) [] h := by
  obtain ⟨x, hx⟩ := b_beyond h t (by omega) hI
  refine sw_aload_n dL_law_519 rfl ?_
  refine sw_callV (i := 0) hx dL_law_520 lkL_77 (by decide) ⟨by decide, _, rfl, rfl⟩ rfl rfl rfl (Nat.le_of_ble_eq_true rfl) (fun v h1 hq => ?_)
  obtain ⟨rfl, hy⟩ := hq
  refine sw_aload_n dL_law_523 rfl ?_
  refine sw_callV (i := 0) hy dL_law_524 lkL_80 (by decide) ⟨by decide, _, rfl, rfl⟩ rfl rfl rfl (Nat.le_of_ble_eq_true rfl) (fun v h1 hq => ?_)
  obtain ⟨rfl, hz⟩ := hq
  refine sw_icmp_eq (tgt := 891) dL_law_527 (by decide) (fun hc => ?_) (fun hc => ?_)
  · exact k _ hz
  · exact absurd rfl hc
theorem l_parted {M t : Nat} {xs : Nat → Int32} {h : Hp} (hM : M ≤ 3072) (ht : 6 * t + 6 ≤ M) (hI : Inv h t) (k : ∀ f, Inv f (t + 1) → SW jL_law (EL M xs) ZL 891 (LL4 t) [] f) : SW jL_law (EL M xs) ZL 532 (LL4 t) [] h := by
  obtain ⟨x, hx⟩ := b_parted h t (by omega) hI
  refine sw_aload_n dL_law_532 rfl ?_
  refine sw_callV (i := 0) hx dL_law_533 lkL_81 (by decide) ⟨by decide, _, rfl, rfl⟩ rfl rfl rfl (Nat.le_of_ble_eq_true rfl) (fun v h1 hq => ?_)
  obtain ⟨rfl, hy⟩ := hq
  refine sw_aload_n dL_law_536 rfl ?_
  refine sw_callV (i := 0) hy dL_law_537 lkL_84 (by decide) ⟨by decide, _, rfl, rfl⟩ rfl rfl rfl (Nat.le_of_ble_eq_true rfl) (fun v h1 hq => ?_)
  obtain ⟨rfl, hz⟩ := hq
  refine sw_icmp_eq (tgt := 891) dL_law_540 (by decide) (fun hc => ?_) (fun hc => ?_)
  · exact k _ hz
  · exact absurd rfl hc
theorem l_part {M t : Nat} {xs : Nat → Int32} {h : Hp} (hM : M ≤ 3072) (ht : 6 * t + 6 ≤ M) (hI : Inv h t) (k : ∀ f, Inv f (t + 1) → SW jL_law (EL M xs) ZL 891 (LL4 t) [] f) : SW jL_law (EL M xs) ZL 545 (LL4 t) [] h := by
  obtain ⟨x, hx⟩ := b_part (xs (6 * t + 1)) h t (by omega) hI
  refine sw_aload_n dL_law_545 rfl ?_
  refine sw_aload_n dL_law_546 rfl ?_
  refine sw_iload_n dL_law_547 rfl ?_
  refine sw_iconst (v := nI 1) dL_law_548 (by decide) ?_
  first | refine sw_iaddN dL_law_549 ?_ | refine sw_iadd dL_law_549 ?_
  refine sw_sld dL_law_550 hM (by omega) ?_
  refine sw_callV (i := 0) hx dL_law_551 lkL_85 (by decide) ⟨by decide, _, rfl, rfl⟩ rfl rfl rfl (Nat.le_of_ble_eq_true rfl) (fun v h1 hq => ?_)
  obtain ⟨rfl, hy⟩ := hq
  refine sw_aload_n dL_law_554 rfl ?_
  refine sw_aload_n dL_law_555 rfl ?_
  refine sw_iload_n dL_law_556 rfl ?_
  refine sw_iconst (v := nI 1) dL_law_557 (by decide) ?_
  first | refine sw_iaddN dL_law_558 ?_ | refine sw_iadd dL_law_558 ?_
  refine sw_sld dL_law_559 hM (by omega) ?_
  refine sw_callV (i := 0) hy dL_law_560 lkL_88 (by decide) ⟨by decide, _, rfl, rfl⟩ rfl rfl rfl (Nat.le_of_ble_eq_true rfl) (fun v h1 hq => ?_)
  obtain ⟨rfl, hz⟩ := hq
  refine sw_icmp_eq (tgt := 891) dL_law_563 (by decide) (fun hc => ?_) (fun hc => ?_)
  · exact k _ hz
  · exact absurd rfl hc
theorem l_mix {M t : Nat} {xs : Nat → Int32} {h : Hp} (hM : M ≤ 3072) (ht : 6 * t + 6 ≤ M) (hI : Inv h t) (k : ∀ f, Inv f (t + 1) → SW jL_law (EL M xs) ZL 891 (LL4 t) [] f) : SW jL_law (EL M xs) ZL 568 (LL4 t) [] h := by
  obtain ⟨x, hx⟩ := b_mix (xs (6 * t + 1)) h t (by omega) hI
  refine sw_aload_n dL_law_568 rfl ?_
  refine sw_aload_n dL_law_569 rfl ?_
  refine sw_iload_n dL_law_570 rfl ?_
  refine sw_iconst (v := nI 1) dL_law_571 (by decide) ?_
  first | refine sw_iaddN dL_law_572 ?_ | refine sw_iadd dL_law_572 ?_
  refine sw_sld dL_law_573 hM (by omega) ?_
  refine sw_callV (i := 0) hx dL_law_574 lkL_89 (by decide) ⟨by decide, _, rfl, rfl⟩ rfl rfl rfl (Nat.le_of_ble_eq_true rfl) (fun v h1 hq => ?_)
  obtain ⟨rfl, hy⟩ := hq
  refine sw_aload_n dL_law_577 rfl ?_
  refine sw_aload_n dL_law_578 rfl ?_
  refine sw_iload_n dL_law_579 rfl ?_
  refine sw_iconst (v := nI 1) dL_law_580 (by decide) ?_
  first | refine sw_iaddN dL_law_581 ?_ | refine sw_iadd dL_law_581 ?_
  refine sw_sld dL_law_582 hM (by omega) ?_
  refine sw_callV (i := 0) hy dL_law_583 lkL_92 (by decide) ⟨by decide, _, rfl, rfl⟩ rfl rfl rfl (Nat.le_of_ble_eq_true rfl) (fun v h1 hq => ?_)
  obtain ⟨rfl, hz⟩ := hq
  refine sw_icmp_eq (tgt := 891) dL_law_586 (by decide) (fun hc => ?_) (fun hc => ?_)
  · exact k _ hz
  · exact absurd rfl hc
theorem l_fulfil {M t : Nat} {xs : Nat → Int32} {h : Hp} (hM : M ≤ 3072) (ht : 6 * t + 6 ≤ M) (hI : Inv h t) (k : ∀ f, Inv f (t + 1) → SW jL_law (EL M xs) ZL 891 (LL4 t) [] f) : SW jL_law (EL M xs) ZL 591 (LL4 t) [] h := by
  obtain ⟨x, hx⟩ := b_fulfil h t (by omega) hI
  refine sw_aload_n dL_law_591 rfl ?_
  refine sw_callV (i := 0) hx dL_law_592 lkL_93 (by decide) ⟨by decide, _, rfl, rfl⟩ rfl rfl rfl (Nat.le_of_ble_eq_true rfl) (fun v h1 hq => ?_)
  obtain ⟨rfl, hy⟩ := hq
  refine sw_aload_n dL_law_595 rfl ?_
  refine sw_callV (i := 0) hy dL_law_596 lkL_96 (by decide) ⟨by decide, _, rfl, rfl⟩ rfl rfl rfl (Nat.le_of_ble_eq_true rfl) (fun v h1 hq => ?_)
  obtain ⟨rfl, hz⟩ := hq
  refine sw_icmp_eq (tgt := 891) dL_law_599 (by decide) (fun hc => ?_) (fun hc => ?_)
  · exact k _ hz
  · exact absurd rfl hc
theorem l_proof {M t : Nat} {xs : Nat → Int32} {h : Hp} (hM : M ≤ 3072) (ht : 6 * t + 6 ≤ M) (hI : Inv h t) (k : ∀ f, Inv f (t + 1) → SW jL_law (EL M xs) ZL 891 (LL4 t) [] f) : SW jL_law (EL M xs) ZL 604 (LL4 t) [] h := by
  obtain ⟨x, hx⟩ := b_proof h t (by omega) hI
  refine sw_aload_n dL_law_604 rfl ?_
  refine sw_callV (i := 0) hx dL_law_605 lkL_97 (by decide) ⟨by decide, _, rfl, rfl⟩ rfl rfl rfl (Nat.le_of_ble_eq_true rfl) (fun v h1 hq => ?_)
  obtain ⟨rfl, hy⟩ := hq
  refine sw_aload_n dL_law_608 rfl ?_
  refine sw_callV (i := 0) hy dL_law_609 lkL_100 (by decide) ⟨by decide, _, rfl, rfl⟩ rfl rfl rfl (Nat.le_of_ble_eq_true rfl) (fun v h1 hq => ?_)
  obtain ⟨rfl, hz⟩ := hq
  refine sw_icmp_eq (tgt := 891) dL_law_612 (by decide) (fun hc => ?_) (fun hc => ?_)
  · exact k _ hz
  · exact absurd rfl hc
theorem l_ray {M t : Nat} {xs : Nat → Int32} {h : Hp} (hM : M ≤ 3072) (ht : 6 * t + 6 ≤ M) (hI : Inv h t) (k : ∀ f, Inv f (t + 1) → SW jL_law (EL M xs) ZL 891 (LL4 t) [] f) : SW jL_law (EL M xs) ZL 617 (LL4 t) [] h := by
  obtain ⟨x, hx⟩ := b_ray (xs (6 * t + 1)) (xs (6 * t + 2)) (xs (6 * t + 3)) h t (by omega) hI
  refine sw_aload_n dL_law_617 rfl ?_
  refine sw_aload_n dL_law_618 rfl ?_
  refine sw_iload_n dL_law_619 rfl ?_
  refine sw_iconst (v := nI 1) dL_law_620 (by decide) ?_
  first | refine sw_iaddN dL_law_621 ?_ | refine sw_iadd dL_law_621 ?_
  refine sw_sld dL_law_622 hM (by omega) ?_
  refine sw_aload_n dL_law_623 rfl ?_
  refine sw_iload_n dL_law_624 rfl ?_
  refine sw_iconst (v := nI 2) dL_law_625 (by decide) ?_
  first | refine sw_iaddN dL_law_626 ?_ | refine sw_iadd dL_law_626 ?_
  refine sw_sld dL_law_627 hM (by omega) ?_
  refine sw_aload_n dL_law_628 rfl ?_
  refine sw_iload_n dL_law_629 rfl ?_
  refine sw_iconst (v := nI 3) dL_law_630 (by decide) ?_
  first | refine sw_iaddN dL_law_631 ?_ | refine sw_iadd dL_law_631 ?_
  refine sw_sld dL_law_632 hM (by omega) ?_
  refine sw_callV (i := 0) hx dL_law_633 lkL_101 (by decide) ⟨by decide, _, rfl, rfl⟩ rfl rfl rfl (Nat.le_of_ble_eq_true rfl) (fun v h1 hq => ?_)
  obtain ⟨rfl, hy⟩ := hq
  refine sw_aload_n dL_law_636 rfl ?_
  refine sw_aload_n dL_law_637 rfl ?_
  refine sw_iload_n dL_law_638 rfl ?_
  refine sw_iconst (v := nI 1) dL_law_639 (by decide) ?_
  first | refine sw_iaddN dL_law_640 ?_ | refine sw_iadd dL_law_640 ?_
  refine sw_sld dL_law_641 hM (by omega) ?_
  refine sw_aload_n dL_law_642 rfl ?_
  refine sw_iload_n dL_law_643 rfl ?_
  refine sw_iconst (v := nI 2) dL_law_644 (by decide) ?_
  first | refine sw_iaddN dL_law_645 ?_ | refine sw_iadd dL_law_645 ?_
  refine sw_sld dL_law_646 hM (by omega) ?_
  refine sw_aload_n dL_law_647 rfl ?_
  refine sw_iload_n dL_law_648 rfl ?_
  refine sw_iconst (v := nI 3) dL_law_649 (by decide) ?_
  first | refine sw_iaddN dL_law_650 ?_ | refine sw_iadd dL_law_650 ?_
  refine sw_sld dL_law_651 hM (by omega) ?_
  refine sw_callV (i := 0) hy dL_law_652 lkL_104 (by decide) ⟨by decide, _, rfl, rfl⟩ rfl rfl rfl (Nat.le_of_ble_eq_true rfl) (fun v h1 hq => ?_)
  obtain ⟨rfl, hz⟩ := hq
  refine sw_icmp_eq (tgt := 891) dL_law_655 (by decide) (fun hc => ?_) (fun hc => ?_)
  · exact k _ hz
  · exact absurd rfl hc
theorem l_cut {M t : Nat} {xs : Nat → Int32} {h : Hp} (hM : M ≤ 3072) (ht : 6 * t + 6 ≤ M) (hI : Inv h t) (k : ∀ f, Inv f (t + 1) → SW jL_law (EL M xs) ZL 891 (LL4 t) [] f) : SW jL_law (EL M xs) ZL 660 (LL4 t) [] h := by
  obtain ⟨x, hx⟩ := b_cut h t (by omega) hI
  refine sw_aload_n dL_law_660 rfl ?_
  refine sw_callV (i := 0) hx dL_law_661 lkL_105 (by decide) ⟨by decide, _, rfl, rfl⟩ rfl rfl rfl (Nat.le_of_ble_eq_true rfl) (fun v h1 hq => ?_)
  obtain ⟨rfl, hy⟩ := hq
  refine sw_aload_n dL_law_664 rfl ?_
  refine sw_callV (i := 0) hy dL_law_665 lkL_108 (by decide) ⟨by decide, _, rfl, rfl⟩ rfl rfl rfl (Nat.le_of_ble_eq_true rfl) (fun v h1 hq => ?_)
  obtain ⟨rfl, hz⟩ := hq
  refine sw_icmp_eq (tgt := 891) dL_law_668 (by decide) (fun hc => ?_) (fun hc => ?_)
  · exact k _ hz
  · exact absurd rfl hc
theorem l_square {M t : Nat} {xs : Nat → Int32} {h : Hp} (hM : M ≤ 3072) (ht : 6 * t + 6 ≤ M) (hI : Inv h t) (k : ∀ f, Inv f (t + 1) → SW jL_law (EL M xs) ZL 891 (LL4 t) [] f) : SW jL_law (EL M xs) ZL 673 (LL4 t) [] h := by
  obtain ⟨x, hx⟩ := b_square (xs (6 * t + 1)) h t (by omega) hI
  refine sw_aload_n dL_law_673 rfl ?_
  refine sw_aload_n dL_law_674 rfl ?_
  refine sw_iload_n dL_law_675 rfl ?_
  refine sw_iconst (v := nI 1) dL_law_676 (by decide) ?_
  first | refine sw_iaddN dL_law_677 ?_ | refine sw_iadd dL_law_677 ?_
  refine sw_sld dL_law_678 hM (by omega) ?_
  refine sw_callV (i := 0) hx dL_law_679 lkL_109 (by decide) ⟨by decide, _, rfl, rfl⟩ rfl rfl rfl (Nat.le_of_ble_eq_true rfl) (fun v h1 hq => ?_)
  obtain ⟨rfl, hy⟩ := hq
  refine sw_aload_n dL_law_682 rfl ?_
  refine sw_aload_n dL_law_683 rfl ?_
  refine sw_iload_n dL_law_684 rfl ?_
  refine sw_iconst (v := nI 1) dL_law_685 (by decide) ?_
  first | refine sw_iaddN dL_law_686 ?_ | refine sw_iadd dL_law_686 ?_
  refine sw_sld dL_law_687 hM (by omega) ?_
  refine sw_callV (i := 0) hy dL_law_688 lkL_112 (by decide) ⟨by decide, _, rfl, rfl⟩ rfl rfl rfl (Nat.le_of_ble_eq_true rfl) (fun v h1 hq => ?_)
  obtain ⟨rfl, hz⟩ := hq
  refine sw_icmp_eq (tgt := 891) dL_law_691 (by decide) (fun hc => ?_) (fun hc => ?_)
  · exact k _ hz
  · exact absurd rfl hc
theorem l_colours {M t : Nat} {xs : Nat → Int32} {h : Hp} (hM : M ≤ 3072) (ht : 6 * t + 6 ≤ M) (hI : Inv h t) (k : ∀ f, Inv f (t + 1) → SW jL_law (EL M xs) ZL 891 (LL4 t) [] f) : SW jL_law (EL M xs) ZL 696 (LL4 t) [] h := by
  obtain ⟨x, hx⟩ := b_colours (xs (6 * t + 1)) h t (by omega) hI
  refine sw_aload_n dL_law_696 rfl ?_
  refine sw_aload_n dL_law_697 rfl ?_
  refine sw_iload_n dL_law_698 rfl ?_
  refine sw_iconst (v := nI 1) dL_law_699 (by decide) ?_
  first | refine sw_iaddN dL_law_700 ?_ | refine sw_iadd dL_law_700 ?_
  refine sw_sld dL_law_701 hM (by omega) ?_
  refine sw_callV (i := 0) hx dL_law_702 lkL_113 (by decide) ⟨by decide, _, rfl, rfl⟩ rfl rfl rfl (Nat.le_of_ble_eq_true rfl) (fun v h1 hq => ?_)
  obtain ⟨rfl, hy⟩ := hq
  refine sw_aload_n dL_law_705 rfl ?_
  refine sw_aload_n dL_law_706 rfl ?_
  refine sw_iload_n dL_law_707 rfl ?_
  refine sw_iconst (v := nI 1) dL_law_708 (by decide) ?_
  first | refine sw_iaddN dL_law_709 ?_ | refine sw_iadd dL_law_709 ?_
  refine sw_sld dL_law_710 hM (by omega) ?_
  refine sw_callV (i := 0) hy dL_law_711 lkL_116 (by decide) ⟨by decide, _, rfl, rfl⟩ rfl rfl rfl (Nat.le_of_ble_eq_true rfl) (fun v h1 hq => ?_)
  obtain ⟨rfl, hz⟩ := hq
  refine sw_icmp_eq (tgt := 891) dL_law_714 (by decide) (fun hc => ?_) (fun hc => ?_)
  · exact k _ hz
  · exact absurd rfl hc
theorem l_sheet {M t : Nat} {xs : Nat → Int32} {h : Hp} (hM : M ≤ 3072) (ht : 6 * t + 6 ≤ M) (hI : Inv h t) (k : ∀ f, Inv f (t + 1) → SW jL_law (EL M xs) ZL 891 (LL4 t) [] f) : SW jL_law (EL M xs) ZL 719 (LL4 t) [] h := by
  obtain ⟨x, hx⟩ := b_sheet (xs (6 * t + 1)) (xs (6 * t + 2)) (xs (6 * t + 3)) h t (by omega) hI
  refine sw_aload_n dL_law_719 rfl ?_
  refine sw_aload_n dL_law_720 rfl ?_
  refine sw_iload_n dL_law_721 rfl ?_
  refine sw_iconst (v := nI 1) dL_law_722 (by decide) ?_
  first | refine sw_iaddN dL_law_723 ?_ | refine sw_iadd dL_law_723 ?_
  refine sw_sld dL_law_724 hM (by omega) ?_
  refine sw_aload_n dL_law_725 rfl ?_
  refine sw_iload_n dL_law_726 rfl ?_
  refine sw_iconst (v := nI 2) dL_law_727 (by decide) ?_
  first | refine sw_iaddN dL_law_728 ?_ | refine sw_iadd dL_law_728 ?_
  refine sw_sld dL_law_729 hM (by omega) ?_
  refine sw_aload_n dL_law_730 rfl ?_
  refine sw_iload_n dL_law_731 rfl ?_
  refine sw_iconst (v := nI 3) dL_law_732 (by decide) ?_
  first | refine sw_iaddN dL_law_733 ?_ | refine sw_iadd dL_law_733 ?_
  refine sw_sld dL_law_734 hM (by omega) ?_
  refine sw_callV (i := 0) hx dL_law_735 lkL_117 (by decide) ⟨by decide, _, rfl, rfl⟩ rfl rfl rfl (Nat.le_of_ble_eq_true rfl) (fun v h1 hq => ?_)
  obtain ⟨rfl, hy⟩ := hq
  refine sw_aload_n dL_law_738 rfl ?_
  refine sw_aload_n dL_law_739 rfl ?_
  refine sw_iload_n dL_law_740 rfl ?_
  refine sw_iconst (v := nI 1) dL_law_741 (by decide) ?_
  first | refine sw_iaddN dL_law_742 ?_ | refine sw_iadd dL_law_742 ?_
  refine sw_sld dL_law_743 hM (by omega) ?_
  refine sw_aload_n dL_law_744 rfl ?_
  refine sw_iload_n dL_law_745 rfl ?_
  refine sw_iconst (v := nI 2) dL_law_746 (by decide) ?_
  first | refine sw_iaddN dL_law_747 ?_ | refine sw_iadd dL_law_747 ?_
  refine sw_sld dL_law_748 hM (by omega) ?_
  refine sw_aload_n dL_law_749 rfl ?_
  refine sw_iload_n dL_law_750 rfl ?_
  refine sw_iconst (v := nI 3) dL_law_751 (by decide) ?_
  first | refine sw_iaddN dL_law_752 ?_ | refine sw_iadd dL_law_752 ?_
  refine sw_sld dL_law_753 hM (by omega) ?_
  refine sw_callV (i := 0) hy dL_law_754 lkL_120 (by decide) ⟨by decide, _, rfl, rfl⟩ rfl rfl rfl (Nat.le_of_ble_eq_true rfl) (fun v h1 hq => ?_)
  obtain ⟨rfl, hz⟩ := hq
  refine sw_icmp_eq (tgt := 891) dL_law_757 (by decide) (fun hc => ?_) (fun hc => ?_)
  · exact k _ hz
  · exact absurd rfl hc
theorem l_lay {M t : Nat} {xs : Nat → Int32} {h : Hp} (hM : M ≤ 3072) (ht : 6 * t + 6 ≤ M) (hI : Inv h t) (k : ∀ f, Inv f (t + 1) → SW jL_law (EL M xs) ZL 891 (LL4 t) [] f) : SW jL_law (EL M xs) ZL 762 (LL4 t) [] h := by
  obtain ⟨x, hx⟩ := b_lay (xs (6 * t + 1)) (xs (6 * t + 2)) (xs (6 * t + 3)) h t (by omega) hI
  refine sw_aload_n dL_law_762 rfl ?_
  refine sw_aload_n dL_law_763 rfl ?_
  refine sw_iload_n dL_law_764 rfl ?_
  refine sw_iconst (v := nI 1) dL_law_765 (by decide) ?_
  first | refine sw_iaddN dL_law_766 ?_ | refine sw_iadd dL_law_766 ?_
  refine sw_sld dL_law_767 hM (by omega) ?_
  refine sw_aload_n dL_law_768 rfl ?_
  refine sw_iload_n dL_law_769 rfl ?_
  refine sw_iconst (v := nI 2) dL_law_770 (by decide) ?_
  first | refine sw_iaddN dL_law_771 ?_ | refine sw_iadd dL_law_771 ?_
  refine sw_sld dL_law_772 hM (by omega) ?_
  refine sw_aload_n dL_law_773 rfl ?_
  refine sw_iload_n dL_law_774 rfl ?_
  refine sw_iconst (v := nI 3) dL_law_775 (by decide) ?_
  first | refine sw_iaddN dL_law_776 ?_ | refine sw_iadd dL_law_776 ?_
  refine sw_sld dL_law_777 hM (by omega) ?_
  refine sw_callV (i := 0) hx dL_law_778 lkL_121 (by decide) ⟨by decide, _, rfl, rfl⟩ rfl rfl rfl (Nat.le_of_ble_eq_true rfl) (fun v h1 hq => ?_)
  obtain ⟨rfl, hy⟩ := hq
  refine sw_aload_n dL_law_781 rfl ?_
  refine sw_aload_n dL_law_782 rfl ?_
  refine sw_iload_n dL_law_783 rfl ?_
  refine sw_iconst (v := nI 1) dL_law_784 (by decide) ?_
  first | refine sw_iaddN dL_law_785 ?_ | refine sw_iadd dL_law_785 ?_
  refine sw_sld dL_law_786 hM (by omega) ?_
  refine sw_aload_n dL_law_787 rfl ?_
  refine sw_iload_n dL_law_788 rfl ?_
  refine sw_iconst (v := nI 2) dL_law_789 (by decide) ?_
  first | refine sw_iaddN dL_law_790 ?_ | refine sw_iadd dL_law_790 ?_
  refine sw_sld dL_law_791 hM (by omega) ?_
  refine sw_aload_n dL_law_792 rfl ?_
  refine sw_iload_n dL_law_793 rfl ?_
  refine sw_iconst (v := nI 3) dL_law_794 (by decide) ?_
  first | refine sw_iaddN dL_law_795 ?_ | refine sw_iadd dL_law_795 ?_
  refine sw_sld dL_law_796 hM (by omega) ?_
  refine sw_callV (i := 0) hy dL_law_797 lkL_124 (by decide) ⟨by decide, _, rfl, rfl⟩ rfl rfl rfl (Nat.le_of_ble_eq_true rfl) (fun v h1 hq => ?_)
  obtain ⟨rfl, hz⟩ := hq
  refine sw_icmp_eq (tgt := 891) dL_law_800 (by decide) (fun hc => ?_) (fun hc => ?_)
  · exact k _ hz
  · exact absurd rfl hc
theorem l_draw {M t : Nat} {xs : Nat → Int32} {h : Hp} (hM : M ≤ 3072) (ht : 6 * t + 6 ≤ M) (hI : Inv h t) (k : ∀ f, Inv f (t + 1) → SW jL_law (EL M xs) ZL 891 (LL4 t) [] f) : SW jL_law (EL M xs) ZL 805 (LL4 t) [] h := by
  obtain ⟨x, hx⟩ := b_draw (xs (6 * t + 1)) (xs (6 * t + 2)) (xs (6 * t + 3)) (xs (6 * t + 4)) (xs (6 * t + 5)) h t (by omega) hI
  refine sw_aload_n dL_law_805 rfl ?_
  refine sw_aload_n dL_law_806 rfl ?_
  refine sw_iload_n dL_law_807 rfl ?_
  refine sw_iconst (v := nI 1) dL_law_808 (by decide) ?_
  first | refine sw_iaddN dL_law_809 ?_ | refine sw_iadd dL_law_809 ?_
  refine sw_sld dL_law_810 hM (by omega) ?_
  refine sw_aload_n dL_law_811 rfl ?_
  refine sw_iload_n dL_law_812 rfl ?_
  refine sw_iconst (v := nI 2) dL_law_813 (by decide) ?_
  first | refine sw_iaddN dL_law_814 ?_ | refine sw_iadd dL_law_814 ?_
  refine sw_sld dL_law_815 hM (by omega) ?_
  refine sw_aload_n dL_law_816 rfl ?_
  refine sw_iload_n dL_law_817 rfl ?_
  refine sw_iconst (v := nI 3) dL_law_818 (by decide) ?_
  first | refine sw_iaddN dL_law_819 ?_ | refine sw_iadd dL_law_819 ?_
  refine sw_sld dL_law_820 hM (by omega) ?_
  refine sw_aload_n dL_law_821 rfl ?_
  refine sw_iload_n dL_law_822 rfl ?_
  refine sw_iconst (v := nI 4) dL_law_823 (by decide) ?_
  first | refine sw_iaddN dL_law_824 ?_ | refine sw_iadd dL_law_824 ?_
  refine sw_sld dL_law_825 hM (by omega) ?_
  refine sw_aload_n dL_law_826 rfl ?_
  refine sw_iload_n dL_law_827 rfl ?_
  refine sw_iconst (v := nI 5) dL_law_828 (by decide) ?_
  first | refine sw_iaddN dL_law_829 ?_ | refine sw_iadd dL_law_829 ?_
  refine sw_sld dL_law_830 hM (by omega) ?_
  refine sw_callV (i := 0) hx dL_law_831 lkL_125 (by decide) ⟨by decide, _, rfl, rfl⟩ rfl rfl rfl (Nat.le_of_ble_eq_true rfl) (fun v h1 hq => ?_)
  obtain ⟨rfl, hy⟩ := hq
  refine sw_aload_n dL_law_834 rfl ?_
  refine sw_aload_n dL_law_835 rfl ?_
  refine sw_iload_n dL_law_836 rfl ?_
  refine sw_iconst (v := nI 1) dL_law_837 (by decide) ?_
  first | refine sw_iaddN dL_law_838 ?_ | refine sw_iadd dL_law_838 ?_
  refine sw_sld dL_law_839 hM (by omega) ?_
  refine sw_aload_n dL_law_840 rfl ?_
  refine sw_iload_n dL_law_841 rfl ?_
  refine sw_iconst (v := nI 2) dL_law_842 (by decide) ?_
  first | refine sw_iaddN dL_law_843 ?_ | refine sw_iadd dL_law_843 ?_
  refine sw_sld dL_law_844 hM (by omega) ?_
  refine sw_aload_n dL_law_845 rfl ?_
  refine sw_iload_n dL_law_846 rfl ?_
  refine sw_iconst (v := nI 3) dL_law_847 (by decide) ?_
  first | refine sw_iaddN dL_law_848 ?_ | refine sw_iadd dL_law_848 ?_
  refine sw_sld dL_law_849 hM (by omega) ?_
  refine sw_aload_n dL_law_850 rfl ?_
  refine sw_iload_n dL_law_851 rfl ?_
  refine sw_iconst (v := nI 4) dL_law_852 (by decide) ?_
  first | refine sw_iaddN dL_law_853 ?_ | refine sw_iadd dL_law_853 ?_
  refine sw_sld dL_law_854 hM (by omega) ?_
  refine sw_aload_n dL_law_855 rfl ?_
  refine sw_iload_n dL_law_856 rfl ?_
  refine sw_iconst (v := nI 5) dL_law_857 (by decide) ?_
  first | refine sw_iaddN dL_law_858 ?_ | refine sw_iadd dL_law_858 ?_
  refine sw_sld dL_law_859 hM (by omega) ?_
  refine sw_callV (i := 0) hy dL_law_860 lkL_129 (by decide) ⟨by decide, _, rfl, rfl⟩ rfl rfl rfl (Nat.le_of_ble_eq_true rfl) (fun v h1 hq => ?_)
  obtain ⟨rfl, hz⟩ := hq
  refine sw_icmp_eq (tgt := 891) dL_law_863 (by decide) (fun hc => ?_) (fun hc => ?_)
  · exact k _ hz
  · exact absurd rfl hc
theorem l_count {M t : Nat} {xs : Nat → Int32} {h : Hp} (hM : M ≤ 3072) (ht : 6 * t + 6 ≤ M) (hI : Inv h t) (k : ∀ f, Inv f (t + 1) → SW jL_law (EL M xs) ZL 891 (LL4 t) [] f) : SW jL_law (EL M xs) ZL 868 (LL4 t) [] h := by
  obtain ⟨x, hx⟩ := b_count (xs (6 * t + 1)) h t (by omega) hI
  refine sw_aload_n dL_law_868 rfl ?_
  refine sw_aload_n dL_law_869 rfl ?_
  refine sw_iload_n dL_law_870 rfl ?_
  refine sw_iconst (v := nI 1) dL_law_871 (by decide) ?_
  first | refine sw_iaddN dL_law_872 ?_ | refine sw_iadd dL_law_872 ?_
  refine sw_sld dL_law_873 hM (by omega) ?_
  refine sw_callV (i := 0) hx dL_law_874 lkL_130 (by decide) ⟨by decide, _, rfl, rfl⟩ rfl rfl rfl (Nat.le_of_ble_eq_true rfl) (fun v h1 hq => ?_)
  obtain ⟨rfl, hy⟩ := hq
  refine sw_aload_n dL_law_877 rfl ?_
  refine sw_aload_n dL_law_878 rfl ?_
  refine sw_iload_n dL_law_879 rfl ?_
  refine sw_iconst (v := nI 1) dL_law_880 (by decide) ?_
  first | refine sw_iaddN dL_law_881 ?_ | refine sw_iadd dL_law_881 ?_
  refine sw_sld dL_law_882 hM (by omega) ?_
  refine sw_callV (i := 0) hy dL_law_883 lkL_133 (by decide) ⟨by decide, _, rfl, rfl⟩ rfl rfl rfl (Nat.le_of_ble_eq_true rfl) (fun v h1 hq => ?_)
  obtain ⟨rfl, hz⟩ := hq
  refine sw_icmp_eq (tgt := 891) dL_law_886 (by decide) (fun hc => ?_) (fun hc => ?_)
  · exact k _ hz
  · exact absurd rfl hc
theorem l_body {M t : Nat} {xs : Nat → Int32} {h : Hp} (hM : M ≤ 3072) (ht : 6 * t + 6 ≤ M) (hI : Inv h t) (k : ∀ f, Inv f (t + 1) → SW jL_law (EL M xs) ZL 891 (LL4 t) [] f) : SW jL_law (EL M xs) ZL 27 (LL4 t) [] h := by
  refine sw_aload_n dL_law_27 rfl ?_
  refine sw_iload_n dL_law_28 rfl ?_
  refine sw_sld dL_law_29 hM (by omega) ?_
  refine sw_bipush (v := nI 31) dL_law_30 (by decide) ?_
  refine sw_iand dL_law_32 ?_
  obtain ⟨v, hv, e⟩ := and31 (xs (6 * t))
  rw [e]
  clear e
  by_cases hv2 : 28 < v
  · refine sw_tabOut (tgt := 891) dL_law_33 (Or.inr (by rw [t_N (by omega)]; omega)) (by decide) ?_
    exact k h hI.up
  · rcases (show v = 0 ∨ v = 1 ∨ v = 2 ∨ v = 3 ∨ v = 4 ∨ v = 5 ∨ v = 6 ∨ v = 7 ∨ v = 8 ∨ v = 9 ∨ v = 10 ∨ v = 11 ∨ v = 12 ∨ v = 13 ∨ v = 14 ∨ v = 15 ∨ v = 16 ∨ v = 17 ∨ v = 18 ∨ v = 19 ∨ v = 20 ∨ v = 21 ∨ v = 22 ∨ v = 23 ∨ v = 24 ∨ v = 25 ∨ v = 26 ∨ v = 27 ∨ v = 28 by omega) with rfl | rfl | rfl | rfl | rfl | rfl | rfl | rfl | rfl | rfl | rfl | rfl | rfl | rfl | rfl | rfl | rfl | rfl | rfl | rfl | rfl | rfl | rfl | rfl | rfl | rfl | rfl | rfl | rfl
    · refine sw_tabIn (off := 131) (tgt := 164) dL_law_33 (by decide) (by decide) (by decide) (by decide) ?_
      exact l_looks hM ht hI k
    · refine sw_tabIn (off := 154) (tgt := 187) dL_law_33 (by decide) (by decide) (by decide) (by decide) ?_
      exact l_put hM ht hI k
    · refine sw_tabIn (off := 177) (tgt := 210) dL_law_33 (by decide) (by decide) (by decide) (by decide) ?_
      exact l_drop hM ht hI k
    · refine sw_tabIn (off := 190) (tgt := 223) dL_law_33 (by decide) (by decide) (by decide) (by decide) ?_
      exact l_told hM ht hI k
    · refine sw_tabIn (off := 223) (tgt := 256) dL_law_33 (by decide) (by decide) (by decide) (by decide) ?_
      exact l_weight hM ht hI k
    · refine sw_tabIn (off := 266) (tgt := 299) dL_law_33 (by decide) (by decide) (by decide) (by decide) ?_
      exact l_stake hM ht hI k
    · refine sw_tabIn (off := 309) (tgt := 342) dL_law_33 (by decide) (by decide) (by decide) (by decide) ?_
      exact l_parity hM ht hI k
    · refine sw_tabIn (off := 342) (tgt := 375) dL_law_33 (by decide) (by decide) (by decide) (by decide) ?_
      exact l_joint hM ht hI k
    · refine sw_tabIn (off := 375) (tgt := 408) dL_law_33 (by decide) (by decide) (by decide) (by decide) ?_
      exact l_agrees hM ht hI k
    · refine sw_tabIn (off := 388) (tgt := 421) dL_law_33 (by decide) (by decide) (by decide) (by decide) ?_
      exact l_quarrel hM ht hI k
    · refine sw_tabIn (off := 401) (tgt := 434) dL_law_33 (by decide) (by decide) (by decide) (by decide) ?_
      exact l_possible hM ht hI k
    · refine sw_tabIn (off := 424) (tgt := 457) dL_law_33 (by decide) (by decide) (by decide) (by decide) ?_
      exact l_lost hM ht hI k
    · refine sw_tabIn (off := 447) (tgt := 480) dL_law_33 (by decide) (by decide) (by decide) (by decide) ?_
      exact l_bound hM ht hI k
    · refine sw_tabIn (off := 460) (tgt := 493) dL_law_33 (by decide) (by decide) (by decide) (by decide) ?_
      exact l_best hM ht hI k
    · refine sw_tabIn (off := 473) (tgt := 506) dL_law_33 (by decide) (by decide) (by decide) (by decide) ?_
      exact l_worth hM ht hI k
    · refine sw_tabIn (off := 486) (tgt := 519) dL_law_33 (by decide) (by decide) (by decide) (by decide) ?_
      exact l_beyond hM ht hI k
    · refine sw_tabIn (off := 499) (tgt := 532) dL_law_33 (by decide) (by decide) (by decide) (by decide) ?_
      exact l_parted hM ht hI k
    · refine sw_tabIn (off := 512) (tgt := 545) dL_law_33 (by decide) (by decide) (by decide) (by decide) ?_
      exact l_part hM ht hI k
    · refine sw_tabIn (off := 535) (tgt := 568) dL_law_33 (by decide) (by decide) (by decide) (by decide) ?_
      exact l_mix hM ht hI k
    · refine sw_tabIn (off := 558) (tgt := 591) dL_law_33 (by decide) (by decide) (by decide) (by decide) ?_
      exact l_fulfil hM ht hI k
    · refine sw_tabIn (off := 571) (tgt := 604) dL_law_33 (by decide) (by decide) (by decide) (by decide) ?_
      exact l_proof hM ht hI k
    · refine sw_tabIn (off := 584) (tgt := 617) dL_law_33 (by decide) (by decide) (by decide) (by decide) ?_
      exact l_ray hM ht hI k
    · refine sw_tabIn (off := 627) (tgt := 660) dL_law_33 (by decide) (by decide) (by decide) (by decide) ?_
      exact l_cut hM ht hI k
    · refine sw_tabIn (off := 640) (tgt := 673) dL_law_33 (by decide) (by decide) (by decide) (by decide) ?_
      exact l_square hM ht hI k
    · refine sw_tabIn (off := 663) (tgt := 696) dL_law_33 (by decide) (by decide) (by decide) (by decide) ?_
      exact l_colours hM ht hI k
    · refine sw_tabIn (off := 686) (tgt := 719) dL_law_33 (by decide) (by decide) (by decide) (by decide) ?_
      exact l_sheet hM ht hI k
    · refine sw_tabIn (off := 729) (tgt := 762) dL_law_33 (by decide) (by decide) (by decide) (by decide) ?_
      exact l_lay hM ht hI k
    · refine sw_tabIn (off := 772) (tgt := 805) dL_law_33 (by decide) (by decide) (by decide) (by decide) ?_
      exact l_draw hM ht hI k
    · refine sw_tabIn (off := 835) (tgt := 868) dL_law_33 (by decide) (by decide) (by decide) (by decide) ?_
      exact l_count hM ht hI k
