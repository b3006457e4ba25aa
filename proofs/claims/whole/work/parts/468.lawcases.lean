/-! THE LAW'S CASES: one call of each object, both answers alike -/
/-- the law's locals in its loop -/
abbrev lj_ls (i : Int) : List (Option jm_V) := [none, some (jm_R 0), some (jm_R 78), some (jm_I i)]
section LC
variable {E : jm_Env} {p : Program} {e : Env} {s : State} {m : MethodId} {below : List Frame} {meth : Method} {c : Code} {b L : Nat} {xs : Nat → Int32} {h : jm_H} {n : Nat} {i : Int}
set_option maxRecDepth 20000 in
theorem lj_c0 (C0 : lj_C E p s m meth c b L xs) (hL : L ≤ 3072) (hc : n ≤ 1000) (hi : 0 ≤ i ∧ i + 5 < L) (hI : I_ n h) (K : ∀ h2, I_ (n + 1) h2 → lj_G E p e s m below meth c b 115 3612 884 (lj_ls i) [] jm_SH h2) : lj_G E p e s m below meth c b 115 3612 160 (lj_ls i) [] jm_SH h := by
  refine lj_aload C0 ld_160 rfl rfl ?_
  refine lj_arg (k := 1) C0 hL ld_161 ld_162 ld_163 ld_164 ld_165 rfl hi (by decide) ?_
  refine lj_invV (M' := jm_m_Top_say) (d' := 1) (r := 0) (st := []) (av := [jm_I (xs (i + 1).toNat).toInt]) C0 ld_166 jk_Top_say jw_393 rfl (by decide) (by decide) (Nat.le_of_ble_eq_true rfl) rfl rfl rfl ?_
  refine jm_Call.mono (fun r sh1 h1 q => ?_) (st_say h hI)
  obtain ⟨rfl, v1, rfl, q⟩ := q
  refine lj_aload C0 ld_169 rfl rfl ?_
  refine lj_arg (k := 1) C0 hL ld_170 ld_171 ld_172 ld_173 ld_174 rfl hi (by decide) ?_
  refine lj_invV (M' := jm_m_Mod_say) (d' := 1) (r := 78) (st := [jm_I v1]) (av := [jm_I (xs (i + 1).toNat).toInt]) C0 ld_175 jk_Mod_say jw_972 rfl (by decide) (by decide) (Nat.le_of_ble_eq_true rfl) rfl rfl rfl ?_
  refine jm_Call.mono (fun r sh2 h2 q2 => ?_) q
  obtain ⟨rfl, v2, rfl, rfl, hI2⟩ := q2
  exact lj_same (st := []) C0 ld_178 (by decide) (K h2 hI2)
set_option maxRecDepth 20000 in
theorem lj_c1 (C0 : lj_C E p s m meth c b L xs) (hL : L ≤ 3072) (hc : n ≤ 1000) (hi : 0 ≤ i ∧ i + 5 < L) (hI : I_ n h) (K : ∀ h2, I_ (n + 1) h2 → lj_G E p e s m below meth c b 115 3612 884 (lj_ls i) [] jm_SH h2) : lj_G E p e s m below meth c b 115 3612 183 (lj_ls i) [] jm_SH h := by
  refine lj_aload C0 ld_183 rfl rfl ?_
  refine lj_invV (M' := jm_m_Top_wipe) (d' := 0) (r := 0) (st := []) (av := []) C0 ld_184 jk_Top_wipe jw_401 rfl (by decide) (by decide) (Nat.le_of_ble_eq_true rfl) rfl rfl rfl ?_
  refine jm_Call.mono (fun r sh1 h1 q => ?_) (st_wipe h hI)
  obtain ⟨rfl, v1, rfl, q⟩ := q
  refine lj_aload C0 ld_187 rfl rfl ?_
  refine lj_invV (M' := jm_m_Mod_wipe) (d' := 0) (r := 78) (st := [jm_I v1]) (av := []) C0 ld_188 jk_Mod_wipe jw_981 rfl (by decide) (by decide) (Nat.le_of_ble_eq_true rfl) rfl rfl rfl ?_
  refine jm_Call.mono (fun r sh2 h2 q2 => ?_) q
  obtain ⟨rfl, v2, rfl, rfl, hI2⟩ := q2
  exact lj_same (st := []) C0 ld_191 (by decide) (K h2 hI2)
set_option maxRecDepth 20000 in
theorem lj_c2 (C0 : lj_C E p s m meth c b L xs) (hL : L ≤ 3072) (hc : n ≤ 1000) (hi : 0 ≤ i ∧ i + 5 < L) (hI : I_ n h) (K : ∀ h2, I_ (n + 1) h2 → lj_G E p e s m below meth c b 115 3612 884 (lj_ls i) [] jm_SH h2) : lj_G E p e s m below meth c b 115 3612 196 (lj_ls i) [] jm_SH h := by
  refine lj_aload C0 ld_196 rfl rfl ?_
  refine lj_invV (M' := jm_m_Top_fault) (d' := 4) (r := 0) (st := []) (av := []) C0 ld_197 jk_Top_fault jw_405 rfl (by decide) (by decide) (Nat.le_of_ble_eq_true rfl) rfl rfl rfl ?_
  refine jm_Call.mono (fun r sh1 h1 q => ?_) (st_fault h hI)
  obtain ⟨rfl, v1, rfl, q⟩ := q
  refine lj_aload C0 ld_200 rfl rfl ?_
  refine lj_invV (M' := jm_m_Mod_fault) (d' := 4) (r := 78) (st := [jm_I v1]) (av := []) C0 ld_201 jk_Mod_fault jw_985 rfl (by decide) (by decide) (Nat.le_of_ble_eq_true rfl) rfl rfl rfl ?_
  refine jm_Call.mono (fun r sh2 h2 q2 => ?_) q
  obtain ⟨rfl, v2, rfl, rfl, hI2⟩ := q2
  exact lj_same (st := []) C0 ld_204 (by decide) (K h2 hI2)
set_option maxRecDepth 20000 in
theorem lj_c3 (C0 : lj_C E p s m meth c b L xs) (hL : L ≤ 3072) (hc : n ≤ 1000) (hi : 0 ≤ i ∧ i + 5 < L) (hI : I_ n h) (K : ∀ h2, I_ (n + 1) h2 → lj_G E p e s m below meth c b 115 3612 884 (lj_ls i) [] jm_SH h2) : lj_G E p e s m below meth c b 115 3612 209 (lj_ls i) [] jm_SH h := by
  refine lj_aload C0 ld_209 rfl rfl ?_
  refine lj_invV (M' := jm_m_Top_read) (d' := 4) (r := 0) (st := []) (av := []) C0 ld_210 jk_Top_read jw_439 rfl (by decide) (by decide) (Nat.le_of_ble_eq_true rfl) rfl rfl rfl ?_
  refine jm_Call.mono (fun r sh1 h1 q => ?_) (st_read h hI)
  obtain ⟨rfl, v1, rfl, q⟩ := q
  refine lj_aload C0 ld_213 rfl rfl ?_
  refine lj_invV (M' := jm_m_Mod_read) (d' := 4) (r := 78) (st := [jm_I v1]) (av := []) C0 ld_214 jk_Mod_read jw_1017 rfl (by decide) (by decide) (Nat.le_of_ble_eq_true rfl) rfl rfl rfl ?_
  refine jm_Call.mono (fun r sh2 h2 q2 => ?_) q
  obtain ⟨rfl, v2, rfl, rfl, hI2⟩ := q2
  exact lj_same (st := []) C0 ld_217 (by decide) (K h2 hI2)
set_option maxRecDepth 20000 in
theorem lj_c4 (C0 : lj_C E p s m meth c b L xs) (hL : L ≤ 3072) (hc : n ≤ 1000) (hi : 0 ≤ i ∧ i + 5 < L) (hI : I_ n h) (K : ∀ h2, I_ (n + 1) h2 → lj_G E p e s m below meth c b 115 3612 884 (lj_ls i) [] jm_SH h2) : lj_G E p e s m below meth c b 115 3612 222 (lj_ls i) [] jm_SH h := by
  refine lj_aload C0 ld_222 rfl rfl ?_
  refine lj_arg (k := 1) C0 hL ld_223 ld_224 ld_225 ld_226 ld_227 rfl hi (by decide) ?_
  refine lj_arg (k := 2) C0 hL ld_228 ld_229 ld_230 ld_231 ld_232 rfl hi (by decide) ?_
  refine lj_invV (M' := jm_m_Top_node) (d' := 1) (r := 0) (st := []) (av := [jm_I (xs (i + 1).toNat).toInt, jm_I (xs (i + 2).toNat).toInt]) C0 ld_233 jk_Top_node jw_466 rfl (by decide) (by decide) (Nat.le_of_ble_eq_true rfl) rfl rfl rfl ?_
  refine jm_Call.mono (fun r sh1 h1 q => ?_) (st_node h hI)
  obtain ⟨rfl, v1, rfl, q⟩ := q
  refine lj_aload C0 ld_236 rfl rfl ?_
  refine lj_arg (k := 1) C0 hL ld_237 ld_238 ld_239 ld_240 ld_241 rfl hi (by decide) ?_
  refine lj_arg (k := 2) C0 hL ld_242 ld_243 ld_244 ld_245 ld_246 rfl hi (by decide) ?_
  refine lj_invV (M' := jm_m_Mod_node) (d' := 3) (r := 78) (st := [jm_I v1]) (av := [jm_I (xs (i + 1).toNat).toInt, jm_I (xs (i + 2).toNat).toInt]) C0 ld_247 jk_Mod_node jw_1021 rfl (by decide) (by decide) (Nat.le_of_ble_eq_true rfl) rfl rfl rfl ?_
  refine jm_Call.mono (fun r sh2 h2 q2 => ?_) q
  obtain ⟨rfl, v2, rfl, rfl, hI2⟩ := q2
  exact lj_same (st := []) C0 ld_250 (by decide) (K h2 hI2)
set_option maxRecDepth 20000 in
theorem lj_c5 (C0 : lj_C E p s m meth c b L xs) (hL : L ≤ 3072) (hc : n ≤ 1000) (hi : 0 ≤ i ∧ i + 5 < L) (hI : I_ n h) (K : ∀ h2, I_ (n + 1) h2 → lj_G E p e s m below meth c b 115 3612 884 (lj_ls i) [] jm_SH h2) : lj_G E p e s m below meth c b 115 3612 255 (lj_ls i) [] jm_SH h := by
  refine lj_aload C0 ld_255 rfl rfl ?_
  refine lj_arg (k := 1) C0 hL ld_256 ld_257 ld_258 ld_259 ld_260 rfl hi (by decide) ?_
  refine lj_arg (k := 2) C0 hL ld_261 ld_262 ld_263 ld_264 ld_265 rfl hi (by decide) ?_
  refine lj_invV (M' := jm_m_Top_pattern) (d' := 5) (r := 0) (st := []) (av := [jm_I (xs (i + 1).toNat).toInt, jm_I (xs (i + 2).toNat).toInt]) C0 ld_266 jk_Top_pattern jw_475 rfl (by decide) (by decide) (Nat.le_of_ble_eq_true rfl) rfl rfl rfl ?_
  refine jm_Call.mono (fun r sh1 h1 q => ?_) (st_pattern h hI)
  obtain ⟨rfl, v1, rfl, q⟩ := q
  refine lj_aload C0 ld_269 rfl rfl ?_
  refine lj_arg (k := 1) C0 hL ld_270 ld_271 ld_272 ld_273 ld_274 rfl hi (by decide) ?_
  refine lj_arg (k := 2) C0 hL ld_275 ld_276 ld_277 ld_278 ld_279 rfl hi (by decide) ?_
  refine lj_invV (M' := jm_m_Mod_pattern) (d' := 4) (r := 78) (st := [jm_I v1]) (av := [jm_I (xs (i + 1).toNat).toInt, jm_I (xs (i + 2).toNat).toInt]) C0 ld_280 jk_Mod_pattern jw_1037 rfl (by decide) (by decide) (Nat.le_of_ble_eq_true rfl) rfl rfl rfl ?_
  refine jm_Call.mono (fun r sh2 h2 q2 => ?_) q
  obtain ⟨rfl, v2, rfl, rfl, hI2⟩ := q2
  exact lj_same (st := []) C0 ld_283 (by decide) (K h2 hI2)
set_option maxRecDepth 20000 in
theorem lj_c6 (C0 : lj_C E p s m meth c b L xs) (hL : L ≤ 3072) (hc : n ≤ 1000) (hi : 0 ≤ i ∧ i + 5 < L) (hI : I_ n h) (K : ∀ h2, I_ (n + 1) h2 → lj_G E p e s m below meth c b 115 3612 884 (lj_ls i) [] jm_SH h2) : lj_G E p e s m below meth c b 115 3612 288 (lj_ls i) [] jm_SH h := by
  refine lj_aload C0 ld_288 rfl rfl ?_
  refine lj_arg (k := 1) C0 hL ld_289 ld_290 ld_291 ld_292 ld_293 rfl hi (by decide) ?_
  refine lj_arg (k := 2) C0 hL ld_294 ld_295 ld_296 ld_297 ld_298 rfl hi (by decide) ?_
  refine lj_invV (M' := jm_m_Top_price) (d' := 1) (r := 0) (st := []) (av := [jm_I (xs (i + 1).toNat).toInt, jm_I (xs (i + 2).toNat).toInt]) C0 ld_299 jk_Top_price jw_499 rfl (by decide) (by decide) (Nat.le_of_ble_eq_true rfl) rfl rfl rfl ?_
  refine jm_Call.mono (fun r sh1 h1 q => ?_) (st_price h hI)
  obtain ⟨rfl, v1, rfl, q⟩ := q
  refine lj_aload C0 ld_302 rfl rfl ?_
  refine lj_arg (k := 1) C0 hL ld_303 ld_304 ld_305 ld_306 ld_307 rfl hi (by decide) ?_
  refine lj_arg (k := 2) C0 hL ld_308 ld_309 ld_310 ld_311 ld_312 rfl hi (by decide) ?_
  refine lj_invV (M' := jm_m_Mod_price) (d' := 1) (r := 78) (st := [jm_I v1]) (av := [jm_I (xs (i + 1).toNat).toInt, jm_I (xs (i + 2).toNat).toInt]) C0 ld_313 jk_Mod_price jw_1048 rfl (by decide) (by decide) (Nat.le_of_ble_eq_true rfl) rfl rfl rfl ?_
  refine jm_Call.mono (fun r sh2 h2 q2 => ?_) q
  obtain ⟨rfl, v2, rfl, rfl, hI2⟩ := q2
  exact lj_same (st := []) C0 ld_316 (by decide) (K h2 hI2)
set_option maxRecDepth 20000 in
theorem lj_c7 (C0 : lj_C E p s m meth c b L xs) (hL : L ≤ 3072) (hc : n ≤ 1000) (hi : 0 ≤ i ∧ i + 5 < L) (hI : I_ n h) (K : ∀ h2, I_ (n + 1) h2 → lj_G E p e s m below meth c b 115 3612 884 (lj_ls i) [] jm_SH h2) : lj_G E p e s m below meth c b 115 3612 321 (lj_ls i) [] jm_SH h := by
  refine lj_aload C0 ld_321 rfl rfl ?_
  refine lj_invV (M' := jm_m_Top_clear) (d' := 0) (r := 0) (st := []) (av := []) C0 ld_322 jk_Top_clear jw_503 rfl (by decide) (by decide) (Nat.le_of_ble_eq_true rfl) rfl rfl rfl ?_
  refine jm_Call.mono (fun r sh1 h1 q => ?_) (st_clear h hI)
  obtain ⟨rfl, v1, rfl, q⟩ := q
  refine lj_aload C0 ld_325 rfl rfl ?_
  refine lj_invV (M' := jm_m_Mod_clear) (d' := 0) (r := 78) (st := [jm_I v1]) (av := []) C0 ld_326 jk_Mod_clear jw_1052 rfl (by decide) (by decide) (Nat.le_of_ble_eq_true rfl) rfl rfl rfl ?_
  refine jm_Call.mono (fun r sh2 h2 q2 => ?_) q
  obtain ⟨rfl, v2, rfl, rfl, hI2⟩ := q2
  exact lj_same (st := []) C0 ld_329 (by decide) (K h2 hI2)
set_option maxRecDepth 20000 in
theorem lj_c8 (C0 : lj_C E p s m meth c b L xs) (hL : L ≤ 3072) (hc : n ≤ 1000) (hi : 0 ≤ i ∧ i + 5 < L) (hI : I_ n h) (K : ∀ h2, I_ (n + 1) h2 → lj_G E p e s m below meth c b 115 3612 884 (lj_ls i) [] jm_SH h2) : lj_G E p e s m below meth c b 115 3612 334 (lj_ls i) [] jm_SH h := by
  refine lj_aload C0 ld_334 rfl rfl ?_
  refine lj_arg (k := 1) C0 hL ld_335 ld_336 ld_337 ld_338 ld_339 rfl hi (by decide) ?_
  refine lj_arg (k := 2) C0 hL ld_340 ld_341 ld_342 ld_343 ld_344 rfl hi (by decide) ?_
  refine lj_arg (k := 3) C0 hL ld_345 ld_346 ld_347 ld_348 ld_349 rfl hi (by decide) ?_
  refine lj_invV (M' := jm_m_Top_cover) (d' := 34) (r := 0) (st := []) (av := [jm_I (xs (i + 1).toNat).toInt, jm_I (xs (i + 2).toNat).toInt, jm_I (xs (i + 3).toNat).toInt]) C0 ld_350 jk_Top_cover jw_507 rfl (by decide) (by decide) (Nat.le_of_ble_eq_true rfl) rfl rfl rfl ?_
  refine jm_Call.mono (fun r sh1 h1 q => ?_) (st_cover h hI)
  obtain ⟨rfl, v1, rfl, q⟩ := q
  refine lj_aload C0 ld_353 rfl rfl ?_
  refine lj_arg (k := 1) C0 hL ld_354 ld_355 ld_356 ld_357 ld_358 rfl hi (by decide) ?_
  refine lj_arg (k := 2) C0 hL ld_359 ld_360 ld_361 ld_362 ld_363 rfl hi (by decide) ?_
  refine lj_arg (k := 3) C0 hL ld_364 ld_365 ld_366 ld_367 ld_368 rfl hi (by decide) ?_
  refine lj_invV (M' := jm_m_Mod_cover) (d' := 4) (r := 78) (st := [jm_I v1]) (av := [jm_I (xs (i + 1).toNat).toInt, jm_I (xs (i + 2).toNat).toInt, jm_I (xs (i + 3).toNat).toInt]) C0 ld_369 jk_Mod_cover jw_1056 rfl (by decide) (by decide) (Nat.le_of_ble_eq_true rfl) rfl rfl rfl ?_
  refine jm_Call.mono (fun r sh2 h2 q2 => ?_) q
  obtain ⟨rfl, v2, rfl, rfl, hI2⟩ := q2
  exact lj_same (st := []) C0 ld_372 (by decide) (K h2 hI2)
set_option maxRecDepth 20000 in
theorem lj_c9 (C0 : lj_C E p s m meth c b L xs) (hL : L ≤ 3072) (hc : n ≤ 1000) (hi : 0 ≤ i ∧ i + 5 < L) (hI : I_ n h) (K : ∀ h2, I_ (n + 1) h2 → lj_G E p e s m below meth c b 115 3612 884 (lj_ls i) [] jm_SH h2) : lj_G E p e s m below meth c b 115 3612 377 (lj_ls i) [] jm_SH h := by
  refine lj_aload C0 ld_377 rfl rfl ?_
  refine lj_arg (k := 1) C0 hL ld_378 ld_379 ld_380 ld_381 ld_382 rfl hi (by decide) ?_
  refine lj_arg (k := 2) C0 hL ld_383 ld_384 ld_385 ld_386 ld_387 rfl hi (by decide) ?_
  refine lj_invV (M' := jm_m_Top_code) (d' := 34) (r := 0) (st := []) (av := [jm_I (xs (i + 1).toNat).toInt, jm_I (xs (i + 2).toNat).toInt]) C0 ld_388 jk_Top_code jw_558 rfl (by decide) (by decide) (Nat.le_of_ble_eq_true rfl) rfl rfl rfl ?_
  refine jm_Call.mono (fun r sh1 h1 q => ?_) (st_code h hI)
  obtain ⟨rfl, v1, rfl, q⟩ := q
  refine lj_aload C0 ld_391 rfl rfl ?_
  refine lj_arg (k := 1) C0 hL ld_392 ld_393 ld_394 ld_395 ld_396 rfl hi (by decide) ?_
  refine lj_arg (k := 2) C0 hL ld_397 ld_398 ld_399 ld_400 ld_401 rfl hi (by decide) ?_
  refine lj_invV (M' := jm_m_Mod_code) (d' := 4) (r := 78) (st := [jm_I v1]) (av := [jm_I (xs (i + 1).toNat).toInt, jm_I (xs (i + 2).toNat).toInt]) C0 ld_402 jk_Mod_code jw_1073 rfl (by decide) (by decide) (Nat.le_of_ble_eq_true rfl) rfl rfl rfl ?_
  refine jm_Call.mono (fun r sh2 h2 q2 => ?_) q
  obtain ⟨rfl, v2, rfl, rfl, hI2⟩ := q2
  exact lj_same (st := []) C0 ld_405 (by decide) (K h2 hI2)
set_option maxRecDepth 20000 in
theorem lj_c10 (C0 : lj_C E p s m meth c b L xs) (hL : L ≤ 3072) (hc : n ≤ 1000) (hi : 0 ≤ i ∧ i + 5 < L) (hI : I_ n h) (K : ∀ h2, I_ (n + 1) h2 → lj_G E p e s m below meth c b 115 3612 884 (lj_ls i) [] jm_SH h2) : lj_G E p e s m below meth c b 115 3612 410 (lj_ls i) [] jm_SH h := by
  refine lj_aload C0 ld_410 rfl rfl ?_
  refine lj_arg (k := 1) C0 hL ld_411 ld_412 ld_413 ld_414 ld_415 rfl hi (by decide) ?_
  refine lj_invV (M' := jm_m_Top_stores) (d' := 3) (r := 0) (st := []) (av := [jm_I (xs (i + 1).toNat).toInt]) C0 ld_416 jk_Top_stores jw_562 rfl (by decide) (by decide) (Nat.le_of_ble_eq_true rfl) rfl rfl rfl ?_
  refine jm_Call.mono (fun r sh1 h1 q => ?_) (st_stores h hI)
  obtain ⟨rfl, v1, rfl, q⟩ := q
  refine lj_aload C0 ld_419 rfl rfl ?_
  refine lj_arg (k := 1) C0 hL ld_420 ld_421 ld_422 ld_423 ld_424 rfl hi (by decide) ?_
  refine lj_invV (M' := jm_m_Mod_stores) (d' := 2) (r := 78) (st := [jm_I v1]) (av := [jm_I (xs (i + 1).toNat).toInt]) C0 ld_425 jk_Mod_stores jw_1089 rfl (by decide) (by decide) (Nat.le_of_ble_eq_true rfl) rfl rfl rfl ?_
  refine jm_Call.mono (fun r sh2 h2 q2 => ?_) q
  obtain ⟨rfl, v2, rfl, rfl, hI2⟩ := q2
  exact lj_same (st := []) C0 ld_428 (by decide) (K h2 hI2)
set_option maxRecDepth 20000 in
theorem lj_c11 (C0 : lj_C E p s m meth c b L xs) (hL : L ≤ 3072) (hc : n ≤ 1000) (hi : 0 ≤ i ∧ i + 5 < L) (hI : I_ n h) (K : ∀ h2, I_ (n + 1) h2 → lj_G E p e s m below meth c b 115 3612 884 (lj_ls i) [] jm_SH h2) : lj_G E p e s m below meth c b 115 3612 433 (lj_ls i) [] jm_SH h := by
  refine lj_aload C0 ld_433 rfl rfl ?_
  refine lj_arg (k := 1) C0 hL ld_434 ld_435 ld_436 ld_437 ld_438 rfl hi (by decide) ?_
  refine lj_arg (k := 2) C0 hL ld_439 ld_440 ld_441 ld_442 ld_443 rfl hi (by decide) ?_
  refine lj_arg (k := 3) C0 hL ld_444 ld_445 ld_446 ld_447 ld_448 rfl hi (by decide) ?_
  refine lj_arg (k := 4) C0 hL ld_449 ld_450 ld_451 ld_452 ld_453 rfl hi (by decide) ?_
  refine lj_arg (k := 5) C0 hL ld_454 ld_455 ld_456 ld_457 ld_458 rfl hi (by decide) ?_
  refine lj_invV (M' := jm_m_Top_add) (d' := 1) (r := 0) (st := []) (av := [jm_I (xs (i + 1).toNat).toInt, jm_I (xs (i + 2).toNat).toInt, jm_I (xs (i + 3).toNat).toInt, jm_I (xs (i + 4).toNat).toInt, jm_I (xs (i + 5).toNat).toInt]) C0 ld_459 jk_Top_add jw_570 rfl (by decide) (by decide) (Nat.le_of_ble_eq_true rfl) rfl rfl rfl ?_
  refine jm_Call.mono (fun r sh1 h1 q => ?_) (st_add hc h hI)
  obtain ⟨rfl, v1, rfl, q⟩ := q
  refine lj_aload C0 ld_462 rfl rfl ?_
  refine lj_arg (k := 1) C0 hL ld_463 ld_464 ld_465 ld_466 ld_467 rfl hi (by decide) ?_
  refine lj_arg (k := 2) C0 hL ld_468 ld_469 ld_470 ld_471 ld_472 rfl hi (by decide) ?_
  refine lj_arg (k := 3) C0 hL ld_473 ld_474 ld_475 ld_476 ld_477 rfl hi (by decide) ?_
  refine lj_arg (k := 4) C0 hL ld_478 ld_479 ld_480 ld_481 ld_482 rfl hi (by decide) ?_
  refine lj_arg (k := 5) C0 hL ld_483 ld_484 ld_485 ld_486 ld_487 rfl hi (by decide) ?_
  refine lj_invV (M' := jm_m_Mod_add) (d' := 2) (r := 78) (st := [jm_I v1]) (av := [jm_I (xs (i + 1).toNat).toInt, jm_I (xs (i + 2).toNat).toInt, jm_I (xs (i + 3).toNat).toInt, jm_I (xs (i + 4).toNat).toInt, jm_I (xs (i + 5).toNat).toInt]) C0 ld_488 jk_Mod_add jw_1095 rfl (by decide) (by decide) (Nat.le_of_ble_eq_true rfl) rfl rfl rfl ?_
  refine jm_Call.mono (fun r sh2 h2 q2 => ?_) q
  obtain ⟨rfl, v2, rfl, rfl, hI2⟩ := q2
  exact lj_same (st := []) C0 ld_491 (by decide) (K h2 hI2)
set_option maxRecDepth 20000 in
theorem lj_c12 (C0 : lj_C E p s m meth c b L xs) (hL : L ≤ 3072) (hc : n ≤ 1000) (hi : 0 ≤ i ∧ i + 5 < L) (hI : I_ n h) (K : ∀ h2, I_ (n + 1) h2 → lj_G E p e s m below meth c b 115 3612 884 (lj_ls i) [] jm_SH h2) : lj_G E p e s m below meth c b 115 3612 496 (lj_ls i) [] jm_SH h := by
  refine lj_aload C0 ld_496 rfl rfl ?_
  refine lj_invV (M' := jm_m_Top_drop) (d' := 1) (r := 0) (st := []) (av := []) C0 ld_497 jk_Top_drop jw_585 rfl (by decide) (by decide) (Nat.le_of_ble_eq_true rfl) rfl rfl rfl ?_
  refine jm_Call.mono (fun r sh1 h1 q => ?_) (st_drop hc h hI)
  obtain ⟨rfl, v1, rfl, q⟩ := q
  refine lj_aload C0 ld_500 rfl rfl ?_
  refine lj_invV (M' := jm_m_Mod_drop) (d' := 0) (r := 78) (st := [jm_I v1]) (av := []) C0 ld_501 jk_Mod_drop jw_1104 rfl (by decide) (by decide) (Nat.le_of_ble_eq_true rfl) rfl rfl rfl ?_
  refine jm_Call.mono (fun r sh2 h2 q2 => ?_) q
  obtain ⟨rfl, v2, rfl, rfl, hI2⟩ := q2
  exact lj_same (st := []) C0 ld_504 (by decide) (K h2 hI2)
set_option maxRecDepth 20000 in
theorem lj_c13 (C0 : lj_C E p s m meth c b L xs) (hL : L ≤ 3072) (hc : n ≤ 1000) (hi : 0 ≤ i ∧ i + 5 < L) (hI : I_ n h) (K : ∀ h2, I_ (n + 1) h2 → lj_G E p e s m below meth c b 115 3612 884 (lj_ls i) [] jm_SH h2) : lj_G E p e s m below meth c b 115 3612 509 (lj_ls i) [] jm_SH h := by
  refine lj_aload C0 ld_509 rfl rfl ?_
  refine lj_arg (k := 1) C0 hL ld_510 ld_511 ld_512 ld_513 ld_514 rfl hi (by decide) ?_
  refine lj_arg (k := 2) C0 hL ld_515 ld_516 ld_517 ld_518 ld_519 rfl hi (by decide) ?_
  refine lj_invV (M' := jm_m_Top_about) (d' := 4) (r := 0) (st := []) (av := [jm_I (xs (i + 1).toNat).toInt, jm_I (xs (i + 2).toNat).toInt]) C0 ld_520 jk_Top_about jw_593 rfl (by decide) (by decide) (Nat.le_of_ble_eq_true rfl) rfl rfl rfl ?_
  refine jm_Call.mono (fun r sh1 h1 q => ?_) (st_about h hI)
  obtain ⟨rfl, v1, rfl, q⟩ := q
  refine lj_aload C0 ld_523 rfl rfl ?_
  refine lj_arg (k := 1) C0 hL ld_524 ld_525 ld_526 ld_527 ld_528 rfl hi (by decide) ?_
  refine lj_arg (k := 2) C0 hL ld_529 ld_530 ld_531 ld_532 ld_533 rfl hi (by decide) ?_
  refine lj_invV (M' := jm_m_Mod_about) (d' := 3) (r := 78) (st := [jm_I v1]) (av := [jm_I (xs (i + 1).toNat).toInt, jm_I (xs (i + 2).toNat).toInt]) C0 ld_534 jk_Mod_about jw_1108 rfl (by decide) (by decide) (Nat.le_of_ble_eq_true rfl) rfl rfl rfl ?_
  refine jm_Call.mono (fun r sh2 h2 q2 => ?_) q
  obtain ⟨rfl, v2, rfl, rfl, hI2⟩ := q2
  exact lj_same (st := []) C0 ld_537 (by decide) (K h2 hI2)
set_option maxRecDepth 20000 in
theorem lj_c14 (C0 : lj_C E p s m meth c b L xs) (hL : L ≤ 3072) (hc : n ≤ 1000) (hi : 0 ≤ i ∧ i + 5 < L) (hI : I_ n h) (K : ∀ h2, I_ (n + 1) h2 → lj_G E p e s m below meth c b 115 3612 884 (lj_ls i) [] jm_SH h2) : lj_G E p e s m below meth c b 115 3612 542 (lj_ls i) [] jm_SH h := by
  refine lj_aload C0 ld_542 rfl rfl ?_
  refine lj_invV (M' := jm_m_Top_end) (d' := 4) (r := 0) (st := []) (av := []) C0 ld_543 jk_Top_end jw_627 rfl (by decide) (by decide) (Nat.le_of_ble_eq_true rfl) rfl rfl rfl ?_
  refine jm_Call.mono (fun r sh1 h1 q => ?_) (st_end h hI)
  obtain ⟨rfl, v1, rfl, q⟩ := q
  refine lj_aload C0 ld_546 rfl rfl ?_
  refine lj_invV (M' := jm_m_Mod_end) (d' := 3) (r := 78) (st := [jm_I v1]) (av := []) C0 ld_547 jk_Mod_end jw_1128 rfl (by decide) (by decide) (Nat.le_of_ble_eq_true rfl) rfl rfl rfl ?_
  refine jm_Call.mono (fun r sh2 h2 q2 => ?_) q
  obtain ⟨rfl, v2, rfl, rfl, hI2⟩ := q2
  exact lj_same (st := []) C0 ld_550 (by decide) (K h2 hI2)
set_option maxRecDepth 20000 in
theorem lj_c15 (C0 : lj_C E p s m meth c b L xs) (hL : L ≤ 3072) (hc : n ≤ 1000) (hi : 0 ≤ i ∧ i + 5 < L) (hI : I_ n h) (K : ∀ h2, I_ (n + 1) h2 → lj_G E p e s m below meth c b 115 3612 884 (lj_ls i) [] jm_SH h2) : lj_G E p e s m below meth c b 115 3612 555 (lj_ls i) [] jm_SH h := by
  refine lj_aload C0 ld_555 rfl rfl ?_
  refine lj_arg (k := 1) C0 hL ld_556 ld_557 ld_558 ld_559 ld_560 rfl hi (by decide) ?_
  refine lj_arg (k := 2) C0 hL ld_561 ld_562 ld_563 ld_564 ld_565 rfl hi (by decide) ?_
  refine lj_invV (M' := jm_m_Top_ahead) (d' := 3) (r := 0) (st := []) (av := [jm_I (xs (i + 1).toNat).toInt, jm_I (xs (i + 2).toNat).toInt]) C0 ld_566 jk_Top_ahead jw_635 rfl (by decide) (by decide) (Nat.le_of_ble_eq_true rfl) rfl rfl rfl ?_
  refine jm_Call.mono (fun r sh1 h1 q => ?_) (st_ahead h hI)
  obtain ⟨rfl, v1, rfl, q⟩ := q
  refine lj_aload C0 ld_569 rfl rfl ?_
  refine lj_arg (k := 1) C0 hL ld_570 ld_571 ld_572 ld_573 ld_574 rfl hi (by decide) ?_
  refine lj_arg (k := 2) C0 hL ld_575 ld_576 ld_577 ld_578 ld_579 rfl hi (by decide) ?_
  refine lj_invV (M' := jm_m_Mod_ahead) (d' := 2) (r := 78) (st := [jm_I v1]) (av := [jm_I (xs (i + 1).toNat).toInt, jm_I (xs (i + 2).toNat).toInt]) C0 ld_580 jk_Mod_ahead jw_1132 rfl (by decide) (by decide) (Nat.le_of_ble_eq_true rfl) rfl rfl rfl ?_
  refine jm_Call.mono (fun r sh2 h2 q2 => ?_) q
  obtain ⟨rfl, v2, rfl, rfl, hI2⟩ := q2
  exact lj_same (st := []) C0 ld_583 (by decide) (K h2 hI2)
set_option maxRecDepth 20000 in
theorem lj_c16 (C0 : lj_C E p s m meth c b L xs) (hL : L ≤ 3072) (hc : n ≤ 1000) (hi : 0 ≤ i ∧ i + 5 < L) (hI : I_ n h) (K : ∀ h2, I_ (n + 1) h2 → lj_G E p e s m below meth c b 115 3612 884 (lj_ls i) [] jm_SH h2) : lj_G E p e s m below meth c b 115 3612 588 (lj_ls i) [] jm_SH h := by
  refine lj_aload C0 ld_588 rfl rfl ?_
  refine lj_arg (k := 1) C0 hL ld_589 ld_590 ld_591 ld_592 ld_593 rfl hi (by decide) ?_
  refine lj_invV (M' := jm_m_Top_best) (d' := 21) (r := 0) (st := []) (av := [jm_I (xs (i + 1).toNat).toInt]) C0 ld_594 jk_Top_best jw_647 rfl (by decide) (by decide) (Nat.le_of_ble_eq_true rfl) rfl rfl rfl ?_
  refine jm_Call.mono (fun r sh1 h1 q => ?_) (st_best h hI)
  obtain ⟨rfl, v1, rfl, q⟩ := q
  refine lj_aload C0 ld_597 rfl rfl ?_
  refine lj_arg (k := 1) C0 hL ld_598 ld_599 ld_600 ld_601 ld_602 rfl hi (by decide) ?_
  refine lj_invV (M' := jm_m_Mod_best) (d' := 4) (r := 78) (st := [jm_I v1]) (av := [jm_I (xs (i + 1).toNat).toInt]) C0 ld_603 jk_Mod_best jw_1140 rfl (by decide) (by decide) (Nat.le_of_ble_eq_true rfl) rfl rfl rfl ?_
  refine jm_Call.mono (fun r sh2 h2 q2 => ?_) q
  obtain ⟨rfl, v2, rfl, rfl, hI2⟩ := q2
  exact lj_same (st := []) C0 ld_606 (by decide) (K h2 hI2)
set_option maxRecDepth 20000 in
theorem lj_c17 (C0 : lj_C E p s m meth c b L xs) (hL : L ≤ 3072) (hc : n ≤ 1000) (hi : 0 ≤ i ∧ i + 5 < L) (hI : I_ n h) (K : ∀ h2, I_ (n + 1) h2 → lj_G E p e s m below meth c b 115 3612 884 (lj_ls i) [] jm_SH h2) : lj_G E p e s m below meth c b 115 3612 611 (lj_ls i) [] jm_SH h := by
  refine lj_aload C0 ld_611 rfl rfl ?_
  refine lj_invV (M' := jm_m_Top_sort) (d' := 21) (r := 0) (st := []) (av := []) C0 ld_612 jk_Top_sort jw_687 rfl (by decide) (by decide) (Nat.le_of_ble_eq_true rfl) rfl rfl rfl ?_
  refine jm_Call.mono (fun r sh1 h1 q => ?_) (st_sort hc h hI)
  obtain ⟨rfl, v1, rfl, q⟩ := q
  refine lj_aload C0 ld_615 rfl rfl ?_
  refine lj_invV (M' := jm_m_Mod_sort) (d' := 4) (r := 78) (st := [jm_I v1]) (av := []) C0 ld_616 jk_Mod_sort jw_1156 rfl (by decide) (by decide) (Nat.le_of_ble_eq_true rfl) rfl rfl rfl ?_
  refine jm_Call.mono (fun r sh2 h2 q2 => ?_) q
  obtain ⟨rfl, v2, rfl, rfl, hI2⟩ := q2
  exact lj_same (st := []) C0 ld_619 (by decide) (K h2 hI2)
set_option maxRecDepth 20000 in
theorem lj_c18 (C0 : lj_C E p s m meth c b L xs) (hL : L ≤ 3072) (hc : n ≤ 1000) (hi : 0 ≤ i ∧ i + 5 < L) (hI : I_ n h) (K : ∀ h2, I_ (n + 1) h2 → lj_G E p e s m below meth c b 115 3612 884 (lj_ls i) [] jm_SH h2) : lj_G E p e s m below meth c b 115 3612 624 (lj_ls i) [] jm_SH h := by
  refine lj_aload C0 ld_624 rfl rfl ?_
  refine lj_arg (k := 1) C0 hL ld_625 ld_626 ld_627 ld_628 ld_629 rfl hi (by decide) ?_
  refine lj_invV (M' := jm_m_Top_keep) (d' := 0) (r := 0) (st := []) (av := [jm_I (xs (i + 1).toNat).toInt]) C0 ld_630 jk_Top_keep jw_696 rfl (by decide) (by decide) (Nat.le_of_ble_eq_true rfl) rfl rfl rfl ?_
  refine jm_Call.mono (fun r sh1 h1 q => ?_) (st_keep h hI)
  obtain ⟨rfl, v1, rfl, q⟩ := q
  refine lj_aload C0 ld_633 rfl rfl ?_
  refine lj_arg (k := 1) C0 hL ld_634 ld_635 ld_636 ld_637 ld_638 rfl hi (by decide) ?_
  refine lj_invV (M' := jm_m_Mod_keep) (d' := 1) (r := 78) (st := [jm_I v1]) (av := [jm_I (xs (i + 1).toNat).toInt]) C0 ld_639 jk_Mod_keep jw_1168 rfl (by decide) (by decide) (Nat.le_of_ble_eq_true rfl) rfl rfl rfl ?_
  refine jm_Call.mono (fun r sh2 h2 q2 => ?_) q
  obtain ⟨rfl, v2, rfl, rfl, hI2⟩ := q2
  exact lj_same (st := []) C0 ld_642 (by decide) (K h2 hI2)
set_option maxRecDepth 20000 in
theorem lj_c19 (C0 : lj_C E p s m meth c b L xs) (hL : L ≤ 3072) (hc : n ≤ 1000) (hi : 0 ≤ i ∧ i + 5 < L) (hI : I_ n h) (K : ∀ h2, I_ (n + 1) h2 → lj_G E p e s m below meth c b 115 3612 884 (lj_ls i) [] jm_SH h2) : lj_G E p e s m below meth c b 115 3612 647 (lj_ls i) [] jm_SH h := by
  refine lj_aload C0 ld_647 rfl rfl ?_
  refine lj_arg (k := 1) C0 hL ld_648 ld_649 ld_650 ld_651 ld_652 rfl hi (by decide) ?_
  refine lj_arg (k := 2) C0 hL ld_653 ld_654 ld_655 ld_656 ld_657 rfl hi (by decide) ?_
  refine lj_invV (M' := jm_m_Top_weigh) (d' := 1) (r := 0) (st := []) (av := [jm_I (xs (i + 1).toNat).toInt, jm_I (xs (i + 2).toNat).toInt]) C0 ld_658 jk_Top_weigh jw_700 rfl (by decide) (by decide) (Nat.le_of_ble_eq_true rfl) rfl rfl rfl ?_
  refine jm_Call.mono (fun r sh1 h1 q => ?_) (st_weigh h hI)
  obtain ⟨rfl, v1, rfl, q⟩ := q
  refine lj_aload C0 ld_661 rfl rfl ?_
  refine lj_arg (k := 1) C0 hL ld_662 ld_663 ld_664 ld_665 ld_666 rfl hi (by decide) ?_
  refine lj_arg (k := 2) C0 hL ld_667 ld_668 ld_669 ld_670 ld_671 rfl hi (by decide) ?_
  refine lj_invV (M' := jm_m_Mod_weigh) (d' := 2) (r := 78) (st := [jm_I v1]) (av := [jm_I (xs (i + 1).toNat).toInt, jm_I (xs (i + 2).toNat).toInt]) C0 ld_672 jk_Mod_weigh jw_1173 rfl (by decide) (by decide) (Nat.le_of_ble_eq_true rfl) rfl rfl rfl ?_
  refine jm_Call.mono (fun r sh2 h2 q2 => ?_) q
  obtain ⟨rfl, v2, rfl, rfl, hI2⟩ := q2
  exact lj_same (st := []) C0 ld_675 (by decide) (K h2 hI2)
set_option maxRecDepth 20000 in
theorem lj_c20 (C0 : lj_C E p s m meth c b L xs) (hL : L ≤ 3072) (hc : n ≤ 1000) (hi : 0 ≤ i ∧ i + 5 < L) (hI : I_ n h) (K : ∀ h2, I_ (n + 1) h2 → lj_G E p e s m below meth c b 115 3612 884 (lj_ls i) [] jm_SH h2) : lj_G E p e s m below meth c b 115 3612 680 (lj_ls i) [] jm_SH h := by
  refine lj_aload C0 ld_680 rfl rfl ?_
  refine lj_arg (k := 1) C0 hL ld_681 ld_682 ld_683 ld_684 ld_685 rfl hi (by decide) ?_
  refine lj_invV (M' := jm_m_Top_lives) (d' := 3) (r := 0) (st := []) (av := [jm_I (xs (i + 1).toNat).toInt]) C0 ld_686 jk_Top_lives jw_704 rfl (by decide) (by decide) (Nat.le_of_ble_eq_true rfl) rfl rfl rfl ?_
  refine jm_Call.mono (fun r sh1 h1 q => ?_) (st_lives h hI)
  obtain ⟨rfl, v1, rfl, q⟩ := q
  refine lj_aload C0 ld_689 rfl rfl ?_
  refine lj_arg (k := 1) C0 hL ld_690 ld_691 ld_692 ld_693 ld_694 rfl hi (by decide) ?_
  refine lj_invV (M' := jm_m_Mod_lives) (d' := 2) (r := 78) (st := [jm_I v1]) (av := [jm_I (xs (i + 1).toNat).toInt]) C0 ld_695 jk_Mod_lives jw_1178 rfl (by decide) (by decide) (Nat.le_of_ble_eq_true rfl) rfl rfl rfl ?_
  refine jm_Call.mono (fun r sh2 h2 q2 => ?_) q
  obtain ⟨rfl, v2, rfl, rfl, hI2⟩ := q2
  exact lj_same (st := []) C0 ld_698 (by decide) (K h2 hI2)
set_option maxRecDepth 20000 in
theorem lj_c21 (C0 : lj_C E p s m meth c b L xs) (hL : L ≤ 3072) (hc : n ≤ 1000) (hi : 0 ≤ i ∧ i + 5 < L) (hI : I_ n h) (K : ∀ h2, I_ (n + 1) h2 → lj_G E p e s m below meth c b 115 3612 884 (lj_ls i) [] jm_SH h2) : lj_G E p e s m below meth c b 115 3612 703 (lj_ls i) [] jm_SH h := by
  refine lj_aload C0 ld_703 rfl rfl ?_
  refine lj_arg (k := 1) C0 hL ld_704 ld_705 ld_706 ld_707 ld_708 rfl hi (by decide) ?_
  refine lj_invV (M' := jm_m_Top_place) (d' := 4) (r := 0) (st := []) (av := [jm_I (xs (i + 1).toNat).toInt]) C0 ld_709 jk_Top_place jw_713 rfl (by decide) (by decide) (Nat.le_of_ble_eq_true rfl) rfl rfl rfl ?_
  refine jm_Call.mono (fun r sh1 h1 q => ?_) (st_place h hI)
  obtain ⟨rfl, v1, rfl, q⟩ := q
  refine lj_aload C0 ld_712 rfl rfl ?_
  refine lj_arg (k := 1) C0 hL ld_713 ld_714 ld_715 ld_716 ld_717 rfl hi (by decide) ?_
  refine lj_invV (M' := jm_m_Mod_place) (d' := 3) (r := 78) (st := [jm_I v1]) (av := [jm_I (xs (i + 1).toNat).toInt]) C0 ld_718 jk_Mod_place jw_1186 rfl (by decide) (by decide) (Nat.le_of_ble_eq_true rfl) rfl rfl rfl ?_
  refine jm_Call.mono (fun r sh2 h2 q2 => ?_) q
  obtain ⟨rfl, v2, rfl, rfl, hI2⟩ := q2
  exact lj_same (st := []) C0 ld_721 (by decide) (K h2 hI2)
set_option maxRecDepth 20000 in
theorem lj_c22 (C0 : lj_C E p s m meth c b L xs) (hL : L ≤ 3072) (hc : n ≤ 1000) (hi : 0 ≤ i ∧ i + 5 < L) (hI : I_ n h) (K : ∀ h2, I_ (n + 1) h2 → lj_G E p e s m below meth c b 115 3612 884 (lj_ls i) [] jm_SH h2) : lj_G E p e s m below meth c b 115 3612 726 (lj_ls i) [] jm_SH h := by
  refine lj_aload C0 ld_726 rfl rfl ?_
  refine lj_invV (M' := jm_m_Top_crowd) (d' := 5) (r := 0) (st := []) (av := []) C0 ld_727 jk_Top_crowd jw_722 rfl (by decide) (by decide) (Nat.le_of_ble_eq_true rfl) rfl rfl rfl ?_
  refine jm_Call.mono (fun r sh1 h1 q => ?_) (st_crowd h hI)
  obtain ⟨rfl, v1, rfl, q⟩ := q
  refine lj_aload C0 ld_730 rfl rfl ?_
  refine lj_invV (M' := jm_m_Mod_crowd) (d' := 3) (r := 78) (st := [jm_I v1]) (av := []) C0 ld_731 jk_Mod_crowd jw_1194 rfl (by decide) (by decide) (Nat.le_of_ble_eq_true rfl) rfl rfl rfl ?_
  refine jm_Call.mono (fun r sh2 h2 q2 => ?_) q
  obtain ⟨rfl, v2, rfl, rfl, hI2⟩ := q2
  exact lj_same (st := []) C0 ld_734 (by decide) (K h2 hI2)
set_option maxRecDepth 20000 in
theorem lj_c23 (C0 : lj_C E p s m meth c b L xs) (hL : L ≤ 3072) (hc : n ≤ 1000) (hi : 0 ≤ i ∧ i + 5 < L) (hI : I_ n h) (K : ∀ h2, I_ (n + 1) h2 → lj_G E p e s m below meth c b 115 3612 884 (lj_ls i) [] jm_SH h2) : lj_G E p e s m below meth c b 115 3612 739 (lj_ls i) [] jm_SH h := by
  refine lj_aload C0 ld_739 rfl rfl ?_
  refine lj_arg (k := 1) C0 hL ld_740 ld_741 ld_742 ld_743 ld_744 rfl hi (by decide) ?_
  refine lj_arg (k := 2) C0 hL ld_745 ld_746 ld_747 ld_748 ld_749 rfl hi (by decide) ?_
  refine lj_invV (M' := jm_m_Top_spilled) (d' := 19) (r := 0) (st := []) (av := [jm_I (xs (i + 1).toNat).toInt, jm_I (xs (i + 2).toNat).toInt]) C0 ld_750 jk_Top_spilled jw_738 rfl (by decide) (by decide) (Nat.le_of_ble_eq_true rfl) rfl rfl rfl ?_
  refine jm_Call.mono (fun r sh1 h1 q => ?_) (st_spilled h hI)
  obtain ⟨rfl, v1, rfl, q⟩ := q
  refine lj_aload C0 ld_753 rfl rfl ?_
  refine lj_arg (k := 1) C0 hL ld_754 ld_755 ld_756 ld_757 ld_758 rfl hi (by decide) ?_
  refine lj_arg (k := 2) C0 hL ld_759 ld_760 ld_761 ld_762 ld_763 rfl hi (by decide) ?_
  refine lj_invV (M' := jm_m_Mod_spilled) (d' := 3) (r := 78) (st := [jm_I v1]) (av := [jm_I (xs (i + 1).toNat).toInt, jm_I (xs (i + 2).toNat).toInt]) C0 ld_764 jk_Mod_spilled jw_1201 rfl (by decide) (by decide) (Nat.le_of_ble_eq_true rfl) rfl rfl rfl ?_
  refine jm_Call.mono (fun r sh2 h2 q2 => ?_) q
  obtain ⟨rfl, v2, rfl, rfl, hI2⟩ := q2
  exact lj_same (st := []) C0 ld_767 (by decide) (K h2 hI2)
set_option maxRecDepth 20000 in
theorem lj_c24 (C0 : lj_C E p s m meth c b L xs) (hL : L ≤ 3072) (hc : n ≤ 1000) (hi : 0 ≤ i ∧ i + 5 < L) (hI : I_ n h) (K : ∀ h2, I_ (n + 1) h2 → lj_G E p e s m below meth c b 115 3612 884 (lj_ls i) [] jm_SH h2) : lj_G E p e s m below meth c b 115 3612 772 (lj_ls i) [] jm_SH h := by
  refine lj_aload C0 ld_772 rfl rfl ?_
  refine lj_arg (k := 1) C0 hL ld_773 ld_774 ld_775 ld_776 ld_777 rfl hi (by decide) ?_
  refine lj_arg (k := 2) C0 hL ld_778 ld_779 ld_780 ld_781 ld_782 rfl hi (by decide) ?_
  refine lj_arg (k := 3) C0 hL ld_783 ld_784 ld_785 ld_786 ld_787 rfl hi (by decide) ?_
  refine lj_invV (M' := jm_m_Top_run) (d' := 2) (r := 0) (st := []) (av := [jm_I (xs (i + 1).toNat).toInt, jm_I (xs (i + 2).toNat).toInt, jm_I (xs (i + 3).toNat).toInt]) C0 ld_788 jk_Top_run jw_759 rfl (by decide) (by decide) (Nat.le_of_ble_eq_true rfl) rfl rfl rfl ?_
  refine jm_Call.mono (fun r sh1 h1 q => ?_) (st_run h hI)
  obtain ⟨rfl, v1, rfl, q⟩ := q
  refine lj_aload C0 ld_791 rfl rfl ?_
  refine lj_arg (k := 1) C0 hL ld_792 ld_793 ld_794 ld_795 ld_796 rfl hi (by decide) ?_
  refine lj_arg (k := 2) C0 hL ld_797 ld_798 ld_799 ld_800 ld_801 rfl hi (by decide) ?_
  refine lj_arg (k := 3) C0 hL ld_802 ld_803 ld_804 ld_805 ld_806 rfl hi (by decide) ?_
  refine lj_invV (M' := jm_m_Mod_run) (d' := 2) (r := 78) (st := [jm_I v1]) (av := [jm_I (xs (i + 1).toNat).toInt, jm_I (xs (i + 2).toNat).toInt, jm_I (xs (i + 3).toNat).toInt]) C0 ld_807 jk_Mod_run jw_1214 rfl (by decide) (by decide) (Nat.le_of_ble_eq_true rfl) rfl rfl rfl ?_
  refine jm_Call.mono (fun r sh2 h2 q2 => ?_) q
  obtain ⟨rfl, v2, rfl, rfl, hI2⟩ := q2
  exact lj_same (st := []) C0 ld_810 (by decide) (K h2 hI2)
set_option maxRecDepth 20000 in
theorem lj_c25 (C0 : lj_C E p s m meth c b L xs) (hL : L ≤ 3072) (hc : n ≤ 1000) (hi : 0 ≤ i ∧ i + 5 < L) (hI : I_ n h) (K : ∀ h2, I_ (n + 1) h2 → lj_G E p e s m below meth c b 115 3612 884 (lj_ls i) [] jm_SH h2) : lj_G E p e s m below meth c b 115 3612 815 (lj_ls i) [] jm_SH h := by
  refine lj_aload C0 ld_815 rfl rfl ?_
  refine lj_arg (k := 1) C0 hL ld_816 ld_817 ld_818 ld_819 ld_820 rfl hi (by decide) ?_
  refine lj_arg (k := 2) C0 hL ld_821 ld_822 ld_823 ld_824 ld_825 rfl hi (by decide) ?_
  refine lj_invV (M' := jm_m_Top_shortest) (d' := 18) (r := 0) (st := []) (av := [jm_I (xs (i + 1).toNat).toInt, jm_I (xs (i + 2).toNat).toInt]) C0 ld_826 jk_Top_shortest jw_774 rfl (by decide) (by decide) (Nat.le_of_ble_eq_true rfl) rfl rfl rfl ?_
  refine jm_Call.mono (fun r sh1 h1 q => ?_) (st_shortest h hI)
  obtain ⟨rfl, v1, rfl, q⟩ := q
  refine lj_aload C0 ld_829 rfl rfl ?_
  refine lj_arg (k := 1) C0 hL ld_830 ld_831 ld_832 ld_833 ld_834 rfl hi (by decide) ?_
  refine lj_arg (k := 2) C0 hL ld_835 ld_836 ld_837 ld_838 ld_839 rfl hi (by decide) ?_
  refine lj_invV (M' := jm_m_Mod_shortest) (d' := 3) (r := 78) (st := [jm_I v1]) (av := [jm_I (xs (i + 1).toNat).toInt, jm_I (xs (i + 2).toNat).toInt]) C0 ld_840 jk_Mod_shortest jw_1233 rfl (by decide) (by decide) (Nat.le_of_ble_eq_true rfl) rfl rfl rfl ?_
  refine jm_Call.mono (fun r sh2 h2 q2 => ?_) q
  obtain ⟨rfl, v2, rfl, rfl, hI2⟩ := q2
  exact lj_same (st := []) C0 ld_843 (by decide) (K h2 hI2)
set_option maxRecDepth 20000 in
theorem lj_c26 (C0 : lj_C E p s m meth c b L xs) (hL : L ≤ 3072) (hc : n ≤ 1000) (hi : 0 ≤ i ∧ i + 5 < L) (hI : I_ n h) (K : ∀ h2, I_ (n + 1) h2 → lj_G E p e s m below meth c b 115 3612 884 (lj_ls i) [] jm_SH h2) : lj_G E p e s m below meth c b 115 3612 848 (lj_ls i) [] jm_SH h := by
  refine lj_aload C0 ld_848 rfl rfl ?_
  refine lj_invV (M' := jm_m_Top_thin) (d' := 4) (r := 0) (st := []) (av := []) C0 ld_849 jk_Top_thin jw_814 rfl (by decide) (by decide) (Nat.le_of_ble_eq_true rfl) rfl rfl rfl ?_
  refine jm_Call.mono (fun r sh1 h1 q => ?_) (st_thin hc h hI)
  obtain ⟨rfl, v1, rfl, q⟩ := q
  refine lj_aload C0 ld_852 rfl rfl ?_
  refine lj_invV (M' := jm_m_Mod_thin) (d' := 2) (r := 78) (st := [jm_I v1]) (av := []) C0 ld_853 jk_Mod_thin jw_1251 rfl (by decide) (by decide) (Nat.le_of_ble_eq_true rfl) rfl rfl rfl ?_
  refine jm_Call.mono (fun r sh2 h2 q2 => ?_) q
  obtain ⟨rfl, v2, rfl, rfl, hI2⟩ := q2
  exact lj_same (st := []) C0 ld_856 (by decide) (K h2 hI2)
set_option maxRecDepth 20000 in
theorem lj_c27 (C0 : lj_C E p s m meth c b L xs) (hL : L ≤ 3072) (hc : n ≤ 1000) (hi : 0 ≤ i ∧ i + 5 < L) (hI : I_ n h) (K : ∀ h2, I_ (n + 1) h2 → lj_G E p e s m below meth c b 115 3612 884 (lj_ls i) [] jm_SH h2) : lj_G E p e s m below meth c b 115 3612 861 (lj_ls i) [] jm_SH h := by
  refine lj_aload C0 ld_861 rfl rfl ?_
  refine lj_arg (k := 1) C0 hL ld_862 ld_863 ld_864 ld_865 ld_866 rfl hi (by decide) ?_
  refine lj_invV (M' := jm_m_Top_told) (d' := 0) (r := 0) (st := []) (av := [jm_I (xs (i + 1).toNat).toInt]) C0 ld_867 jk_Top_told jw_826 rfl (by decide) (by decide) (Nat.le_of_ble_eq_true rfl) rfl rfl rfl ?_
  refine jm_Call.mono (fun r sh1 h1 q => ?_) (st_told h hI)
  obtain ⟨rfl, v1, rfl, q⟩ := q
  refine lj_aload C0 ld_870 rfl rfl ?_
  refine lj_arg (k := 1) C0 hL ld_871 ld_872 ld_873 ld_874 ld_875 rfl hi (by decide) ?_
  refine lj_invV (M' := jm_m_Mod_told) (d' := 0) (r := 78) (st := [jm_I v1]) (av := [jm_I (xs (i + 1).toNat).toInt]) C0 ld_876 jk_Mod_told jw_1255 rfl (by decide) (by decide) (Nat.le_of_ble_eq_true rfl) rfl rfl rfl ?_
  refine jm_Call.mono (fun r sh2 h2 q2 => ?_) q
  obtain ⟨rfl, v2, rfl, rfl, hI2⟩ := q2
  exact lj_same (st := []) C0 ld_879 (by decide) (K h2 hI2)
/-- where the cases stand -/
def lj_tg : List Nat := [160, 183, 196, 209, 222, 255, 288, 321, 334, 377, 410, 433, 496, 509, 542, 555, 588, 611, 624, 647, 680, 703, 726, 739, 772, 815, 848, 861]
theorem lj_tab : ∀ t : Fin 28, (#[127, 150, 163, 176, 189, 222, 255, 288, 301, 344, 377, 400, 463, 476, 509, 522, 555, 578, 591, 614, 647, 670, 693, 706, 739, 782, 815, 828] : Array Int)[t.val]? = some (((lj_tg.getD t.val 0 : Nat) : Int) - 33) := by decide +kernel
theorem lj_cases (C0 : lj_C E p s m meth c b L xs) (hL : L ≤ 3072) (hc : n ≤ 1000) (hi : 0 ≤ i ∧ i + 5 < L) (hI : I_ n h) (K : ∀ h2, I_ (n + 1) h2 → lj_G E p e s m below meth c b 115 3612 884 (lj_ls i) [] jm_SH h2) : ∀ t, t < 28 → lj_G E p e s m below meth c b 115 3612 (lj_tg.getD t 0) (lj_ls i) [] jm_SH h
  | 0, _ => lj_c0 C0 hL hc hi hI K
  | 1, _ => lj_c1 C0 hL hc hi hI K
  | 2, _ => lj_c2 C0 hL hc hi hI K
  | 3, _ => lj_c3 C0 hL hc hi hI K
  | 4, _ => lj_c4 C0 hL hc hi hI K
  | 5, _ => lj_c5 C0 hL hc hi hI K
  | 6, _ => lj_c6 C0 hL hc hi hI K
  | 7, _ => lj_c7 C0 hL hc hi hI K
  | 8, _ => lj_c8 C0 hL hc hi hI K
  | 9, _ => lj_c9 C0 hL hc hi hI K
  | 10, _ => lj_c10 C0 hL hc hi hI K
  | 11, _ => lj_c11 C0 hL hc hi hI K
  | 12, _ => lj_c12 C0 hL hc hi hI K
  | 13, _ => lj_c13 C0 hL hc hi hI K
  | 14, _ => lj_c14 C0 hL hc hi hI K
  | 15, _ => lj_c15 C0 hL hc hi hI K
  | 16, _ => lj_c16 C0 hL hc hi hI K
  | 17, _ => lj_c17 C0 hL hc hi hI K
  | 18, _ => lj_c18 C0 hL hc hi hI K
  | 19, _ => lj_c19 C0 hL hc hi hI K
  | 20, _ => lj_c20 C0 hL hc hi hI K
  | 21, _ => lj_c21 C0 hL hc hi hI K
  | 22, _ => lj_c22 C0 hL hc hi hI K
  | 23, _ => lj_c23 C0 hL hc hi hI K
  | 24, _ => lj_c24 C0 hL hc hi hI K
  | 25, _ => lj_c25 C0 hL hc hi hI K
  | 26, _ => lj_c26 C0 hL hc hi hI K
  | 27, _ => lj_c27 C0 hL hc hi hI K
  | _ + 28, z => absurd z (by omega)
end LC
