theorem Mdl.hi {M M2 : Mem} {s : ST} (h : Mdl M s) (e : ∀ a, 50 ≤ a → M2 a = M a) : Mdl M2 s := by
  unfold Mdl RP MCon
  rw [e 50 (by omega), e 51 (by omega), e 53 (by omega), e 54 (by omega), e 55 (by omega), e 57 (by omega), e 59 (by omega), e 60 (by omega), e 61 (by omega), e 62 (by omega)]
  exact h
def LL (g : GG) (b i : Nat) : List (Option Value) := [some (.ref b), some (rv g 0), some (rv g 50), some (iv (i : Int))]
section LAWCASES
variable {g : GG} {p : Program} {e : Env} {s : State} {m : MethodId} {below : List Frame} {meth : Method} {c : Code} {b L : Nat} {xs : Nat → Int32}
theorem y_arg {pc : Nat} {st : List Value} {hp : Hp} {cells slots : Nat} (C : LC g p s m meth c b L xs) (n j : Nat) {i : Nat} {z : Int} (d0 : decode code pc = .ok (.aload_n 0, 1)) (d1 : decode code (pc + 1) = .ok (.iload_n 3, 1)) (d2 : decode code (pc + 2) = .ok (.iconst z, 1)) (d3 : decode code (pc + 3) = .ok (.iadd, 1)) (d4 : decode code (pc + 4) = .ok (.iaload, 1)) (hz : z = (j : Int)) (hj : j < 5) (hn : pc + 5 = n) (hi : i + 5 ≤ L) (k : Y g p e s m below meth c b n (LL g b i) (iv (xs (i + j)).toInt :: st) hp cells slots) : Y g p e s m below meth c b pc (LL g b i) st hp cells slots := by
  subst hz; subst hn
  refine y_aload C (pc + 1) 0 d0 rfl rfl (by decide) rfl ?_
  refine y_iload C (pc + 2) 3 d1 rfl rfl (by decide) rfl ?_
  refine y_iconst C (pc + 3) d2 rfl ?_
  refine y_iadd C (pc + 4) d3 rfl ?_
  exact y_sld C (pc + 5) d4 rfl (by omega) (by omega) k

set_option maxHeartbeats 4000000 in
theorem lc_0 (C : LC g p s m meth c b L xs) {w : ST} {M : Mem} (hC : Cls M w) (hM : Mdl M w) (hO : SOK w) {i : Nat} (hi : i + 5 ≤ L) (kk : ∀ (M3 : Mem) (w2 : ST), Cls M3 w2 → Mdl M3 w2 → SOK w2 → Y g p e s m below meth c b 1376 (LL g b i) [] (S0, R0, M3) 63 2170) : Y g p e s m below meth c b 200 (LL g b i) [] (S0, R0, M) 63 2170 := by
  refine y_aload C 201 1 dL_law_200 rfl rfl (by decide) rfl ?_
  refine y_arg C 206 1 dL_law_201 dL_law_202 dL_law_203 dL_law_204 dL_law_205 rfl (by decide) rfl hi ?_
  refine y_call C 209 [iv (xs (i + 1)).toInt] (p_feed hC hO ((xs (i + 1)).toInt) (i32_rng _)) mX6_feed kL_13 dL_law_206 rfl rfl ⟨by decide, rfl⟩ rfl rfl (Nat.le_of_ble_eq_true rfl) (by decide) ⟨Nat.le_of_ble_eq_true rfl, Nat.le_of_ble_eq_true rfl⟩ (fun v1 hp1 q1 => ?_)
  obtain ⟨r1, M2, rfl, rfl, rfl, hC2, hf2⟩ := q1
  have hM2 := hM.hi hf2
  refine y_aload C 210 2 dL_law_209 rfl rfl (by decide) rfl ?_
  refine y_arg C 215 1 dL_law_210 dL_law_211 dL_law_212 dL_law_213 dL_law_214 rfl (by decide) rfl hi ?_
  refine y_call C 218 [iv (xs (i + 1)).toInt] (r_feed hM2 hO ((xs (i + 1)).toInt) (i32_rng _)) mX7_feed kL_17 dL_law_215 rfl rfl ⟨by decide, rfl⟩ rfl rfl (Nat.le_of_ble_eq_true rfl) (by decide) ⟨Nat.le_of_ble_eq_true rfl, Nat.le_of_ble_eq_true rfl⟩ (fun v2 hp2 q2 => ?_)
  obtain ⟨r2, M3, rfl, rfl, rfl, hM3, hf3⟩ := q2
  refine y_eq C 1376 dL_law_218 (by decide) ?_
  exact kk M3 _ (hC2.keep (fun a h _ => hf3 a h)) hM3 (sok_feed hO _)

set_option maxHeartbeats 4000000 in
theorem lc_1 (C : LC g p s m meth c b L xs) {w : ST} {M : Mem} (hC : Cls M w) (hM : Mdl M w) (hO : SOK w) {i : Nat} (hi : i + 5 ≤ L) (kk : ∀ (M3 : Mem) (w2 : ST), Cls M3 w2 → Mdl M3 w2 → SOK w2 → Y g p e s m below meth c b 1376 (LL g b i) [] (S0, R0, M3) 63 2170) : Y g p e s m below meth c b 223 (LL g b i) [] (S0, R0, M) 63 2170 := by
  refine y_aload C 224 1 dL_law_223 rfl rfl (by decide) rfl ?_
  refine y_arg C 229 1 dL_law_224 dL_law_225 dL_law_226 dL_law_227 dL_law_228 rfl (by decide) rfl hi ?_
  refine y_call C 232 [iv (xs (i + 1)).toInt] (p_end hC hO ((xs (i + 1)).toInt) (i32_rng _)) mX6_end kL_18 dL_law_229 rfl rfl ⟨by decide, rfl⟩ rfl rfl (Nat.le_of_ble_eq_true rfl) (by decide) ⟨Nat.le_of_ble_eq_true rfl, Nat.le_of_ble_eq_true rfl⟩ (fun v1 hp1 q1 => ?_)
  obtain ⟨r1, M2, rfl, rfl, rfl, hC2, hf2⟩ := q1
  have hM2 := hM.hi hf2
  refine y_aload C 233 2 dL_law_232 rfl rfl (by decide) rfl ?_
  refine y_arg C 238 1 dL_law_233 dL_law_234 dL_law_235 dL_law_236 dL_law_237 rfl (by decide) rfl hi ?_
  refine y_call C 241 [iv (xs (i + 1)).toInt] (r_end hM2 hO ((xs (i + 1)).toInt) (i32_rng _)) mX7_end kL_21 dL_law_238 rfl rfl ⟨by decide, rfl⟩ rfl rfl (Nat.le_of_ble_eq_true rfl) (by decide) ⟨Nat.le_of_ble_eq_true rfl, Nat.le_of_ble_eq_true rfl⟩ (fun v2 hp2 q2 => ?_)
  obtain ⟨r2, M3, rfl, rfl, rfl, hM3, hf3⟩ := q2
  refine y_eq C 1376 dL_law_241 (by decide) ?_
  exact kk M3 _ (hC2.keep (fun a h _ => hf3 a h)) hM3 (sok_end hO _)

set_option maxHeartbeats 4000000 in
theorem lc_2 (C : LC g p s m meth c b L xs) {w : ST} {M : Mem} (hC : Cls M w) (hM : Mdl M w) (hO : SOK w) {i : Nat} (hi : i + 5 ≤ L) (kk : ∀ (M3 : Mem) (w2 : ST), Cls M3 w2 → Mdl M3 w2 → SOK w2 → Y g p e s m below meth c b 1376 (LL g b i) [] (S0, R0, M3) 63 2170) : Y g p e s m below meth c b 246 (LL g b i) [] (S0, R0, M) 63 2170 := by
  refine y_aload C 247 1 dL_law_246 rfl rfl (by decide) rfl ?_
  refine y_call C 250 [] (p_text hC hO ) mX6_text kL_22 dL_law_247 rfl rfl ⟨by decide, rfl⟩ rfl rfl (Nat.le_of_ble_eq_true rfl) (by decide) ⟨Nat.le_of_ble_eq_true rfl, Nat.le_of_ble_eq_true rfl⟩ (fun v1 hp1 q1 => ?_)
  obtain ⟨r1, M2, rfl, rfl, rfl, hC2, hf2⟩ := q1
  have hM2 := hM.hi hf2
  refine y_aload C 251 2 dL_law_250 rfl rfl (by decide) rfl ?_
  refine y_call C 254 [] (r_text hM2 hO ) mX7_text kL_26 dL_law_251 rfl rfl ⟨by decide, rfl⟩ rfl rfl (Nat.le_of_ble_eq_true rfl) (by decide) ⟨Nat.le_of_ble_eq_true rfl, Nat.le_of_ble_eq_true rfl⟩ (fun v2 hp2 q2 => ?_)
  obtain ⟨r2, M3, rfl, rfl, rfl, hM3, hf3⟩ := q2
  refine y_eq C 1376 dL_law_254 (by decide) ?_
  exact kk M3 _ (hC2.keep (fun a h _ => hf3 a h)) hM3 (sok_text hO)

set_option maxHeartbeats 4000000 in
theorem lc_3 (C : LC g p s m meth c b L xs) {w : ST} {M : Mem} (hC : Cls M w) (hM : Mdl M w) (hO : SOK w) {i : Nat} (hi : i + 5 ≤ L) (kk : ∀ (M3 : Mem) (w2 : ST), Cls M3 w2 → Mdl M3 w2 → SOK w2 → Y g p e s m below meth c b 1376 (LL g b i) [] (S0, R0, M3) 63 2170) : Y g p e s m below meth c b 259 (LL g b i) [] (S0, R0, M) 63 2170 := by
  refine y_aload C 260 1 dL_law_259 rfl rfl (by decide) rfl ?_
  refine y_call C 263 [] (p_fault hC hO ) mX6_fault kL_27 dL_law_260 rfl rfl ⟨by decide, rfl⟩ rfl rfl (Nat.le_of_ble_eq_true rfl) (by decide) ⟨Nat.le_of_ble_eq_true rfl, Nat.le_of_ble_eq_true rfl⟩ (fun v1 hp1 q1 => ?_)
  obtain ⟨r1, M2, rfl, rfl, rfl, hC2, hf2⟩ := q1
  have hM2 := hM.hi hf2
  refine y_aload C 264 2 dL_law_263 rfl rfl (by decide) rfl ?_
  refine y_call C 267 [] (r_fault hM2 hO ) mX7_fault kL_30 dL_law_264 rfl rfl ⟨by decide, rfl⟩ rfl rfl (Nat.le_of_ble_eq_true rfl) (by decide) ⟨Nat.le_of_ble_eq_true rfl, Nat.le_of_ble_eq_true rfl⟩ (fun v2 hp2 q2 => ?_)
  obtain ⟨r2, M3, rfl, rfl, rfl, hM3, hf3⟩ := q2
  refine y_eq C 1376 dL_law_267 (by decide) ?_
  exact kk M3 _ (hC2.keep (fun a h _ => hf3 a h)) hM3 hO

set_option maxHeartbeats 4000000 in
theorem lc_4 (C : LC g p s m meth c b L xs) {w : ST} {M : Mem} (hC : Cls M w) (hM : Mdl M w) (hO : SOK w) {i : Nat} (hi : i + 5 ≤ L) (kk : ∀ (M3 : Mem) (w2 : ST), Cls M3 w2 → Mdl M3 w2 → SOK w2 → Y g p e s m below meth c b 1376 (LL g b i) [] (S0, R0, M3) 63 2170) : Y g p e s m below meth c b 272 (LL g b i) [] (S0, R0, M) 63 2170 := by
  refine y_aload C 273 1 dL_law_272 rfl rfl (by decide) rfl ?_
  refine y_arg C 278 1 dL_law_273 dL_law_274 dL_law_275 dL_law_276 dL_law_277 rfl (by decide) rfl hi ?_
  refine y_call C 281 [iv (xs (i + 1)).toInt] (p_rule hC hO ((xs (i + 1)).toInt) (i32_rng _)) mX6_rule kL_31 dL_law_278 rfl rfl ⟨by decide, rfl⟩ rfl rfl (Nat.le_of_ble_eq_true rfl) (by decide) ⟨Nat.le_of_ble_eq_true rfl, Nat.le_of_ble_eq_true rfl⟩ (fun v1 hp1 q1 => ?_)
  obtain ⟨r1, M2, rfl, rfl, rfl, hC2, hf2⟩ := q1
  have hM2 := hM.hi hf2
  refine y_aload C 282 2 dL_law_281 rfl rfl (by decide) rfl ?_
  refine y_arg C 287 1 dL_law_282 dL_law_283 dL_law_284 dL_law_285 dL_law_286 rfl (by decide) rfl hi ?_
  refine y_call C 290 [iv (xs (i + 1)).toInt] (r_rule hM2 hO ((xs (i + 1)).toInt) (i32_rng _)) mX7_rule kL_34 dL_law_287 rfl rfl ⟨by decide, rfl⟩ rfl rfl (Nat.le_of_ble_eq_true rfl) (by decide) ⟨Nat.le_of_ble_eq_true rfl, Nat.le_of_ble_eq_true rfl⟩ (fun v2 hp2 q2 => ?_)
  obtain ⟨r2, M3, rfl, rfl, rfl, hM3, hf3⟩ := q2
  refine y_eq C 1376 dL_law_290 (by decide) ?_
  exact kk M3 _ (hC2.keep (fun a h _ => hf3 a h)) hM3 hO

set_option maxHeartbeats 4000000 in
theorem lc_5 (C : LC g p s m meth c b L xs) {w : ST} {M : Mem} (hC : Cls M w) (hM : Mdl M w) (hO : SOK w) {i : Nat} (hi : i + 5 ≤ L) (kk : ∀ (M3 : Mem) (w2 : ST), Cls M3 w2 → Mdl M3 w2 → SOK w2 → Y g p e s m below meth c b 1376 (LL g b i) [] (S0, R0, M3) 63 2170) : Y g p e s m below meth c b 295 (LL g b i) [] (S0, R0, M) 63 2170 := by
  refine y_aload C 296 1 dL_law_295 rfl rfl (by decide) rfl ?_
  refine y_arg C 301 1 dL_law_296 dL_law_297 dL_law_298 dL_law_299 dL_law_300 rfl (by decide) rfl hi ?_
  refine y_arg C 306 2 dL_law_301 dL_law_302 dL_law_303 dL_law_304 dL_law_305 rfl (by decide) rfl hi ?_
  refine y_call C 309 [iv (xs (i + 1)).toInt, iv (xs (i + 2)).toInt] (p_town hC hO ((xs (i + 1)).toInt) ((xs (i + 2)).toInt) (i32_rng _) (i32_rng _)) mX6_town kL_35 dL_law_306 rfl rfl ⟨by decide, rfl⟩ rfl rfl (Nat.le_of_ble_eq_true rfl) (by decide) ⟨Nat.le_of_ble_eq_true rfl, Nat.le_of_ble_eq_true rfl⟩ (fun v1 hp1 q1 => ?_)
  obtain ⟨r1, M2, rfl, rfl, rfl, hC2, hf2⟩ := q1
  have hM2 := hM.hi hf2
  refine y_aload C 310 2 dL_law_309 rfl rfl (by decide) rfl ?_
  refine y_arg C 315 1 dL_law_310 dL_law_311 dL_law_312 dL_law_313 dL_law_314 rfl (by decide) rfl hi ?_
  refine y_arg C 320 2 dL_law_315 dL_law_316 dL_law_317 dL_law_318 dL_law_319 rfl (by decide) rfl hi ?_
  refine y_call C 323 [iv (xs (i + 1)).toInt, iv (xs (i + 2)).toInt] (r_town hM2 hO ((xs (i + 1)).toInt) ((xs (i + 2)).toInt) (i32_rng _) (i32_rng _)) mX7_town kL_39 dL_law_320 rfl rfl ⟨by decide, rfl⟩ rfl rfl (Nat.le_of_ble_eq_true rfl) (by decide) ⟨Nat.le_of_ble_eq_true rfl, Nat.le_of_ble_eq_true rfl⟩ (fun v2 hp2 q2 => ?_)
  obtain ⟨r2, M3, rfl, rfl, rfl, hM3, hf3⟩ := q2
  refine y_eq C 1376 dL_law_323 (by decide) ?_
  exact kk M3 _ (hC2.keep (fun a h _ => hf3 a h)) hM3 hO

set_option maxHeartbeats 4000000 in
theorem lc_6 (C : LC g p s m meth c b L xs) {w : ST} {M : Mem} (hC : Cls M w) (hM : Mdl M w) (hO : SOK w) {i : Nat} (hi : i + 5 ≤ L) (kk : ∀ (M3 : Mem) (w2 : ST), Cls M3 w2 → Mdl M3 w2 → SOK w2 → Y g p e s m below meth c b 1376 (LL g b i) [] (S0, R0, M3) 63 2170) : Y g p e s m below meth c b 328 (LL g b i) [] (S0, R0, M) 63 2170 := by
  refine y_aload C 329 1 dL_law_328 rfl rfl (by decide) rfl ?_
  refine y_arg C 334 1 dL_law_329 dL_law_330 dL_law_331 dL_law_332 dL_law_333 rfl (by decide) rfl hi ?_
  refine y_arg C 339 2 dL_law_334 dL_law_335 dL_law_336 dL_law_337 dL_law_338 rfl (by decide) rfl hi ?_
  refine y_call C 342 [iv (xs (i + 1)).toInt, iv (xs (i + 2)).toInt] (p_fixture hC hO ((xs (i + 1)).toInt) ((xs (i + 2)).toInt) (i32_rng _) (i32_rng _)) mX6_fixture kL_40 dL_law_339 rfl rfl ⟨by decide, rfl⟩ rfl rfl (Nat.le_of_ble_eq_true rfl) (by decide) ⟨Nat.le_of_ble_eq_true rfl, Nat.le_of_ble_eq_true rfl⟩ (fun v1 hp1 q1 => ?_)
  obtain ⟨r1, M2, rfl, rfl, rfl, hC2, hf2⟩ := q1
  have hM2 := hM.hi hf2
  refine y_aload C 343 2 dL_law_342 rfl rfl (by decide) rfl ?_
  refine y_arg C 348 1 dL_law_343 dL_law_344 dL_law_345 dL_law_346 dL_law_347 rfl (by decide) rfl hi ?_
  refine y_arg C 353 2 dL_law_348 dL_law_349 dL_law_350 dL_law_351 dL_law_352 rfl (by decide) rfl hi ?_
  refine y_call C 356 [iv (xs (i + 1)).toInt, iv (xs (i + 2)).toInt] (r_fixture hM2 hO ((xs (i + 1)).toInt) ((xs (i + 2)).toInt) (i32_rng _) (i32_rng _)) mX7_fixture kL_43 dL_law_353 rfl rfl ⟨by decide, rfl⟩ rfl rfl (Nat.le_of_ble_eq_true rfl) (by decide) ⟨Nat.le_of_ble_eq_true rfl, Nat.le_of_ble_eq_true rfl⟩ (fun v2 hp2 q2 => ?_)
  obtain ⟨r2, M3, rfl, rfl, rfl, hM3, hf3⟩ := q2
  refine y_eq C 1376 dL_law_356 (by decide) ?_
  exact kk M3 _ (hC2.keep (fun a h _ => hf3 a h)) hM3 hO

set_option maxHeartbeats 4000000 in
theorem lc_7 (C : LC g p s m meth c b L xs) {w : ST} {M : Mem} (hC : Cls M w) (hM : Mdl M w) (hO : SOK w) {i : Nat} (hi : i + 5 ≤ L) (kk : ∀ (M3 : Mem) (w2 : ST), Cls M3 w2 → Mdl M3 w2 → SOK w2 → Y g p e s m below meth c b 1376 (LL g b i) [] (S0, R0, M3) 63 2170) : Y g p e s m below meth c b 361 (LL g b i) [] (S0, R0, M) 63 2170 := by
  refine y_aload C 362 1 dL_law_361 rfl rfl (by decide) rfl ?_
  refine y_arg C 367 1 dL_law_362 dL_law_363 dL_law_364 dL_law_365 dL_law_366 rfl (by decide) rfl hi ?_
  refine y_arg C 372 2 dL_law_367 dL_law_368 dL_law_369 dL_law_370 dL_law_371 rfl (by decide) rfl hi ?_
  refine y_call C 375 [iv (xs (i + 1)).toInt, iv (xs (i + 2)).toInt] (p_game hC hO ((xs (i + 1)).toInt) ((xs (i + 2)).toInt) (i32_rng _) (i32_rng _)) mX6_game kL_44 dL_law_372 rfl rfl ⟨by decide, rfl⟩ rfl rfl (Nat.le_of_ble_eq_true rfl) (by decide) ⟨Nat.le_of_ble_eq_true rfl, Nat.le_of_ble_eq_true rfl⟩ (fun v1 hp1 q1 => ?_)
  obtain ⟨r1, M2, rfl, rfl, rfl, hC2, hf2⟩ := q1
  have hM2 := hM.hi hf2
  refine y_aload C 376 2 dL_law_375 rfl rfl (by decide) rfl ?_
  refine y_arg C 381 1 dL_law_376 dL_law_377 dL_law_378 dL_law_379 dL_law_380 rfl (by decide) rfl hi ?_
  refine y_arg C 386 2 dL_law_381 dL_law_382 dL_law_383 dL_law_384 dL_law_385 rfl (by decide) rfl hi ?_
  refine y_call C 389 [iv (xs (i + 1)).toInt, iv (xs (i + 2)).toInt] (r_game hM2 hO ((xs (i + 1)).toInt) ((xs (i + 2)).toInt) (i32_rng _) (i32_rng _)) mX7_game kL_47 dL_law_386 rfl rfl ⟨by decide, rfl⟩ rfl rfl (Nat.le_of_ble_eq_true rfl) (by decide) ⟨Nat.le_of_ble_eq_true rfl, Nat.le_of_ble_eq_true rfl⟩ (fun v2 hp2 q2 => ?_)
  obtain ⟨r2, M3, rfl, rfl, rfl, hM3, hf3⟩ := q2
  refine y_eq C 1376 dL_law_389 (by decide) ?_
  exact kk M3 _ (hC2.keep (fun a h _ => hf3 a h)) hM3 hO

set_option maxHeartbeats 4000000 in
theorem lc_8 (C : LC g p s m meth c b L xs) {w : ST} {M : Mem} (hC : Cls M w) (hM : Mdl M w) (hO : SOK w) {i : Nat} (hi : i + 5 ≤ L) (kk : ∀ (M3 : Mem) (w2 : ST), Cls M3 w2 → Mdl M3 w2 → SOK w2 → Y g p e s m below meth c b 1376 (LL g b i) [] (S0, R0, M3) 63 2170) : Y g p e s m below meth c b 394 (LL g b i) [] (S0, R0, M) 63 2170 := by
  refine y_aload C 395 1 dL_law_394 rfl rfl (by decide) rfl ?_
  refine y_arg C 400 1 dL_law_395 dL_law_396 dL_law_397 dL_law_398 dL_law_399 rfl (by decide) rfl hi ?_
  refine y_arg C 405 2 dL_law_400 dL_law_401 dL_law_402 dL_law_403 dL_law_404 rfl (by decide) rfl hi ?_
  refine y_arg C 410 3 dL_law_405 dL_law_406 dL_law_407 dL_law_408 dL_law_409 rfl (by decide) rfl hi ?_
  refine y_call C 413 [iv (xs (i + 1)).toInt, iv (xs (i + 2)).toInt, iv (xs (i + 3)).toInt] (p_alter hC hO ((xs (i + 1)).toInt) ((xs (i + 2)).toInt) ((xs (i + 3)).toInt) (i32_rng _) (i32_rng _) (i32_rng _)) mX6_alter kL_48 dL_law_410 rfl rfl ⟨by decide, rfl⟩ rfl rfl (Nat.le_of_ble_eq_true rfl) (by decide) ⟨Nat.le_of_ble_eq_true rfl, Nat.le_of_ble_eq_true rfl⟩ (fun v1 hp1 q1 => ?_)
  obtain ⟨r1, M2, rfl, rfl, rfl, hC2, hf2⟩ := q1
  have hM2 := hM.hi hf2
  refine y_aload C 414 2 dL_law_413 rfl rfl (by decide) rfl ?_
  refine y_arg C 419 1 dL_law_414 dL_law_415 dL_law_416 dL_law_417 dL_law_418 rfl (by decide) rfl hi ?_
  refine y_arg C 424 2 dL_law_419 dL_law_420 dL_law_421 dL_law_422 dL_law_423 rfl (by decide) rfl hi ?_
  refine y_arg C 429 3 dL_law_424 dL_law_425 dL_law_426 dL_law_427 dL_law_428 rfl (by decide) rfl hi ?_
  refine y_call C 432 [iv (xs (i + 1)).toInt, iv (xs (i + 2)).toInt, iv (xs (i + 3)).toInt] (r_alter hM2 hO ((xs (i + 1)).toInt) ((xs (i + 2)).toInt) ((xs (i + 3)).toInt) (i32_rng _) (i32_rng _) (i32_rng _)) mX7_alter kL_52 dL_law_429 rfl rfl ⟨by decide, rfl⟩ rfl rfl (Nat.le_of_ble_eq_true rfl) (by decide) ⟨Nat.le_of_ble_eq_true rfl, Nat.le_of_ble_eq_true rfl⟩ (fun v2 hp2 q2 => ?_)
  obtain ⟨r2, M3, rfl, rfl, rfl, hM3, hf3⟩ := q2
  refine y_eq C 1376 dL_law_432 (by decide) ?_
  exact kk M3 _ (hC2.keep (fun a h _ => hf3 a h)) hM3 (sok_alter hO _ _ _)

set_option maxHeartbeats 4000000 in
theorem lc_9 (C : LC g p s m meth c b L xs) {w : ST} {M : Mem} (hC : Cls M w) (hM : Mdl M w) (hO : SOK w) {i : Nat} (hi : i + 5 ≤ L) (kk : ∀ (M3 : Mem) (w2 : ST), Cls M3 w2 → Mdl M3 w2 → SOK w2 → Y g p e s m below meth c b 1376 (LL g b i) [] (S0, R0, M3) 63 2170) : Y g p e s m below meth c b 437 (LL g b i) [] (S0, R0, M) 63 2170 := by
  refine y_aload C 438 1 dL_law_437 rfl rfl (by decide) rfl ?_
  refine y_arg C 443 1 dL_law_438 dL_law_439 dL_law_440 dL_law_441 dL_law_442 rfl (by decide) rfl hi ?_
  refine y_arg C 448 2 dL_law_443 dL_law_444 dL_law_445 dL_law_446 dL_law_447 rfl (by decide) rfl hi ?_
  refine y_arg C 453 3 dL_law_448 dL_law_449 dL_law_450 dL_law_451 dL_law_452 rfl (by decide) rfl hi ?_
  refine y_call C 456 [iv (xs (i + 1)).toInt, iv (xs (i + 2)).toInt, iv (xs (i + 3)).toInt] (p_lend hC hO ((xs (i + 1)).toInt) ((xs (i + 2)).toInt) ((xs (i + 3)).toInt) (i32_rng _) (i32_rng _) (i32_rng _)) mX6_lend kL_53 dL_law_453 rfl rfl ⟨by decide, rfl⟩ rfl rfl (Nat.le_of_ble_eq_true rfl) (by decide) ⟨Nat.le_of_ble_eq_true rfl, Nat.le_of_ble_eq_true rfl⟩ (fun v1 hp1 q1 => ?_)
  obtain ⟨r1, M2, rfl, rfl, rfl, hC2, hf2⟩ := q1
  have hM2 := hM.hi hf2
  refine y_aload C 457 2 dL_law_456 rfl rfl (by decide) rfl ?_
  refine y_arg C 462 1 dL_law_457 dL_law_458 dL_law_459 dL_law_460 dL_law_461 rfl (by decide) rfl hi ?_
  refine y_arg C 467 2 dL_law_462 dL_law_463 dL_law_464 dL_law_465 dL_law_466 rfl (by decide) rfl hi ?_
  refine y_arg C 472 3 dL_law_467 dL_law_468 dL_law_469 dL_law_470 dL_law_471 rfl (by decide) rfl hi ?_
  refine y_call C 475 [iv (xs (i + 1)).toInt, iv (xs (i + 2)).toInt, iv (xs (i + 3)).toInt] (r_lend hM2 hO ((xs (i + 1)).toInt) ((xs (i + 2)).toInt) ((xs (i + 3)).toInt) (i32_rng _) (i32_rng _) (i32_rng _)) mX7_lend kL_56 dL_law_472 rfl rfl ⟨by decide, rfl⟩ rfl rfl (Nat.le_of_ble_eq_true rfl) (by decide) ⟨Nat.le_of_ble_eq_true rfl, Nat.le_of_ble_eq_true rfl⟩ (fun v2 hp2 q2 => ?_)
  obtain ⟨r2, M3, rfl, rfl, rfl, hM3, hf3⟩ := q2
  refine y_eq C 1376 dL_law_475 (by decide) ?_
  exact kk M3 _ (hC2.keep (fun a h _ => hf3 a h)) hM3 (sok_lend hO _ _ _)

set_option maxHeartbeats 4000000 in
theorem lc_10 (C : LC g p s m meth c b L xs) {w : ST} {M : Mem} (hC : Cls M w) (hM : Mdl M w) (hO : SOK w) {i : Nat} (hi : i + 5 ≤ L) (kk : ∀ (M3 : Mem) (w2 : ST), Cls M3 w2 → Mdl M3 w2 → SOK w2 → Y g p e s m below meth c b 1376 (LL g b i) [] (S0, R0, M3) 63 2170) : Y g p e s m below meth c b 480 (LL g b i) [] (S0, R0, M) 63 2170 := by
  refine y_aload C 481 1 dL_law_480 rfl rfl (by decide) rfl ?_
  refine y_arg C 486 1 dL_law_481 dL_law_482 dL_law_483 dL_law_484 dL_law_485 rfl (by decide) rfl hi ?_
  refine y_arg C 491 2 dL_law_486 dL_law_487 dL_law_488 dL_law_489 dL_law_490 rfl (by decide) rfl hi ?_
  refine y_call C 494 [iv (xs (i + 1)).toInt, iv (xs (i + 2)).toInt] (p_book hC hO ((xs (i + 1)).toInt) ((xs (i + 2)).toInt) (i32_rng _) (i32_rng _)) mX6_book kL_57 dL_law_491 rfl rfl ⟨by decide, rfl⟩ rfl rfl (Nat.le_of_ble_eq_true rfl) (by decide) ⟨Nat.le_of_ble_eq_true rfl, Nat.le_of_ble_eq_true rfl⟩ (fun v1 hp1 q1 => ?_)
  obtain ⟨r1, M2, rfl, rfl, rfl, hC2, hf2⟩ := q1
  have hM2 := hM.hi hf2
  refine y_aload C 495 2 dL_law_494 rfl rfl (by decide) rfl ?_
  refine y_arg C 500 1 dL_law_495 dL_law_496 dL_law_497 dL_law_498 dL_law_499 rfl (by decide) rfl hi ?_
  refine y_arg C 505 2 dL_law_500 dL_law_501 dL_law_502 dL_law_503 dL_law_504 rfl (by decide) rfl hi ?_
  refine y_call C 508 [iv (xs (i + 1)).toInt, iv (xs (i + 2)).toInt] (r_book hM2 hO ((xs (i + 1)).toInt) ((xs (i + 2)).toInt) (i32_rng _) (i32_rng _)) mX7_book kL_60 dL_law_505 rfl rfl ⟨by decide, rfl⟩ rfl rfl (Nat.le_of_ble_eq_true rfl) (by decide) ⟨Nat.le_of_ble_eq_true rfl, Nat.le_of_ble_eq_true rfl⟩ (fun v2 hp2 q2 => ?_)
  obtain ⟨r2, M3, rfl, rfl, rfl, hM3, hf3⟩ := q2
  refine y_eq C 1376 dL_law_508 (by decide) ?_
  exact kk M3 _ (hC2.keep (fun a h _ => hf3 a h)) hM3 (sok_book hO _ _)

set_option maxHeartbeats 4000000 in
theorem lc_11 (C : LC g p s m meth c b L xs) {w : ST} {M : Mem} (hC : Cls M w) (hM : Mdl M w) (hO : SOK w) {i : Nat} (hi : i + 5 ≤ L) (kk : ∀ (M3 : Mem) (w2 : ST), Cls M3 w2 → Mdl M3 w2 → SOK w2 → Y g p e s m below meth c b 1376 (LL g b i) [] (S0, R0, M3) 63 2170) : Y g p e s m below meth c b 513 (LL g b i) [] (S0, R0, M) 63 2170 := by
  refine y_aload C 514 1 dL_law_513 rfl rfl (by decide) rfl ?_
  refine y_arg C 519 1 dL_law_514 dL_law_515 dL_law_516 dL_law_517 dL_law_518 rfl (by decide) rfl hi ?_
  refine y_call C 522 [iv (xs (i + 1)).toInt] (p_strike hC hO ((xs (i + 1)).toInt) (i32_rng _)) mX6_strike kL_61 dL_law_519 rfl rfl ⟨by decide, rfl⟩ rfl rfl (Nat.le_of_ble_eq_true rfl) (by decide) ⟨Nat.le_of_ble_eq_true rfl, Nat.le_of_ble_eq_true rfl⟩ (fun v1 hp1 q1 => ?_)
  obtain ⟨r1, M2, rfl, rfl, rfl, hC2, hf2⟩ := q1
  have hM2 := hM.hi hf2
  refine y_aload C 523 2 dL_law_522 rfl rfl (by decide) rfl ?_
  refine y_arg C 528 1 dL_law_523 dL_law_524 dL_law_525 dL_law_526 dL_law_527 rfl (by decide) rfl hi ?_
  refine y_call C 531 [iv (xs (i + 1)).toInt] (r_strike hM2 hO ((xs (i + 1)).toInt) (i32_rng _)) mX7_strike kL_64 dL_law_528 rfl rfl ⟨by decide, rfl⟩ rfl rfl (Nat.le_of_ble_eq_true rfl) (by decide) ⟨Nat.le_of_ble_eq_true rfl, Nat.le_of_ble_eq_true rfl⟩ (fun v2 hp2 q2 => ?_)
  obtain ⟨r2, M3, rfl, rfl, rfl, hM3, hf3⟩ := q2
  refine y_eq C 1376 dL_law_531 (by decide) ?_
  exact kk M3 _ (hC2.keep (fun a h _ => hf3 a h)) hM3 (sok_strike hO _)

set_option maxHeartbeats 4000000 in
theorem lc_12 (C : LC g p s m meth c b L xs) {w : ST} {M : Mem} (hC : Cls M w) (hM : Mdl M w) (hO : SOK w) {i : Nat} (hi : i + 5 ≤ L) (kk : ∀ (M3 : Mem) (w2 : ST), Cls M3 w2 → Mdl M3 w2 → SOK w2 → Y g p e s m below meth c b 1376 (LL g b i) [] (S0, R0, M3) 63 2170) : Y g p e s m below meth c b 536 (LL g b i) [] (S0, R0, M) 63 2170 := by
  refine y_aload C 537 1 dL_law_536 rfl rfl (by decide) rfl ?_
  refine y_arg C 542 1 dL_law_537 dL_law_538 dL_law_539 dL_law_540 dL_law_541 rfl (by decide) rfl hi ?_
  refine y_call C 545 [iv (xs (i + 1)).toInt] (p_weeks hC hO ((xs (i + 1)).toInt) (i32_rng _)) mX6_weeks kL_65 dL_law_542 rfl rfl ⟨by decide, rfl⟩ rfl rfl (Nat.le_of_ble_eq_true rfl) (by decide) ⟨Nat.le_of_ble_eq_true rfl, Nat.le_of_ble_eq_true rfl⟩ (fun v1 hp1 q1 => ?_)
  obtain ⟨r1, M2, rfl, rfl, rfl, hC2, hf2⟩ := q1
  have hM2 := hM.hi hf2
  refine y_aload C 546 2 dL_law_545 rfl rfl (by decide) rfl ?_
  refine y_arg C 551 1 dL_law_546 dL_law_547 dL_law_548 dL_law_549 dL_law_550 rfl (by decide) rfl hi ?_
  refine y_call C 554 [iv (xs (i + 1)).toInt] (r_weeks hM2 hO ((xs (i + 1)).toInt) (i32_rng _)) mX7_weeks kL_68 dL_law_551 rfl rfl ⟨by decide, rfl⟩ rfl rfl (Nat.le_of_ble_eq_true rfl) (by decide) ⟨Nat.le_of_ble_eq_true rfl, Nat.le_of_ble_eq_true rfl⟩ (fun v2 hp2 q2 => ?_)
  obtain ⟨r2, M3, rfl, rfl, rfl, hM3, hf3⟩ := q2
  refine y_eq C 1376 dL_law_554 (by decide) ?_
  exact kk M3 _ (hC2.keep (fun a h _ => hf3 a h)) hM3 (sok_weeks hO _)

set_option maxHeartbeats 4000000 in
theorem lc_13 (C : LC g p s m meth c b L xs) {w : ST} {M : Mem} (hC : Cls M w) (hM : Mdl M w) (hO : SOK w) {i : Nat} (hi : i + 5 ≤ L) (kk : ∀ (M3 : Mem) (w2 : ST), Cls M3 w2 → Mdl M3 w2 → SOK w2 → Y g p e s m below meth c b 1376 (LL g b i) [] (S0, R0, M3) 63 2170) : Y g p e s m below meth c b 559 (LL g b i) [] (S0, R0, M) 63 2170 := by
  refine y_aload C 560 1 dL_law_559 rfl rfl (by decide) rfl ?_
  refine y_arg C 565 1 dL_law_560 dL_law_561 dL_law_562 dL_law_563 dL_law_564 rfl (by decide) rfl hi ?_
  refine y_arg C 570 2 dL_law_565 dL_law_566 dL_law_567 dL_law_568 dL_law_569 rfl (by decide) rfl hi ?_
  refine y_call C 573 [iv (xs (i + 1)).toInt, iv (xs (i + 2)).toInt] (p_runs hC hO ((xs (i + 1)).toInt) ((xs (i + 2)).toInt) (i32_rng _) (i32_rng _)) mX6_runs kL_69 dL_law_570 rfl rfl ⟨by decide, rfl⟩ rfl rfl (Nat.le_of_ble_eq_true rfl) (by decide) ⟨Nat.le_of_ble_eq_true rfl, Nat.le_of_ble_eq_true rfl⟩ (fun v1 hp1 q1 => ?_)
  obtain ⟨r1, M2, rfl, rfl, rfl, hC2, hf2⟩ := q1
  have hM2 := hM.hi hf2
  refine y_aload C 574 2 dL_law_573 rfl rfl (by decide) rfl ?_
  refine y_arg C 579 1 dL_law_574 dL_law_575 dL_law_576 dL_law_577 dL_law_578 rfl (by decide) rfl hi ?_
  refine y_arg C 584 2 dL_law_579 dL_law_580 dL_law_581 dL_law_582 dL_law_583 rfl (by decide) rfl hi ?_
  refine y_call C 587 [iv (xs (i + 1)).toInt, iv (xs (i + 2)).toInt] (r_runs hM2 hO ((xs (i + 1)).toInt) ((xs (i + 2)).toInt) (i32_rng _) (i32_rng _)) mX7_runs kL_72 dL_law_584 rfl rfl ⟨by decide, rfl⟩ rfl rfl (Nat.le_of_ble_eq_true rfl) (by decide) ⟨Nat.le_of_ble_eq_true rfl, Nat.le_of_ble_eq_true rfl⟩ (fun v2 hp2 q2 => ?_)
  obtain ⟨r2, M3, rfl, rfl, rfl, hM3, hf3⟩ := q2
  refine y_eq C 1376 dL_law_587 (by decide) ?_
  exact kk M3 _ (hC2.keep (fun a h _ => hf3 a h)) hM3 hO

set_option maxHeartbeats 4000000 in
theorem lc_14 (C : LC g p s m meth c b L xs) {w : ST} {M : Mem} (hC : Cls M w) (hM : Mdl M w) (hO : SOK w) {i : Nat} (hi : i + 5 ≤ L) (kk : ∀ (M3 : Mem) (w2 : ST), Cls M3 w2 → Mdl M3 w2 → SOK w2 → Y g p e s m below meth c b 1376 (LL g b i) [] (S0, R0, M3) 63 2170) : Y g p e s m below meth c b 592 (LL g b i) [] (S0, R0, M) 63 2170 := by
  refine y_aload C 593 1 dL_law_592 rfl rfl (by decide) rfl ?_
  refine y_arg C 598 1 dL_law_593 dL_law_594 dL_law_595 dL_law_596 dL_law_597 rfl (by decide) rfl hi ?_
  refine y_arg C 603 2 dL_law_598 dL_law_599 dL_law_600 dL_law_601 dL_law_602 rfl (by decide) rfl hi ?_
  refine y_arg C 608 3 dL_law_603 dL_law_604 dL_law_605 dL_law_606 dL_law_607 rfl (by decide) rfl hi ?_
  refine y_call C 611 [iv (xs (i + 1)).toInt, iv (xs (i + 2)).toInt, iv (xs (i + 3)).toInt] (p_ahead hC hO ((xs (i + 1)).toInt) ((xs (i + 2)).toInt) ((xs (i + 3)).toInt) (i32_rng _) (i32_rng _) (i32_rng _)) mX6_ahead kL_73 dL_law_608 rfl rfl ⟨by decide, rfl⟩ rfl rfl (Nat.le_of_ble_eq_true rfl) (by decide) ⟨Nat.le_of_ble_eq_true rfl, Nat.le_of_ble_eq_true rfl⟩ (fun v1 hp1 q1 => ?_)
  obtain ⟨r1, M2, rfl, rfl, rfl, hC2, hf2⟩ := q1
  have hM2 := hM.hi hf2
  refine y_aload C 612 2 dL_law_611 rfl rfl (by decide) rfl ?_
  refine y_arg C 617 1 dL_law_612 dL_law_613 dL_law_614 dL_law_615 dL_law_616 rfl (by decide) rfl hi ?_
  refine y_arg C 622 2 dL_law_617 dL_law_618 dL_law_619 dL_law_620 dL_law_621 rfl (by decide) rfl hi ?_
  refine y_arg C 627 3 dL_law_622 dL_law_623 dL_law_624 dL_law_625 dL_law_626 rfl (by decide) rfl hi ?_
  refine y_call C 630 [iv (xs (i + 1)).toInt, iv (xs (i + 2)).toInt, iv (xs (i + 3)).toInt] (r_ahead hM2 hO ((xs (i + 1)).toInt) ((xs (i + 2)).toInt) ((xs (i + 3)).toInt) (i32_rng _) (i32_rng _) (i32_rng _)) mX7_ahead kL_76 dL_law_627 rfl rfl ⟨by decide, rfl⟩ rfl rfl (Nat.le_of_ble_eq_true rfl) (by decide) ⟨Nat.le_of_ble_eq_true rfl, Nat.le_of_ble_eq_true rfl⟩ (fun v2 hp2 q2 => ?_)
  obtain ⟨r2, M3, rfl, rfl, rfl, hM3, hf3⟩ := q2
  refine y_eq C 1376 dL_law_630 (by decide) ?_
  exact kk M3 _ (hC2.keep (fun a h _ => hf3 a h)) hM3 hO

set_option maxHeartbeats 4000000 in
theorem lc_15 (C : LC g p s m meth c b L xs) {w : ST} {M : Mem} (hC : Cls M w) (hM : Mdl M w) (hO : SOK w) {i : Nat} (hi : i + 5 ≤ L) (kk : ∀ (M3 : Mem) (w2 : ST), Cls M3 w2 → Mdl M3 w2 → SOK w2 → Y g p e s m below meth c b 1376 (LL g b i) [] (S0, R0, M3) 63 2170) : Y g p e s m below meth c b 635 (LL g b i) [] (S0, R0, M) 63 2170 := by
  refine y_aload C 636 1 dL_law_635 rfl rfl (by decide) rfl ?_
  refine y_arg C 641 1 dL_law_636 dL_law_637 dL_law_638 dL_law_639 dL_law_640 rfl (by decide) rfl hi ?_
  refine y_call C 644 [iv (xs (i + 1)).toInt] (p_loser hC hO ((xs (i + 1)).toInt) (i32_rng _)) mX6_loser kL_77 dL_law_641 rfl rfl ⟨by decide, rfl⟩ rfl rfl (Nat.le_of_ble_eq_true rfl) (by decide) ⟨Nat.le_of_ble_eq_true rfl, Nat.le_of_ble_eq_true rfl⟩ (fun v1 hp1 q1 => ?_)
  obtain ⟨r1, M2, rfl, rfl, rfl, hC2, hf2⟩ := q1
  have hM2 := hM.hi hf2
  refine y_aload C 645 2 dL_law_644 rfl rfl (by decide) rfl ?_
  refine y_arg C 650 1 dL_law_645 dL_law_646 dL_law_647 dL_law_648 dL_law_649 rfl (by decide) rfl hi ?_
  refine y_call C 653 [iv (xs (i + 1)).toInt] (r_loser hM2 hO ((xs (i + 1)).toInt) (i32_rng _)) mX7_loser kL_80 dL_law_650 rfl rfl ⟨by decide, rfl⟩ rfl rfl (Nat.le_of_ble_eq_true rfl) (by decide) ⟨Nat.le_of_ble_eq_true rfl, Nat.le_of_ble_eq_true rfl⟩ (fun v2 hp2 q2 => ?_)
  obtain ⟨r2, M3, rfl, rfl, rfl, hM3, hf3⟩ := q2
  refine y_eq C 1376 dL_law_653 (by decide) ?_
  exact kk M3 _ (hC2.keep (fun a h _ => hf3 a h)) hM3 hO

set_option maxHeartbeats 4000000 in
theorem lc_16 (C : LC g p s m meth c b L xs) {w : ST} {M : Mem} (hC : Cls M w) (hM : Mdl M w) (hO : SOK w) {i : Nat} (hi : i + 5 ≤ L) (kk : ∀ (M3 : Mem) (w2 : ST), Cls M3 w2 → Mdl M3 w2 → SOK w2 → Y g p e s m below meth c b 1376 (LL g b i) [] (S0, R0, M3) 63 2170) : Y g p e s m below meth c b 658 (LL g b i) [] (S0, R0, M) 63 2170 := by
  refine y_aload C 659 1 dL_law_658 rfl rfl (by decide) rfl ?_
  refine y_arg C 664 1 dL_law_659 dL_law_660 dL_law_661 dL_law_662 dL_law_663 rfl (by decide) rfl hi ?_
  refine y_call C 667 [iv (xs (i + 1)).toInt] (p_loses hC hO ((xs (i + 1)).toInt) (i32_rng _)) mX6_loses kL_81 dL_law_664 rfl rfl ⟨by decide, rfl⟩ rfl rfl (Nat.le_of_ble_eq_true rfl) (by decide) ⟨Nat.le_of_ble_eq_true rfl, Nat.le_of_ble_eq_true rfl⟩ (fun v1 hp1 q1 => ?_)
  obtain ⟨r1, M2, rfl, rfl, rfl, hC2, hf2⟩ := q1
  have hM2 := hM.hi hf2
  refine y_aload C 668 2 dL_law_667 rfl rfl (by decide) rfl ?_
  refine y_arg C 673 1 dL_law_668 dL_law_669 dL_law_670 dL_law_671 dL_law_672 rfl (by decide) rfl hi ?_
  refine y_call C 676 [iv (xs (i + 1)).toInt] (r_loses hM2 hO ((xs (i + 1)).toInt) (i32_rng _)) mX7_loses kL_84 dL_law_673 rfl rfl ⟨by decide, rfl⟩ rfl rfl (Nat.le_of_ble_eq_true rfl) (by decide) ⟨Nat.le_of_ble_eq_true rfl, Nat.le_of_ble_eq_true rfl⟩ (fun v2 hp2 q2 => ?_)
  obtain ⟨r2, M3, rfl, rfl, rfl, hM3, hf3⟩ := q2
  refine y_eq C 1376 dL_law_676 (by decide) ?_
  exact kk M3 _ (hC2.keep (fun a h _ => hf3 a h)) hM3 hO

set_option maxHeartbeats 4000000 in
theorem lc_17 (C : LC g p s m meth c b L xs) {w : ST} {M : Mem} (hC : Cls M w) (hM : Mdl M w) (hO : SOK w) {i : Nat} (hi : i + 5 ≤ L) (kk : ∀ (M3 : Mem) (w2 : ST), Cls M3 w2 → Mdl M3 w2 → SOK w2 → Y g p e s m below meth c b 1376 (LL g b i) [] (S0, R0, M3) 63 2170) : Y g p e s m below meth c b 681 (LL g b i) [] (S0, R0, M) 63 2170 := by
  refine y_aload C 682 1 dL_law_681 rfl rfl (by decide) rfl ?_
  refine y_arg C 687 1 dL_law_682 dL_law_683 dL_law_684 dL_law_685 dL_law_686 rfl (by decide) rfl hi ?_
  refine y_call C 690 [iv (xs (i + 1)).toInt] (p_order hC hO ((xs (i + 1)).toInt) (i32_rng _)) mX6_order kL_85 dL_law_687 rfl rfl ⟨by decide, rfl⟩ rfl rfl (Nat.le_of_ble_eq_true rfl) (by decide) ⟨Nat.le_of_ble_eq_true rfl, Nat.le_of_ble_eq_true rfl⟩ (fun v1 hp1 q1 => ?_)
  obtain ⟨r1, M2, rfl, rfl, rfl, hC2, hf2⟩ := q1
  have hM2 := hM.hi hf2
  refine y_aload C 691 2 dL_law_690 rfl rfl (by decide) rfl ?_
  refine y_arg C 696 1 dL_law_691 dL_law_692 dL_law_693 dL_law_694 dL_law_695 rfl (by decide) rfl hi ?_
  refine y_call C 699 [iv (xs (i + 1)).toInt] (r_order hM2 hO ((xs (i + 1)).toInt) (i32_rng _)) mX7_order kL_88 dL_law_696 rfl rfl ⟨by decide, rfl⟩ rfl rfl (Nat.le_of_ble_eq_true rfl) (by decide) ⟨Nat.le_of_ble_eq_true rfl, Nat.le_of_ble_eq_true rfl⟩ (fun v2 hp2 q2 => ?_)
  obtain ⟨r2, M3, rfl, rfl, rfl, hM3, hf3⟩ := q2
  refine y_eq C 1376 dL_law_699 (by decide) ?_
  exact kk M3 _ (hC2.keep (fun a h _ => hf3 a h)) hM3 hO

set_option maxHeartbeats 4000000 in
theorem lc_18 (C : LC g p s m meth c b L xs) {w : ST} {M : Mem} (hC : Cls M w) (hM : Mdl M w) (hO : SOK w) {i : Nat} (hi : i + 5 ≤ L) (kk : ∀ (M3 : Mem) (w2 : ST), Cls M3 w2 → Mdl M3 w2 → SOK w2 → Y g p e s m below meth c b 1376 (LL g b i) [] (S0, R0, M3) 63 2170) : Y g p e s m below meth c b 704 (LL g b i) [] (S0, R0, M) 63 2170 := by
  refine y_aload C 705 1 dL_law_704 rfl rfl (by decide) rfl ?_
  refine y_arg C 710 1 dL_law_705 dL_law_706 dL_law_707 dL_law_708 dL_law_709 rfl (by decide) rfl hi ?_
  refine y_arg C 715 2 dL_law_710 dL_law_711 dL_law_712 dL_law_713 dL_law_714 rfl (by decide) rfl hi ?_
  refine y_call C 718 [iv (xs (i + 1)).toInt, iv (xs (i + 2)).toInt] (p_loan hC hO ((xs (i + 1)).toInt) ((xs (i + 2)).toInt) (i32_rng _) (i32_rng _)) mX6_loan kL_89 dL_law_715 rfl rfl ⟨by decide, rfl⟩ rfl rfl (Nat.le_of_ble_eq_true rfl) (by decide) ⟨Nat.le_of_ble_eq_true rfl, Nat.le_of_ble_eq_true rfl⟩ (fun v1 hp1 q1 => ?_)
  obtain ⟨r1, M2, rfl, rfl, rfl, hC2, hf2⟩ := q1
  have hM2 := hM.hi hf2
  refine y_aload C 719 2 dL_law_718 rfl rfl (by decide) rfl ?_
  refine y_arg C 724 1 dL_law_719 dL_law_720 dL_law_721 dL_law_722 dL_law_723 rfl (by decide) rfl hi ?_
  refine y_arg C 729 2 dL_law_724 dL_law_725 dL_law_726 dL_law_727 dL_law_728 rfl (by decide) rfl hi ?_
  refine y_call C 732 [iv (xs (i + 1)).toInt, iv (xs (i + 2)).toInt] (r_loan hM2 hO ((xs (i + 1)).toInt) ((xs (i + 2)).toInt) (i32_rng _) (i32_rng _)) mX7_loan kL_92 dL_law_729 rfl rfl ⟨by decide, rfl⟩ rfl rfl (Nat.le_of_ble_eq_true rfl) (by decide) ⟨Nat.le_of_ble_eq_true rfl, Nat.le_of_ble_eq_true rfl⟩ (fun v2 hp2 q2 => ?_)
  obtain ⟨r2, M3, rfl, rfl, rfl, hM3, hf3⟩ := q2
  refine y_eq C 1376 dL_law_732 (by decide) ?_
  exact kk M3 _ (hC2.keep (fun a h _ => hf3 a h)) hM3 hO

set_option maxHeartbeats 4000000 in
theorem lc_19 (C : LC g p s m meth c b L xs) {w : ST} {M : Mem} (hC : Cls M w) (hM : Mdl M w) (hO : SOK w) {i : Nat} (hi : i + 5 ≤ L) (kk : ∀ (M3 : Mem) (w2 : ST), Cls M3 w2 → Mdl M3 w2 → SOK w2 → Y g p e s m below meth c b 1376 (LL g b i) [] (S0, R0, M3) 63 2170) : Y g p e s m below meth c b 737 (LL g b i) [] (S0, R0, M) 63 2170 := by
  refine y_aload C 738 1 dL_law_737 rfl rfl (by decide) rfl ?_
  refine y_arg C 743 1 dL_law_738 dL_law_739 dL_law_740 dL_law_741 dL_law_742 rfl (by decide) rfl hi ?_
  refine y_arg C 748 2 dL_law_743 dL_law_744 dL_law_745 dL_law_746 dL_law_747 rfl (by decide) rfl hi ?_
  refine y_call C 751 [iv (xs (i + 1)).toInt, iv (xs (i + 2)).toInt] (p_swap hC hO ((xs (i + 1)).toInt) ((xs (i + 2)).toInt) (i32_rng _) (i32_rng _)) mX6_swap kL_93 dL_law_748 rfl rfl ⟨by decide, rfl⟩ rfl rfl (Nat.le_of_ble_eq_true rfl) (by decide) ⟨Nat.le_of_ble_eq_true rfl, Nat.le_of_ble_eq_true rfl⟩ (fun v1 hp1 q1 => ?_)
  obtain ⟨r1, M2, rfl, rfl, rfl, hC2, hf2⟩ := q1
  have hM2 := hM.hi hf2
  refine y_aload C 752 2 dL_law_751 rfl rfl (by decide) rfl ?_
  refine y_arg C 757 1 dL_law_752 dL_law_753 dL_law_754 dL_law_755 dL_law_756 rfl (by decide) rfl hi ?_
  refine y_arg C 762 2 dL_law_757 dL_law_758 dL_law_759 dL_law_760 dL_law_761 rfl (by decide) rfl hi ?_
  refine y_call C 765 [iv (xs (i + 1)).toInt, iv (xs (i + 2)).toInt] (r_swap hM2 hO ((xs (i + 1)).toInt) ((xs (i + 2)).toInt) (i32_rng _) (i32_rng _)) mX7_swap kL_96 dL_law_762 rfl rfl ⟨by decide, rfl⟩ rfl rfl (Nat.le_of_ble_eq_true rfl) (by decide) ⟨Nat.le_of_ble_eq_true rfl, Nat.le_of_ble_eq_true rfl⟩ (fun v2 hp2 q2 => ?_)
  obtain ⟨r2, M3, rfl, rfl, rfl, hM3, hf3⟩ := q2
  refine y_eq C 1376 dL_law_765 (by decide) ?_
  exact kk M3 _ (hC2.keep (fun a h _ => hf3 a h)) hM3 hO

set_option maxHeartbeats 4000000 in
theorem lc_20 (C : LC g p s m meth c b L xs) {w : ST} {M : Mem} (hC : Cls M w) (hM : Mdl M w) (hO : SOK w) {i : Nat} (hi : i + 5 ≤ L) (kk : ∀ (M3 : Mem) (w2 : ST), Cls M3 w2 → Mdl M3 w2 → SOK w2 → Y g p e s m below meth c b 1376 (LL g b i) [] (S0, R0, M3) 63 2170) : Y g p e s m below meth c b 770 (LL g b i) [] (S0, R0, M) 63 2170 := by
  refine y_aload C 771 1 dL_law_770 rfl rfl (by decide) rfl ?_
  refine y_arg C 776 1 dL_law_771 dL_law_772 dL_law_773 dL_law_774 dL_law_775 rfl (by decide) rfl hi ?_
  refine y_arg C 781 2 dL_law_776 dL_law_777 dL_law_778 dL_law_779 dL_law_780 rfl (by decide) rfl hi ?_
  refine y_call C 784 [iv (xs (i + 1)).toInt, iv (xs (i + 2)).toInt] (p_skip hC hO ((xs (i + 1)).toInt) ((xs (i + 2)).toInt) (i32_rng _) (i32_rng _)) mX6_skip kL_97 dL_law_781 rfl rfl ⟨by decide, rfl⟩ rfl rfl (Nat.le_of_ble_eq_true rfl) (by decide) ⟨Nat.le_of_ble_eq_true rfl, Nat.le_of_ble_eq_true rfl⟩ (fun v1 hp1 q1 => ?_)
  obtain ⟨r1, M2, rfl, rfl, rfl, hC2, hf2⟩ := q1
  have hM2 := hM.hi hf2
  refine y_aload C 785 2 dL_law_784 rfl rfl (by decide) rfl ?_
  refine y_arg C 790 1 dL_law_785 dL_law_786 dL_law_787 dL_law_788 dL_law_789 rfl (by decide) rfl hi ?_
  refine y_arg C 795 2 dL_law_790 dL_law_791 dL_law_792 dL_law_793 dL_law_794 rfl (by decide) rfl hi ?_
  refine y_call C 798 [iv (xs (i + 1)).toInt, iv (xs (i + 2)).toInt] (r_skip hM2 hO ((xs (i + 1)).toInt) ((xs (i + 2)).toInt) (i32_rng _) (i32_rng _)) mX7_skip kL_100 dL_law_795 rfl rfl ⟨by decide, rfl⟩ rfl rfl (Nat.le_of_ble_eq_true rfl) (by decide) ⟨Nat.le_of_ble_eq_true rfl, Nat.le_of_ble_eq_true rfl⟩ (fun v2 hp2 q2 => ?_)
  obtain ⟨r2, M3, rfl, rfl, rfl, hM3, hf3⟩ := q2
  refine y_eq C 1376 dL_law_798 (by decide) ?_
  exact kk M3 _ (hC2.keep (fun a h _ => hf3 a h)) hM3 hO

set_option maxHeartbeats 4000000 in
theorem lc_21 (C : LC g p s m meth c b L xs) {w : ST} {M : Mem} (hC : Cls M w) (hM : Mdl M w) (hO : SOK w) {i : Nat} (hi : i + 5 ≤ L) (kk : ∀ (M3 : Mem) (w2 : ST), Cls M3 w2 → Mdl M3 w2 → SOK w2 → Y g p e s m below meth c b 1376 (LL g b i) [] (S0, R0, M3) 63 2170) : Y g p e s m below meth c b 803 (LL g b i) [] (S0, R0, M) 63 2170 := by
  refine y_aload C 804 1 dL_law_803 rfl rfl (by decide) rfl ?_
  refine y_arg C 809 1 dL_law_804 dL_law_805 dL_law_806 dL_law_807 dL_law_808 rfl (by decide) rfl hi ?_
  refine y_arg C 814 2 dL_law_809 dL_law_810 dL_law_811 dL_law_812 dL_law_813 rfl (by decide) rfl hi ?_
  refine y_call C 817 [iv (xs (i + 1)).toInt, iv (xs (i + 2)).toInt] (p_most hC hO ((xs (i + 1)).toInt) ((xs (i + 2)).toInt) (i32_rng _) (i32_rng _)) mX6_most kL_101 dL_law_814 rfl rfl ⟨by decide, rfl⟩ rfl rfl (Nat.le_of_ble_eq_true rfl) (by decide) ⟨Nat.le_of_ble_eq_true rfl, Nat.le_of_ble_eq_true rfl⟩ (fun v1 hp1 q1 => ?_)
  obtain ⟨r1, M2, rfl, rfl, rfl, hC2, hf2⟩ := q1
  have hM2 := hM.hi hf2
  refine y_aload C 818 2 dL_law_817 rfl rfl (by decide) rfl ?_
  refine y_arg C 823 1 dL_law_818 dL_law_819 dL_law_820 dL_law_821 dL_law_822 rfl (by decide) rfl hi ?_
  refine y_arg C 828 2 dL_law_823 dL_law_824 dL_law_825 dL_law_826 dL_law_827 rfl (by decide) rfl hi ?_
  refine y_call C 831 [iv (xs (i + 1)).toInt, iv (xs (i + 2)).toInt] (r_most hM2 hO ((xs (i + 1)).toInt) ((xs (i + 2)).toInt) (i32_rng _) (i32_rng _)) mX7_most kL_104 dL_law_828 rfl rfl ⟨by decide, rfl⟩ rfl rfl (Nat.le_of_ble_eq_true rfl) (by decide) ⟨Nat.le_of_ble_eq_true rfl, Nat.le_of_ble_eq_true rfl⟩ (fun v2 hp2 q2 => ?_)
  obtain ⟨r2, M3, rfl, rfl, rfl, hM3, hf3⟩ := q2
  refine y_eq C 1376 dL_law_831 (by decide) ?_
  exact kk M3 _ (hC2.keep (fun a h _ => hf3 a h)) hM3 hO

set_option maxHeartbeats 4000000 in
theorem lc_22 (C : LC g p s m meth c b L xs) {w : ST} {M : Mem} (hC : Cls M w) (hM : Mdl M w) (hO : SOK w) {i : Nat} (hi : i + 5 ≤ L) (kk : ∀ (M3 : Mem) (w2 : ST), Cls M3 w2 → Mdl M3 w2 → SOK w2 → Y g p e s m below meth c b 1376 (LL g b i) [] (S0, R0, M3) 63 2170) : Y g p e s m below meth c b 836 (LL g b i) [] (S0, R0, M) 63 2170 := by
  refine y_aload C 837 1 dL_law_836 rfl rfl (by decide) rfl ?_
  refine y_arg C 842 1 dL_law_837 dL_law_838 dL_law_839 dL_law_840 dL_law_841 rfl (by decide) rfl hi ?_
  refine y_arg C 847 2 dL_law_842 dL_law_843 dL_law_844 dL_law_845 dL_law_846 rfl (by decide) rfl hi ?_
  refine y_arg C 852 3 dL_law_847 dL_law_848 dL_law_849 dL_law_850 dL_law_851 rfl (by decide) rfl hi ?_
  refine y_call C 855 [iv (xs (i + 1)).toInt, iv (xs (i + 2)).toInt, iv (xs (i + 3)).toInt] (p_kind hC hO ((xs (i + 1)).toInt) ((xs (i + 2)).toInt) ((xs (i + 3)).toInt) (i32_rng _) (i32_rng _) (i32_rng _)) mX6_kind kL_105 dL_law_852 rfl rfl ⟨by decide, rfl⟩ rfl rfl (Nat.le_of_ble_eq_true rfl) (by decide) ⟨Nat.le_of_ble_eq_true rfl, Nat.le_of_ble_eq_true rfl⟩ (fun v1 hp1 q1 => ?_)
  obtain ⟨r1, M2, rfl, rfl, rfl, hC2, hf2⟩ := q1
  have hM2 := hM.hi hf2
  refine y_aload C 856 2 dL_law_855 rfl rfl (by decide) rfl ?_
  refine y_arg C 861 1 dL_law_856 dL_law_857 dL_law_858 dL_law_859 dL_law_860 rfl (by decide) rfl hi ?_
  refine y_arg C 866 2 dL_law_861 dL_law_862 dL_law_863 dL_law_864 dL_law_865 rfl (by decide) rfl hi ?_
  refine y_arg C 871 3 dL_law_866 dL_law_867 dL_law_868 dL_law_869 dL_law_870 rfl (by decide) rfl hi ?_
  refine y_call C 874 [iv (xs (i + 1)).toInt, iv (xs (i + 2)).toInt, iv (xs (i + 3)).toInt] (r_kind hM2 hO ((xs (i + 1)).toInt) ((xs (i + 2)).toInt) ((xs (i + 3)).toInt) (i32_rng _) (i32_rng _) (i32_rng _)) mX7_kind kL_108 dL_law_871 rfl rfl ⟨by decide, rfl⟩ rfl rfl (Nat.le_of_ble_eq_true rfl) (by decide) ⟨Nat.le_of_ble_eq_true rfl, Nat.le_of_ble_eq_true rfl⟩ (fun v2 hp2 q2 => ?_)
  obtain ⟨r2, M3, rfl, rfl, rfl, hM3, hf3⟩ := q2
  refine y_eq C 1376 dL_law_874 (by decide) ?_
  exact kk M3 _ (hC2.keep (fun a h _ => hf3 a h)) hM3 hO

set_option maxHeartbeats 4000000 in
theorem lc_23 (C : LC g p s m meth c b L xs) {w : ST} {M : Mem} (hC : Cls M w) (hM : Mdl M w) (hO : SOK w) {i : Nat} (hi : i + 5 ≤ L) (kk : ∀ (M3 : Mem) (w2 : ST), Cls M3 w2 → Mdl M3 w2 → SOK w2 → Y g p e s m below meth c b 1376 (LL g b i) [] (S0, R0, M3) 63 2170) : Y g p e s m below meth c b 879 (LL g b i) [] (S0, R0, M) 63 2170 := by
  refine y_aload C 880 1 dL_law_879 rfl rfl (by decide) rfl ?_
  refine y_arg C 885 1 dL_law_880 dL_law_881 dL_law_882 dL_law_883 dL_law_884 rfl (by decide) rfl hi ?_
  refine y_arg C 890 2 dL_law_885 dL_law_886 dL_law_887 dL_law_888 dL_law_889 rfl (by decide) rfl hi ?_
  refine y_arg C 895 3 dL_law_890 dL_law_891 dL_law_892 dL_law_893 dL_law_894 rfl (by decide) rfl hi ?_
  refine y_arg C 900 4 dL_law_895 dL_law_896 dL_law_897 dL_law_898 dL_law_899 rfl (by decide) rfl hi ?_
  refine y_call C 903 [iv (xs (i + 1)).toInt, iv (xs (i + 2)).toInt, iv (xs (i + 3)).toInt, iv (xs (i + 4)).toInt] (p_luck hC hO ((xs (i + 1)).toInt) ((xs (i + 2)).toInt) ((xs (i + 3)).toInt) ((xs (i + 4)).toInt) (i32_rng _) (i32_rng _) (i32_rng _) (i32_rng _)) mX6_luck kL_109 dL_law_900 rfl rfl ⟨by decide, rfl⟩ rfl rfl (Nat.le_of_ble_eq_true rfl) (by decide) ⟨Nat.le_of_ble_eq_true rfl, Nat.le_of_ble_eq_true rfl⟩ (fun v1 hp1 q1 => ?_)
  obtain ⟨r1, M2, rfl, rfl, rfl, hC2, hf2⟩ := q1
  have hM2 := hM.hi hf2
  refine y_aload C 904 2 dL_law_903 rfl rfl (by decide) rfl ?_
  refine y_arg C 909 1 dL_law_904 dL_law_905 dL_law_906 dL_law_907 dL_law_908 rfl (by decide) rfl hi ?_
  refine y_arg C 914 2 dL_law_909 dL_law_910 dL_law_911 dL_law_912 dL_law_913 rfl (by decide) rfl hi ?_
  refine y_arg C 919 3 dL_law_914 dL_law_915 dL_law_916 dL_law_917 dL_law_918 rfl (by decide) rfl hi ?_
  refine y_arg C 924 4 dL_law_919 dL_law_920 dL_law_921 dL_law_922 dL_law_923 rfl (by decide) rfl hi ?_
  refine y_call C 927 [iv (xs (i + 1)).toInt, iv (xs (i + 2)).toInt, iv (xs (i + 3)).toInt, iv (xs (i + 4)).toInt] (r_luck hM2 hO ((xs (i + 1)).toInt) ((xs (i + 2)).toInt) ((xs (i + 3)).toInt) ((xs (i + 4)).toInt) (i32_rng _) (i32_rng _) (i32_rng _) (i32_rng _)) mX7_luck kL_113 dL_law_924 rfl rfl ⟨by decide, rfl⟩ rfl rfl (Nat.le_of_ble_eq_true rfl) (by decide) ⟨Nat.le_of_ble_eq_true rfl, Nat.le_of_ble_eq_true rfl⟩ (fun v2 hp2 q2 => ?_)
  obtain ⟨r2, M3, rfl, rfl, rfl, hM3, hf3⟩ := q2
  refine y_eqJ C 1376 dL_law_927 dL_law_928 (by decide) ?_
  exact kk M3 _ (hC2.keep (fun a h _ => hf3 a h)) hM3 hO

set_option maxHeartbeats 4000000 in
theorem lc_24 (C : LC g p s m meth c b L xs) {w : ST} {M : Mem} (hC : Cls M w) (hM : Mdl M w) (hO : SOK w) {i : Nat} (hi : i + 5 ≤ L) (kk : ∀ (M3 : Mem) (w2 : ST), Cls M3 w2 → Mdl M3 w2 → SOK w2 → Y g p e s m below meth c b 1376 (LL g b i) [] (S0, R0, M3) 63 2170) : Y g p e s m below meth c b 933 (LL g b i) [] (S0, R0, M) 63 2170 := by
  refine y_aload C 934 1 dL_law_933 rfl rfl (by decide) rfl ?_
  refine y_arg C 939 1 dL_law_934 dL_law_935 dL_law_936 dL_law_937 dL_law_938 rfl (by decide) rfl hi ?_
  refine y_arg C 944 2 dL_law_939 dL_law_940 dL_law_941 dL_law_942 dL_law_943 rfl (by decide) rfl hi ?_
  refine y_arg C 949 3 dL_law_944 dL_law_945 dL_law_946 dL_law_947 dL_law_948 rfl (by decide) rfl hi ?_
  refine y_call C 952 [iv (xs (i + 1)).toInt, iv (xs (i + 2)).toInt, iv (xs (i + 3)).toInt] (p_mean hC hO ((xs (i + 1)).toInt) ((xs (i + 2)).toInt) ((xs (i + 3)).toInt) (i32_rng _) (i32_rng _) (i32_rng _)) mX6_mean kL_114 dL_law_949 rfl rfl ⟨by decide, rfl⟩ rfl rfl (Nat.le_of_ble_eq_true rfl) (by decide) ⟨Nat.le_of_ble_eq_true rfl, Nat.le_of_ble_eq_true rfl⟩ (fun v1 hp1 q1 => ?_)
  obtain ⟨r1, M2, rfl, rfl, rfl, hC2, hf2⟩ := q1
  have hM2 := hM.hi hf2
  refine y_aload C 953 2 dL_law_952 rfl rfl (by decide) rfl ?_
  refine y_arg C 958 1 dL_law_953 dL_law_954 dL_law_955 dL_law_956 dL_law_957 rfl (by decide) rfl hi ?_
  refine y_arg C 963 2 dL_law_958 dL_law_959 dL_law_960 dL_law_961 dL_law_962 rfl (by decide) rfl hi ?_
  refine y_arg C 968 3 dL_law_963 dL_law_964 dL_law_965 dL_law_966 dL_law_967 rfl (by decide) rfl hi ?_
  refine y_call C 971 [iv (xs (i + 1)).toInt, iv (xs (i + 2)).toInt, iv (xs (i + 3)).toInt] (r_mean hM2 hO ((xs (i + 1)).toInt) ((xs (i + 2)).toInt) ((xs (i + 3)).toInt) (i32_rng _) (i32_rng _) (i32_rng _)) mX7_mean kL_118 dL_law_968 rfl rfl ⟨by decide, rfl⟩ rfl rfl (Nat.le_of_ble_eq_true rfl) (by decide) ⟨Nat.le_of_ble_eq_true rfl, Nat.le_of_ble_eq_true rfl⟩ (fun v2 hp2 q2 => ?_)
  obtain ⟨r2, M3, rfl, rfl, rfl, hM3, hf3⟩ := q2
  refine y_eqJ C 1376 dL_law_971 dL_law_972 (by decide) ?_
  exact kk M3 _ (hC2.keep (fun a h _ => hf3 a h)) hM3 hO

set_option maxHeartbeats 4000000 in
theorem lc_25 (C : LC g p s m meth c b L xs) {w : ST} {M : Mem} (hC : Cls M w) (hM : Mdl M w) (hO : SOK w) {i : Nat} (hi : i + 5 ≤ L) (kk : ∀ (M3 : Mem) (w2 : ST), Cls M3 w2 → Mdl M3 w2 → SOK w2 → Y g p e s m below meth c b 1376 (LL g b i) [] (S0, R0, M3) 63 2170) : Y g p e s m below meth c b 977 (LL g b i) [] (S0, R0, M) 63 2170 := by
  refine y_aload C 978 1 dL_law_977 rfl rfl (by decide) rfl ?_
  refine y_arg C 983 1 dL_law_978 dL_law_979 dL_law_980 dL_law_981 dL_law_982 rfl (by decide) rfl hi ?_
  refine y_arg C 988 2 dL_law_983 dL_law_984 dL_law_985 dL_law_986 dL_law_987 rfl (by decide) rfl hi ?_
  refine y_call C 991 [iv (xs (i + 1)).toInt, iv (xs (i + 2)).toInt] (p_see hC hO ((xs (i + 1)).toInt) ((xs (i + 2)).toInt) (i32_rng _) (i32_rng _)) mX6_see kL_119 dL_law_988 rfl rfl ⟨by decide, rfl⟩ rfl rfl (Nat.le_of_ble_eq_true rfl) (by decide) ⟨Nat.le_of_ble_eq_true rfl, Nat.le_of_ble_eq_true rfl⟩ (fun v1 hp1 q1 => ?_)
  obtain ⟨r1, M2, rfl, rfl, rfl, hC2, hf2⟩ := q1
  have hM2 := hM.hi hf2
  refine y_aload C 992 2 dL_law_991 rfl rfl (by decide) rfl ?_
  refine y_arg C 997 1 dL_law_992 dL_law_993 dL_law_994 dL_law_995 dL_law_996 rfl (by decide) rfl hi ?_
  refine y_arg C 1002 2 dL_law_997 dL_law_998 dL_law_999 dL_law_1000 dL_law_1001 rfl (by decide) rfl hi ?_
  refine y_call C 1005 [iv (xs (i + 1)).toInt, iv (xs (i + 2)).toInt] (r_see hM2 hO ((xs (i + 1)).toInt) ((xs (i + 2)).toInt) (i32_rng _) (i32_rng _)) mX7_see kL_122 dL_law_1002 rfl rfl ⟨by decide, rfl⟩ rfl rfl (Nat.le_of_ble_eq_true rfl) (by decide) ⟨Nat.le_of_ble_eq_true rfl, Nat.le_of_ble_eq_true rfl⟩ (fun v2 hp2 q2 => ?_)
  obtain ⟨r2, M3, rfl, rfl, rfl, hM3, hf3⟩ := q2
  refine y_eq C 1376 dL_law_1005 (by decide) ?_
  exact kk M3 _ (hC2.keep (fun a h _ => hf3 a h)) hM3 (sok_see hO _ _)

set_option maxHeartbeats 4000000 in
theorem lc_26 (C : LC g p s m meth c b L xs) {w : ST} {M : Mem} (hC : Cls M w) (hM : Mdl M w) (hO : SOK w) {i : Nat} (hi : i + 5 ≤ L) (kk : ∀ (M3 : Mem) (w2 : ST), Cls M3 w2 → Mdl M3 w2 → SOK w2 → Y g p e s m below meth c b 1376 (LL g b i) [] (S0, R0, M3) 63 2170) : Y g p e s m below meth c b 1010 (LL g b i) [] (S0, R0, M) 63 2170 := by
  refine y_aload C 1011 1 dL_law_1010 rfl rfl (by decide) rfl ?_
  refine y_arg C 1016 1 dL_law_1011 dL_law_1012 dL_law_1013 dL_law_1014 dL_law_1015 rfl (by decide) rfl hi ?_
  refine y_call C 1019 [iv (xs (i + 1)).toInt] (p_forget hC hO ((xs (i + 1)).toInt) (i32_rng _)) mX6_forget kL_123 dL_law_1016 rfl rfl ⟨by decide, rfl⟩ rfl rfl (Nat.le_of_ble_eq_true rfl) (by decide) ⟨Nat.le_of_ble_eq_true rfl, Nat.le_of_ble_eq_true rfl⟩ (fun v1 hp1 q1 => ?_)
  obtain ⟨r1, M2, rfl, rfl, rfl, hC2, hf2⟩ := q1
  have hM2 := hM.hi hf2
  refine y_aload C 1020 2 dL_law_1019 rfl rfl (by decide) rfl ?_
  refine y_arg C 1025 1 dL_law_1020 dL_law_1021 dL_law_1022 dL_law_1023 dL_law_1024 rfl (by decide) rfl hi ?_
  refine y_call C 1028 [iv (xs (i + 1)).toInt] (r_forget hM2 hO ((xs (i + 1)).toInt) (i32_rng _)) mX7_forget kL_126 dL_law_1025 rfl rfl ⟨by decide, rfl⟩ rfl rfl (Nat.le_of_ble_eq_true rfl) (by decide) ⟨Nat.le_of_ble_eq_true rfl, Nat.le_of_ble_eq_true rfl⟩ (fun v2 hp2 q2 => ?_)
  obtain ⟨r2, M3, rfl, rfl, rfl, hM3, hf3⟩ := q2
  refine y_eq C 1376 dL_law_1028 (by decide) ?_
  exact kk M3 _ (hC2.keep (fun a h _ => hf3 a h)) hM3 (sok_forget hO _)

set_option maxHeartbeats 4000000 in
theorem lc_27 (C : LC g p s m meth c b L xs) {w : ST} {M : Mem} (hC : Cls M w) (hM : Mdl M w) (hO : SOK w) {i : Nat} (hi : i + 5 ≤ L) (kk : ∀ (M3 : Mem) (w2 : ST), Cls M3 w2 → Mdl M3 w2 → SOK w2 → Y g p e s m below meth c b 1376 (LL g b i) [] (S0, R0, M3) 63 2170) : Y g p e s m below meth c b 1033 (LL g b i) [] (S0, R0, M) 63 2170 := by
  refine y_aload C 1034 1 dL_law_1033 rfl rfl (by decide) rfl ?_
  refine y_arg C 1039 1 dL_law_1034 dL_law_1035 dL_law_1036 dL_law_1037 dL_law_1038 rfl (by decide) rfl hi ?_
  refine y_call C 1042 [iv (xs (i + 1)).toInt] (p_kinds hC hO ((xs (i + 1)).toInt) (i32_rng _)) mX6_kinds kL_127 dL_law_1039 rfl rfl ⟨by decide, rfl⟩ rfl rfl (Nat.le_of_ble_eq_true rfl) (by decide) ⟨Nat.le_of_ble_eq_true rfl, Nat.le_of_ble_eq_true rfl⟩ (fun v1 hp1 q1 => ?_)
  obtain ⟨r1, M2, rfl, rfl, rfl, hC2, hf2⟩ := q1
  have hM2 := hM.hi hf2
  refine y_aload C 1043 2 dL_law_1042 rfl rfl (by decide) rfl ?_
  refine y_arg C 1048 1 dL_law_1043 dL_law_1044 dL_law_1045 dL_law_1046 dL_law_1047 rfl (by decide) rfl hi ?_
  refine y_call C 1051 [iv (xs (i + 1)).toInt] (r_kinds hM2 hO ((xs (i + 1)).toInt) (i32_rng _)) mX7_kinds kL_130 dL_law_1048 rfl rfl ⟨by decide, rfl⟩ rfl rfl (Nat.le_of_ble_eq_true rfl) (by decide) ⟨Nat.le_of_ble_eq_true rfl, Nat.le_of_ble_eq_true rfl⟩ (fun v2 hp2 q2 => ?_)
  obtain ⟨r2, M3, rfl, rfl, rfl, hM3, hf3⟩ := q2
  refine y_eq C 1376 dL_law_1051 (by decide) ?_
  exact kk M3 _ (hC2.keep (fun a h _ => hf3 a h)) hM3 hO

set_option maxHeartbeats 4000000 in
theorem lc_28 (C : LC g p s m meth c b L xs) {w : ST} {M : Mem} (hC : Cls M w) (hM : Mdl M w) (hO : SOK w) {i : Nat} (hi : i + 5 ≤ L) (kk : ∀ (M3 : Mem) (w2 : ST), Cls M3 w2 → Mdl M3 w2 → SOK w2 → Y g p e s m below meth c b 1376 (LL g b i) [] (S0, R0, M3) 63 2170) : Y g p e s m below meth c b 1056 (LL g b i) [] (S0, R0, M) 63 2170 := by
  refine y_aload C 1057 1 dL_law_1056 rfl rfl (by decide) rfl ?_
  refine y_arg C 1062 1 dL_law_1057 dL_law_1058 dL_law_1059 dL_law_1060 dL_law_1061 rfl (by decide) rfl hi ?_
  refine y_call C 1065 [iv (xs (i + 1)).toInt] (p_strengths hC hO ((xs (i + 1)).toInt) (i32_rng _)) mX6_strengths kL_131 dL_law_1062 rfl rfl ⟨by decide, rfl⟩ rfl rfl (Nat.le_of_ble_eq_true rfl) (by decide) ⟨Nat.le_of_ble_eq_true rfl, Nat.le_of_ble_eq_true rfl⟩ (fun v1 hp1 q1 => ?_)
  obtain ⟨r1, M2, rfl, rfl, rfl, hC2, hf2⟩ := q1
  have hM2 := hM.hi hf2
  refine y_aload C 1066 2 dL_law_1065 rfl rfl (by decide) rfl ?_
  refine y_arg C 1071 1 dL_law_1066 dL_law_1067 dL_law_1068 dL_law_1069 dL_law_1070 rfl (by decide) rfl hi ?_
  refine y_call C 1074 [iv (xs (i + 1)).toInt] (r_strengths hM2 hO ((xs (i + 1)).toInt) (i32_rng _)) mX7_strengths kL_134 dL_law_1071 rfl rfl ⟨by decide, rfl⟩ rfl rfl (Nat.le_of_ble_eq_true rfl) (by decide) ⟨Nat.le_of_ble_eq_true rfl, Nat.le_of_ble_eq_true rfl⟩ (fun v2 hp2 q2 => ?_)
  obtain ⟨r2, M3, rfl, rfl, rfl, hM3, hf3⟩ := q2
  refine y_eq C 1376 dL_law_1074 (by decide) ?_
  exact kk M3 _ (hC2.keep (fun a h _ => hf3 a h)) hM3 hO

set_option maxHeartbeats 4000000 in
theorem lc_29 (C : LC g p s m meth c b L xs) {w : ST} {M : Mem} (hC : Cls M w) (hM : Mdl M w) (hO : SOK w) {i : Nat} (hi : i + 5 ≤ L) (kk : ∀ (M3 : Mem) (w2 : ST), Cls M3 w2 → Mdl M3 w2 → SOK w2 → Y g p e s m below meth c b 1376 (LL g b i) [] (S0, R0, M3) 63 2170) : Y g p e s m below meth c b 1079 (LL g b i) [] (S0, R0, M) 63 2170 := by
  refine y_aload C 1080 1 dL_law_1079 rfl rfl (by decide) rfl ?_
  refine y_arg C 1085 1 dL_law_1080 dL_law_1081 dL_law_1082 dL_law_1083 dL_law_1084 rfl (by decide) rfl hi ?_
  refine y_arg C 1090 2 dL_law_1085 dL_law_1086 dL_law_1087 dL_law_1088 dL_law_1089 rfl (by decide) rfl hi ?_
  refine y_call C 1093 [iv (xs (i + 1)).toInt, iv (xs (i + 2)).toInt] (p_ask hC hO ((xs (i + 1)).toInt) ((xs (i + 2)).toInt) (i32_rng _) (i32_rng _)) mX6_ask kL_135 dL_law_1090 rfl rfl ⟨by decide, rfl⟩ rfl rfl (Nat.le_of_ble_eq_true rfl) (by decide) ⟨Nat.le_of_ble_eq_true rfl, Nat.le_of_ble_eq_true rfl⟩ (fun v1 hp1 q1 => ?_)
  obtain ⟨r1, M2, rfl, rfl, rfl, hC2, hf2⟩ := q1
  have hM2 := hM.hi hf2
  refine y_aload C 1094 2 dL_law_1093 rfl rfl (by decide) rfl ?_
  refine y_arg C 1099 1 dL_law_1094 dL_law_1095 dL_law_1096 dL_law_1097 dL_law_1098 rfl (by decide) rfl hi ?_
  refine y_arg C 1104 2 dL_law_1099 dL_law_1100 dL_law_1101 dL_law_1102 dL_law_1103 rfl (by decide) rfl hi ?_
  refine y_call C 1107 [iv (xs (i + 1)).toInt, iv (xs (i + 2)).toInt] (r_ask hM2 hO ((xs (i + 1)).toInt) ((xs (i + 2)).toInt) (i32_rng _) (i32_rng _)) mX7_ask kL_138 dL_law_1104 rfl rfl ⟨by decide, rfl⟩ rfl rfl (Nat.le_of_ble_eq_true rfl) (by decide) ⟨Nat.le_of_ble_eq_true rfl, Nat.le_of_ble_eq_true rfl⟩ (fun v2 hp2 q2 => ?_)
  obtain ⟨r2, M3, rfl, rfl, rfl, hM3, hf3⟩ := q2
  refine y_eq C 1376 dL_law_1107 (by decide) ?_
  exact kk M3 _ (hC2.keep (fun a h _ => hf3 a h)) hM3 hO

set_option maxHeartbeats 4000000 in
theorem lc_30 (C : LC g p s m meth c b L xs) {w : ST} {M : Mem} (hC : Cls M w) (hM : Mdl M w) (hO : SOK w) {i : Nat} (hi : i + 5 ≤ L) (kk : ∀ (M3 : Mem) (w2 : ST), Cls M3 w2 → Mdl M3 w2 → SOK w2 → Y g p e s m below meth c b 1376 (LL g b i) [] (S0, R0, M3) 63 2170) : Y g p e s m below meth c b 1112 (LL g b i) [] (S0, R0, M) 63 2170 := by
  refine y_aload C 1113 1 dL_law_1112 rfl rfl (by decide) rfl ?_
  refine y_arg C 1118 1 dL_law_1113 dL_law_1114 dL_law_1115 dL_law_1116 dL_law_1117 rfl (by decide) rfl hi ?_
  refine y_arg C 1123 2 dL_law_1118 dL_law_1119 dL_law_1120 dL_law_1121 dL_law_1122 rfl (by decide) rfl hi ?_
  refine y_arg C 1128 3 dL_law_1123 dL_law_1124 dL_law_1125 dL_law_1126 dL_law_1127 rfl (by decide) rfl hi ?_
  refine y_call C 1131 [iv (xs (i + 1)).toInt, iv (xs (i + 2)).toInt, iv (xs (i + 3)).toInt] (p_drift hC hO ((xs (i + 1)).toInt) ((xs (i + 2)).toInt) ((xs (i + 3)).toInt) (i32_rng _) (i32_rng _) (i32_rng _)) mX6_drift kL_139 dL_law_1128 rfl rfl ⟨by decide, rfl⟩ rfl rfl (Nat.le_of_ble_eq_true rfl) (by decide) ⟨Nat.le_of_ble_eq_true rfl, Nat.le_of_ble_eq_true rfl⟩ (fun v1 hp1 q1 => ?_)
  obtain ⟨r1, M2, rfl, rfl, rfl, hC2, hf2⟩ := q1
  have hM2 := hM.hi hf2
  refine y_aload C 1132 2 dL_law_1131 rfl rfl (by decide) rfl ?_
  refine y_arg C 1137 1 dL_law_1132 dL_law_1133 dL_law_1134 dL_law_1135 dL_law_1136 rfl (by decide) rfl hi ?_
  refine y_arg C 1142 2 dL_law_1137 dL_law_1138 dL_law_1139 dL_law_1140 dL_law_1141 rfl (by decide) rfl hi ?_
  refine y_arg C 1147 3 dL_law_1142 dL_law_1143 dL_law_1144 dL_law_1145 dL_law_1146 rfl (by decide) rfl hi ?_
  refine y_call C 1150 [iv (xs (i + 1)).toInt, iv (xs (i + 2)).toInt, iv (xs (i + 3)).toInt] (r_drift hM2 hO ((xs (i + 1)).toInt) ((xs (i + 2)).toInt) ((xs (i + 3)).toInt) (i32_rng _) (i32_rng _) (i32_rng _)) mX7_drift kL_142 dL_law_1147 rfl rfl ⟨by decide, rfl⟩ rfl rfl (Nat.le_of_ble_eq_true rfl) (by decide) ⟨Nat.le_of_ble_eq_true rfl, Nat.le_of_ble_eq_true rfl⟩ (fun v2 hp2 q2 => ?_)
  obtain ⟨r2, M3, rfl, rfl, rfl, hM3, hf3⟩ := q2
  refine y_eq C 1376 dL_law_1150 (by decide) ?_
  exact kk M3 _ (hC2.keep (fun a h _ => hf3 a h)) hM3 hO

set_option maxHeartbeats 4000000 in
theorem lc_31 (C : LC g p s m meth c b L xs) {w : ST} {M : Mem} (hC : Cls M w) (hM : Mdl M w) (hO : SOK w) {i : Nat} (hi : i + 5 ≤ L) (kk : ∀ (M3 : Mem) (w2 : ST), Cls M3 w2 → Mdl M3 w2 → SOK w2 → Y g p e s m below meth c b 1376 (LL g b i) [] (S0, R0, M3) 63 2170) : Y g p e s m below meth c b 1155 (LL g b i) [] (S0, R0, M) 63 2170 := by
  refine y_aload C 1156 1 dL_law_1155 rfl rfl (by decide) rfl ?_
  refine y_arg C 1161 1 dL_law_1156 dL_law_1157 dL_law_1158 dL_law_1159 dL_law_1160 rfl (by decide) rfl hi ?_
  refine y_call C 1164 [iv (xs (i + 1)).toInt] (p_keep hC hO ((xs (i + 1)).toInt) (i32_rng _)) mX6_keep kL_143 dL_law_1161 rfl rfl ⟨by decide, rfl⟩ rfl rfl (Nat.le_of_ble_eq_true rfl) (by decide) ⟨Nat.le_of_ble_eq_true rfl, Nat.le_of_ble_eq_true rfl⟩ (fun v1 hp1 q1 => ?_)
  obtain ⟨r1, M2, rfl, rfl, rfl, hC2, hf2⟩ := q1
  have hM2 := hM.hi hf2
  refine y_aload C 1165 2 dL_law_1164 rfl rfl (by decide) rfl ?_
  refine y_arg C 1170 1 dL_law_1165 dL_law_1166 dL_law_1167 dL_law_1168 dL_law_1169 rfl (by decide) rfl hi ?_
  refine y_call C 1173 [iv (xs (i + 1)).toInt] (r_keep hM2 hO ((xs (i + 1)).toInt) (i32_rng _)) mX7_keep kL_146 dL_law_1170 rfl rfl ⟨by decide, rfl⟩ rfl rfl (Nat.le_of_ble_eq_true rfl) (by decide) ⟨Nat.le_of_ble_eq_true rfl, Nat.le_of_ble_eq_true rfl⟩ (fun v2 hp2 q2 => ?_)
  obtain ⟨r2, M3, rfl, rfl, rfl, hM3, hf3⟩ := q2
  refine y_eq C 1376 dL_law_1173 (by decide) ?_
  exact kk M3 _ (hC2.keep (fun a h _ => hf3 a h)) hM3 (sok_keep hO _)

set_option maxHeartbeats 4000000 in
theorem lc_32 (C : LC g p s m meth c b L xs) {w : ST} {M : Mem} (hC : Cls M w) (hM : Mdl M w) (hO : SOK w) {i : Nat} (hi : i + 5 ≤ L) (kk : ∀ (M3 : Mem) (w2 : ST), Cls M3 w2 → Mdl M3 w2 → SOK w2 → Y g p e s m below meth c b 1376 (LL g b i) [] (S0, R0, M3) 63 2170) : Y g p e s m below meth c b 1178 (LL g b i) [] (S0, R0, M) 63 2170 := by
  refine y_aload C 1179 1 dL_law_1178 rfl rfl (by decide) rfl ?_
  refine y_arg C 1184 1 dL_law_1179 dL_law_1180 dL_law_1181 dL_law_1182 dL_law_1183 rfl (by decide) rfl hi ?_
  refine y_call C 1187 [iv (xs (i + 1)).toInt] (p_back hC hO ((xs (i + 1)).toInt) (i32_rng _)) mX6_back kL_147 dL_law_1184 rfl rfl ⟨by decide, rfl⟩ rfl rfl (Nat.le_of_ble_eq_true rfl) (by decide) ⟨Nat.le_of_ble_eq_true rfl, Nat.le_of_ble_eq_true rfl⟩ (fun v1 hp1 q1 => ?_)
  obtain ⟨r1, M2, rfl, rfl, rfl, hC2, hf2⟩ := q1
  have hM2 := hM.hi hf2
  refine y_aload C 1188 2 dL_law_1187 rfl rfl (by decide) rfl ?_
  refine y_arg C 1193 1 dL_law_1188 dL_law_1189 dL_law_1190 dL_law_1191 dL_law_1192 rfl (by decide) rfl hi ?_
  refine y_call C 1196 [iv (xs (i + 1)).toInt] (r_back hM2 hO ((xs (i + 1)).toInt) (i32_rng _)) mX7_back kL_150 dL_law_1193 rfl rfl ⟨by decide, rfl⟩ rfl rfl (Nat.le_of_ble_eq_true rfl) (by decide) ⟨Nat.le_of_ble_eq_true rfl, Nat.le_of_ble_eq_true rfl⟩ (fun v2 hp2 q2 => ?_)
  obtain ⟨r2, M3, rfl, rfl, rfl, hM3, hf3⟩ := q2
  refine y_eq C 1376 dL_law_1196 (by decide) ?_
  exact kk M3 _ (hC2.keep (fun a h _ => hf3 a h)) hM3 (sok_back hO _)

set_option maxHeartbeats 4000000 in
theorem lc_33 (C : LC g p s m meth c b L xs) {w : ST} {M : Mem} (hC : Cls M w) (hM : Mdl M w) (hO : SOK w) {i : Nat} (hi : i + 5 ≤ L) (kk : ∀ (M3 : Mem) (w2 : ST), Cls M3 w2 → Mdl M3 w2 → SOK w2 → Y g p e s m below meth c b 1376 (LL g b i) [] (S0, R0, M3) 63 2170) : Y g p e s m below meth c b 1201 (LL g b i) [] (S0, R0, M) 63 2170 := by
  refine y_aload C 1202 1 dL_law_1201 rfl rfl (by decide) rfl ?_
  refine y_arg C 1207 1 dL_law_1202 dL_law_1203 dL_law_1204 dL_law_1205 dL_law_1206 rfl (by decide) rfl hi ?_
  refine y_arg C 1212 2 dL_law_1207 dL_law_1208 dL_law_1209 dL_law_1210 dL_law_1211 rfl (by decide) rfl hi ?_
  refine y_arg C 1217 3 dL_law_1212 dL_law_1213 dL_law_1214 dL_law_1215 dL_law_1216 rfl (by decide) rfl hi ?_
  refine y_call C 1220 [iv (xs (i + 1)).toInt, iv (xs (i + 2)).toInt, iv (xs (i + 3)).toInt] (p_sheet hC hO ((xs (i + 1)).toInt) ((xs (i + 2)).toInt) ((xs (i + 3)).toInt) (i32_rng _) (i32_rng _) (i32_rng _)) mX6_sheet kL_151 dL_law_1217 rfl rfl ⟨by decide, rfl⟩ rfl rfl (Nat.le_of_ble_eq_true rfl) (by decide) ⟨Nat.le_of_ble_eq_true rfl, Nat.le_of_ble_eq_true rfl⟩ (fun v1 hp1 q1 => ?_)
  obtain ⟨r1, M2, rfl, rfl, rfl, hC2, hf2⟩ := q1
  have hM2 := hM.hi hf2
  refine y_aload C 1221 2 dL_law_1220 rfl rfl (by decide) rfl ?_
  refine y_arg C 1226 1 dL_law_1221 dL_law_1222 dL_law_1223 dL_law_1224 dL_law_1225 rfl (by decide) rfl hi ?_
  refine y_arg C 1231 2 dL_law_1226 dL_law_1227 dL_law_1228 dL_law_1229 dL_law_1230 rfl (by decide) rfl hi ?_
  refine y_arg C 1236 3 dL_law_1231 dL_law_1232 dL_law_1233 dL_law_1234 dL_law_1235 rfl (by decide) rfl hi ?_
  refine y_call C 1239 [iv (xs (i + 1)).toInt, iv (xs (i + 2)).toInt, iv (xs (i + 3)).toInt] (r_sheet hM2 hO ((xs (i + 1)).toInt) ((xs (i + 2)).toInt) ((xs (i + 3)).toInt) (i32_rng _) (i32_rng _) (i32_rng _)) mX7_sheet kL_154 dL_law_1236 rfl rfl ⟨by decide, rfl⟩ rfl rfl (Nat.le_of_ble_eq_true rfl) (by decide) ⟨Nat.le_of_ble_eq_true rfl, Nat.le_of_ble_eq_true rfl⟩ (fun v2 hp2 q2 => ?_)
  obtain ⟨r2, M3, rfl, rfl, rfl, hM3, hf3⟩ := q2
  refine y_eq C 1376 dL_law_1239 (by decide) ?_
  exact kk M3 _ (hC2.keep (fun a h _ => hf3 a h)) hM3 (sok_sheet hO _ _ _)

set_option maxHeartbeats 4000000 in
theorem lc_34 (C : LC g p s m meth c b L xs) {w : ST} {M : Mem} (hC : Cls M w) (hM : Mdl M w) (hO : SOK w) {i : Nat} (hi : i + 5 ≤ L) (kk : ∀ (M3 : Mem) (w2 : ST), Cls M3 w2 → Mdl M3 w2 → SOK w2 → Y g p e s m below meth c b 1376 (LL g b i) [] (S0, R0, M3) 63 2170) : Y g p e s m below meth c b 1244 (LL g b i) [] (S0, R0, M) 63 2170 := by
  refine y_aload C 1245 1 dL_law_1244 rfl rfl (by decide) rfl ?_
  refine y_arg C 1250 1 dL_law_1245 dL_law_1246 dL_law_1247 dL_law_1248 dL_law_1249 rfl (by decide) rfl hi ?_
  refine y_arg C 1255 2 dL_law_1250 dL_law_1251 dL_law_1252 dL_law_1253 dL_law_1254 rfl (by decide) rfl hi ?_
  refine y_arg C 1260 3 dL_law_1255 dL_law_1256 dL_law_1257 dL_law_1258 dL_law_1259 rfl (by decide) rfl hi ?_
  refine y_call C 1263 [iv (xs (i + 1)).toInt, iv (xs (i + 2)).toInt, iv (xs (i + 3)).toInt] (p_lay hC hO ((xs (i + 1)).toInt) ((xs (i + 2)).toInt) ((xs (i + 3)).toInt) (i32_rng _) (i32_rng _) (i32_rng _)) mX6_lay kL_155 dL_law_1260 rfl rfl ⟨by decide, rfl⟩ rfl rfl (Nat.le_of_ble_eq_true rfl) (by decide) ⟨Nat.le_of_ble_eq_true rfl, Nat.le_of_ble_eq_true rfl⟩ (fun v1 hp1 q1 => ?_)
  obtain ⟨r1, M2, rfl, rfl, rfl, hC2, hf2⟩ := q1
  have hM2 := hM.hi hf2
  refine y_aload C 1264 2 dL_law_1263 rfl rfl (by decide) rfl ?_
  refine y_arg C 1269 1 dL_law_1264 dL_law_1265 dL_law_1266 dL_law_1267 dL_law_1268 rfl (by decide) rfl hi ?_
  refine y_arg C 1274 2 dL_law_1269 dL_law_1270 dL_law_1271 dL_law_1272 dL_law_1273 rfl (by decide) rfl hi ?_
  refine y_arg C 1279 3 dL_law_1274 dL_law_1275 dL_law_1276 dL_law_1277 dL_law_1278 rfl (by decide) rfl hi ?_
  refine y_call C 1282 [iv (xs (i + 1)).toInt, iv (xs (i + 2)).toInt, iv (xs (i + 3)).toInt] (r_lay hM2 hO ((xs (i + 1)).toInt) ((xs (i + 2)).toInt) ((xs (i + 3)).toInt) (i32_rng _) (i32_rng _) (i32_rng _)) mX7_lay kL_158 dL_law_1279 rfl rfl ⟨by decide, rfl⟩ rfl rfl (Nat.le_of_ble_eq_true rfl) (by decide) ⟨Nat.le_of_ble_eq_true rfl, Nat.le_of_ble_eq_true rfl⟩ (fun v2 hp2 q2 => ?_)
  obtain ⟨r2, M3, rfl, rfl, rfl, hM3, hf3⟩ := q2
  refine y_eq C 1376 dL_law_1282 (by decide) ?_
  exact kk M3 _ (hC2.keep (fun a h _ => hf3 a h)) hM3 (sok_lay hO _ _ _ (i32_rng _))

set_option maxHeartbeats 4000000 in
theorem lc_35 (C : LC g p s m meth c b L xs) {w : ST} {M : Mem} (hC : Cls M w) (hM : Mdl M w) (hO : SOK w) {i : Nat} (hi : i + 5 ≤ L) (kk : ∀ (M3 : Mem) (w2 : ST), Cls M3 w2 → Mdl M3 w2 → SOK w2 → Y g p e s m below meth c b 1376 (LL g b i) [] (S0, R0, M3) 63 2170) : Y g p e s m below meth c b 1287 (LL g b i) [] (S0, R0, M) 63 2170 := by
  refine y_aload C 1288 1 dL_law_1287 rfl rfl (by decide) rfl ?_
  refine y_arg C 1293 1 dL_law_1288 dL_law_1289 dL_law_1290 dL_law_1291 dL_law_1292 rfl (by decide) rfl hi ?_
  refine y_arg C 1298 2 dL_law_1293 dL_law_1294 dL_law_1295 dL_law_1296 dL_law_1297 rfl (by decide) rfl hi ?_
  refine y_arg C 1303 3 dL_law_1298 dL_law_1299 dL_law_1300 dL_law_1301 dL_law_1302 rfl (by decide) rfl hi ?_
  refine y_arg C 1308 4 dL_law_1303 dL_law_1304 dL_law_1305 dL_law_1306 dL_law_1307 rfl (by decide) rfl hi ?_
  refine y_call C 1311 [iv (xs (i + 1)).toInt, iv (xs (i + 2)).toInt, iv (xs (i + 3)).toInt, iv (xs (i + 4)).toInt] (p_read hC hO ((xs (i + 1)).toInt) ((xs (i + 2)).toInt) ((xs (i + 3)).toInt) ((xs (i + 4)).toInt) (i32_rng _) (i32_rng _) (i32_rng _) (i32_rng _)) mX6_read kL_159 dL_law_1308 rfl rfl ⟨by decide, rfl⟩ rfl rfl (Nat.le_of_ble_eq_true rfl) (by decide) ⟨Nat.le_of_ble_eq_true rfl, Nat.le_of_ble_eq_true rfl⟩ (fun v1 hp1 q1 => ?_)
  obtain ⟨r1, M2, rfl, rfl, rfl, hC2, hf2⟩ := q1
  have hM2 := hM.hi hf2
  refine y_aload C 1312 2 dL_law_1311 rfl rfl (by decide) rfl ?_
  refine y_arg C 1317 1 dL_law_1312 dL_law_1313 dL_law_1314 dL_law_1315 dL_law_1316 rfl (by decide) rfl hi ?_
  refine y_arg C 1322 2 dL_law_1317 dL_law_1318 dL_law_1319 dL_law_1320 dL_law_1321 rfl (by decide) rfl hi ?_
  refine y_arg C 1327 3 dL_law_1322 dL_law_1323 dL_law_1324 dL_law_1325 dL_law_1326 rfl (by decide) rfl hi ?_
  refine y_arg C 1332 4 dL_law_1327 dL_law_1328 dL_law_1329 dL_law_1330 dL_law_1331 rfl (by decide) rfl hi ?_
  refine y_call C 1335 [iv (xs (i + 1)).toInt, iv (xs (i + 2)).toInt, iv (xs (i + 3)).toInt, iv (xs (i + 4)).toInt] (r_read hM2 hO ((xs (i + 1)).toInt) ((xs (i + 2)).toInt) ((xs (i + 3)).toInt) ((xs (i + 4)).toInt) (i32_rng _) (i32_rng _) (i32_rng _) (i32_rng _)) mX7_read kL_163 dL_law_1332 rfl rfl ⟨by decide, rfl⟩ rfl rfl (Nat.le_of_ble_eq_true rfl) (by decide) ⟨Nat.le_of_ble_eq_true rfl, Nat.le_of_ble_eq_true rfl⟩ (fun v2 hp2 q2 => ?_)
  obtain ⟨r2, M3, rfl, rfl, rfl, hM3, hf3⟩ := q2
  refine y_eq C 1376 dL_law_1335 (by decide) ?_
  exact kk M3 _ (hC2.keep (fun a h _ => hf3 a h)) hM3 (sok_read hO _ _ _ _)

set_option maxHeartbeats 4000000 in
theorem lc_36 (C : LC g p s m meth c b L xs) {w : ST} {M : Mem} (hC : Cls M w) (hM : Mdl M w) (hO : SOK w) {i : Nat} (hi : i + 5 ≤ L) (kk : ∀ (M3 : Mem) (w2 : ST), Cls M3 w2 → Mdl M3 w2 → SOK w2 → Y g p e s m below meth c b 1376 (LL g b i) [] (S0, R0, M3) 63 2170) : Y g p e s m below meth c b 1340 (LL g b i) [] (S0, R0, M) 63 2170 := by
  refine y_aload C 1341 1 dL_law_1340 rfl rfl (by decide) rfl ?_
  refine y_call C 1344 [] (p_torn hC hO ) mX6_torn kL_164 dL_law_1341 rfl rfl ⟨by decide, rfl⟩ rfl rfl (Nat.le_of_ble_eq_true rfl) (by decide) ⟨Nat.le_of_ble_eq_true rfl, Nat.le_of_ble_eq_true rfl⟩ (fun v1 hp1 q1 => ?_)
  obtain ⟨r1, M2, rfl, rfl, rfl, hC2, hf2⟩ := q1
  have hM2 := hM.hi hf2
  refine y_aload C 1345 2 dL_law_1344 rfl rfl (by decide) rfl ?_
  refine y_call C 1348 [] (r_torn hM2 hO ) mX7_torn kL_167 dL_law_1345 rfl rfl ⟨by decide, rfl⟩ rfl rfl (Nat.le_of_ble_eq_true rfl) (by decide) ⟨Nat.le_of_ble_eq_true rfl, Nat.le_of_ble_eq_true rfl⟩ (fun v2 hp2 q2 => ?_)
  obtain ⟨r2, M3, rfl, rfl, rfl, hM3, hf3⟩ := q2
  refine y_eq C 1376 dL_law_1348 (by decide) ?_
  exact kk M3 _ (hC2.keep (fun a h _ => hf3 a h)) hM3 hO

set_option maxHeartbeats 4000000 in
theorem lc_37 (C : LC g p s m meth c b L xs) {w : ST} {M : Mem} (hC : Cls M w) (hM : Mdl M w) (hO : SOK w) {i : Nat} (hi : i + 5 ≤ L) (kk : ∀ (M3 : Mem) (w2 : ST), Cls M3 w2 → Mdl M3 w2 → SOK w2 → Y g p e s m below meth c b 1376 (LL g b i) [] (S0, R0, M3) 63 2170) : Y g p e s m below meth c b 1353 (LL g b i) [] (S0, R0, M) 63 2170 := by
  refine y_aload C 1354 1 dL_law_1353 rfl rfl (by decide) rfl ?_
  refine y_arg C 1359 1 dL_law_1354 dL_law_1355 dL_law_1356 dL_law_1357 dL_law_1358 rfl (by decide) rfl hi ?_
  refine y_call C 1362 [iv (xs (i + 1)).toInt] (p_count hC hO ((xs (i + 1)).toInt) (i32_rng _)) mX6_count kL_168 dL_law_1359 rfl rfl ⟨by decide, rfl⟩ rfl rfl (Nat.le_of_ble_eq_true rfl) (by decide) ⟨Nat.le_of_ble_eq_true rfl, Nat.le_of_ble_eq_true rfl⟩ (fun v1 hp1 q1 => ?_)
  obtain ⟨r1, M2, rfl, rfl, rfl, hC2, hf2⟩ := q1
  have hM2 := hM.hi hf2
  refine y_aload C 1363 2 dL_law_1362 rfl rfl (by decide) rfl ?_
  refine y_arg C 1368 1 dL_law_1363 dL_law_1364 dL_law_1365 dL_law_1366 dL_law_1367 rfl (by decide) rfl hi ?_
  refine y_call C 1371 [iv (xs (i + 1)).toInt] (r_count hM2 hO ((xs (i + 1)).toInt) (i32_rng _)) mX7_count kL_171 dL_law_1368 rfl rfl ⟨by decide, rfl⟩ rfl rfl (Nat.le_of_ble_eq_true rfl) (by decide) ⟨Nat.le_of_ble_eq_true rfl, Nat.le_of_ble_eq_true rfl⟩ (fun v2 hp2 q2 => ?_)
  obtain ⟨r2, M3, rfl, rfl, rfl, hM3, hf3⟩ := q2
  refine y_eq C 1376 dL_law_1371 (by decide) ?_
  exact kk M3 _ (hC2.keep (fun a h _ => hf3 a h)) hM3 hO

theorem and63 (x : Int32) : Int32.ofInt x.toInt &&& Int32.ofInt 63 = Int32.ofInt ((x.toBitVec.toNat % 64 : Nat) : Int) := by
  rw [Int32.ofInt_toInt, pk_and _ 6 (by decide), iN]
set_option maxHeartbeats 4000000 in
theorem law_loop (C : LC g p s m meth c b L xs) : ∀ (f i : Nat) (M : Mem) (w : ST), L < i + f → i ≤ L + 5 → Cls M w → Mdl M w → SOK w → Y g p e s m below meth c b 18 (LL g b i) [] (S0, R0, M) 63 2170 := by
  intro f
  induction f with
  | zero =>
    intro i M w h1 h2 hC hM hO
    have hL := C.2.1
    refine y_iload C 19 3 dL_law_18 rfl rfl (by decide) rfl ?_
    refine y_aload C 20 0 dL_law_19 rfl rfl (by decide) rfl ?_
    refine y_slen C 21 dL_law_20 rfl ?_
    refine y_iconst C 22 dL_law_21 rfl ?_
    refine y_isub C 23 dL_law_22 rfl ?_
    refine y_gt C 1382 26 dL_law_23 (by decide) rfl (by omega) (fun h => ?_) (fun h => by exfalso; omega)
    refine y_iconst C 1383 dL_law_1382 rfl ?_
    exact y_ret C dL_law_1383 ⟨Nat.le_of_ble_eq_true rfl, Nat.le_of_ble_eq_true rfl⟩
  | succ f ih =>
    intro i M w h1 h2 hC hM hO
    have hL := C.2.1
    refine y_iload C 19 3 dL_law_18 rfl rfl (by decide) rfl ?_
    refine y_aload C 20 0 dL_law_19 rfl rfl (by decide) rfl ?_
    refine y_slen C 21 dL_law_20 rfl ?_
    refine y_iconst C 22 dL_law_21 rfl ?_
    refine y_isub C 23 dL_law_22 rfl ?_
    refine y_gt C 1382 26 dL_law_23 (by decide) rfl (by omega) (fun h => ?_) (fun h => ?_)
    · refine y_iconst C 1383 dL_law_1382 rfl ?_
      exact y_ret C dL_law_1383 ⟨Nat.le_of_ble_eq_true rfl, Nat.le_of_ble_eq_true rfl⟩
    · have hi : i + 5 ≤ L := by omega
      have kk : ∀ (M3 : Mem) (w2 : ST), Cls M3 w2 → Mdl M3 w2 → SOK w2 → Y g p e s m below meth c b 1376 (LL g b i) [] (S0, R0, M3) 63 2170 := by
        intro M3 w2 a1 a2 a3
        refine y_iinc C 1379 _ dL_law_1376 rfl (by decide) rfl rfl rfl ?_
        refine y_goto C 18 dL_law_1379 (by decide) ?_
        exact ih (i + 5) M3 w2 (by omega) (by omega) a1 a2 a3
      refine y_aload C 27 0 dL_law_26 rfl rfl (by decide) rfl ?_
      refine y_iload C 28 3 dL_law_27 rfl rfl (by decide) rfl ?_
      refine y_sld C 29 (j := i) dL_law_28 rfl rfl (by omega) ?_
      refine y_bipush C 31 dL_law_29 rfl (by decide) ?_
      refine y_iand C 32 _ dL_law_31 rfl (and63 _) ?_
      have hz : (xs i).toBitVec.toNat % 64 < 64 := Nat.mod_lt _ (by omega)
      generalize (xs i).toBitVec.toNat % 64 = z at hz ⊢
      refine y_tsw C 1376 dL_law_32 (by decide) (by omega) (kk M w hC hM hO) (fun hl hh => ?_)
      have hz37 : z ≤ 37 := by omega
      clear hl hh hz
      match z, hz37 with
      | 0, _ => exact ⟨168, 200, rfl, by decide, lc_0 C hC hM hO hi kk⟩
      | 1, _ => exact ⟨191, 223, rfl, by decide, lc_1 C hC hM hO hi kk⟩
      | 2, _ => exact ⟨214, 246, rfl, by decide, lc_2 C hC hM hO hi kk⟩
      | 3, _ => exact ⟨227, 259, rfl, by decide, lc_3 C hC hM hO hi kk⟩
      | 4, _ => exact ⟨240, 272, rfl, by decide, lc_4 C hC hM hO hi kk⟩
      | 5, _ => exact ⟨263, 295, rfl, by decide, lc_5 C hC hM hO hi kk⟩
      | 6, _ => exact ⟨296, 328, rfl, by decide, lc_6 C hC hM hO hi kk⟩
      | 7, _ => exact ⟨329, 361, rfl, by decide, lc_7 C hC hM hO hi kk⟩
      | 8, _ => exact ⟨362, 394, rfl, by decide, lc_8 C hC hM hO hi kk⟩
      | 9, _ => exact ⟨405, 437, rfl, by decide, lc_9 C hC hM hO hi kk⟩
      | 10, _ => exact ⟨448, 480, rfl, by decide, lc_10 C hC hM hO hi kk⟩
      | 11, _ => exact ⟨481, 513, rfl, by decide, lc_11 C hC hM hO hi kk⟩
      | 12, _ => exact ⟨504, 536, rfl, by decide, lc_12 C hC hM hO hi kk⟩
      | 13, _ => exact ⟨527, 559, rfl, by decide, lc_13 C hC hM hO hi kk⟩
      | 14, _ => exact ⟨560, 592, rfl, by decide, lc_14 C hC hM hO hi kk⟩
      | 15, _ => exact ⟨603, 635, rfl, by decide, lc_15 C hC hM hO hi kk⟩
      | 16, _ => exact ⟨626, 658, rfl, by decide, lc_16 C hC hM hO hi kk⟩
      | 17, _ => exact ⟨649, 681, rfl, by decide, lc_17 C hC hM hO hi kk⟩
      | 18, _ => exact ⟨672, 704, rfl, by decide, lc_18 C hC hM hO hi kk⟩
      | 19, _ => exact ⟨705, 737, rfl, by decide, lc_19 C hC hM hO hi kk⟩
      | 20, _ => exact ⟨738, 770, rfl, by decide, lc_20 C hC hM hO hi kk⟩
      | 21, _ => exact ⟨771, 803, rfl, by decide, lc_21 C hC hM hO hi kk⟩
      | 22, _ => exact ⟨804, 836, rfl, by decide, lc_22 C hC hM hO hi kk⟩
      | 23, _ => exact ⟨847, 879, rfl, by decide, lc_23 C hC hM hO hi kk⟩
      | 24, _ => exact ⟨901, 933, rfl, by decide, lc_24 C hC hM hO hi kk⟩
      | 25, _ => exact ⟨945, 977, rfl, by decide, lc_25 C hC hM hO hi kk⟩
      | 26, _ => exact ⟨978, 1010, rfl, by decide, lc_26 C hC hM hO hi kk⟩
      | 27, _ => exact ⟨1001, 1033, rfl, by decide, lc_27 C hC hM hO hi kk⟩
      | 28, _ => exact ⟨1024, 1056, rfl, by decide, lc_28 C hC hM hO hi kk⟩
      | 29, _ => exact ⟨1047, 1079, rfl, by decide, lc_29 C hC hM hO hi kk⟩
      | 30, _ => exact ⟨1080, 1112, rfl, by decide, lc_30 C hC hM hO hi kk⟩
      | 31, _ => exact ⟨1123, 1155, rfl, by decide, lc_31 C hC hM hO hi kk⟩
      | 32, _ => exact ⟨1146, 1178, rfl, by decide, lc_32 C hC hM hO hi kk⟩
      | 33, _ => exact ⟨1169, 1201, rfl, by decide, lc_33 C hC hM hO hi kk⟩
      | 34, _ => exact ⟨1212, 1244, rfl, by decide, lc_34 C hC hM hO hi kk⟩
      | 35, _ => exact ⟨1255, 1287, rfl, by decide, lc_35 C hC hM hO hi kk⟩
      | 36, _ => exact ⟨1308, 1340, rfl, by decide, lc_36 C hC hM hO hi kk⟩
      | 37, _ => exact ⟨1321, 1353, rfl, by decide, lc_37 C hC hM hO hi kk⟩
      | k + 38, h => exact absurd h (by omega)
end LAWCASES
