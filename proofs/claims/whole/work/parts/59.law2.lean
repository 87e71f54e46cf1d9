/-! the cases of the law -/
section LC
variable {E : EVt} {nm : String} {i : Nat} {m : Mm} {L : Ml} {Dd : Nat} {Q : Value → AHt → Prop}
theorem al_machine (hi : i + 6 ≤ ev_L E) (hL : ev_L E ≤ 3072) (hC : CR m L m L) (hO : OK Dd m) (hD : Dd ≤ 1000000) (K : ∀ m2 L2, CR m2 L2 m2 L2 → OK (Dd + 50) m2 → AL E nm i 1254 [] m2 L2 Q) : AL E nm i 188 [] m L Q := by
  refine aw_aload_n (i := 1) (q := 189) dL_law_188 rfl rfl rfl ?_
  refine al_arg (k := 1) (q := 194) dL_law_189 dL_law_190 dL_law_191 dL_law_192 dL_law_193 rfl rfl hi hL rfl ?_
  refine al_arg (k := 2) (q := 199) dL_law_194 dL_law_195 dL_law_196 dL_law_197 dL_law_198 rfl rfl hi hL rfl ?_
  refine al_call (k := 0) (As := [.int (ev_x E (i + 1)), .int (ev_x E (i + 2))]) (rest := []) (d' := 2) (q := 202) lkL_13 dL_law_199 rfl rfl rfl rfl rfl rfl rfl rfl rfl ?_
  refine CK.mono (jn_machine m L Dd hC hO hD) (fun v m1 L1 hv => ?_)
  obtain ⟨x, rfl, hv⟩ := hv
  refine aw_aload_n (i := 2) (q := 203) dL_law_202 rfl rfl rfl ?_
  refine al_arg (k := 1) (q := 208) dL_law_203 dL_law_204 dL_law_205 dL_law_206 dL_law_207 rfl rfl hi hL rfl ?_
  refine al_arg (k := 2) (q := 213) dL_law_208 dL_law_209 dL_law_210 dL_law_211 dL_law_212 rfl rfl hi hL rfl ?_
  refine al_call (k := 72) (As := [.int (ev_x E (i + 1)), .int (ev_x E (i + 2))]) (rest := [.int x]) (d' := 2) (q := 216) lkL_17 dL_law_213 rfl rfl rfl rfl rfl rfl rfl rfl rfl ?_
  refine CK.mono hv (fun w m2 L2 hw => ?_)
  obtain ⟨rfl, hC2, hO2⟩ := hw
  exact aw_icmp_eq (t := 1254) (q := 219) dL_law_216 rfl rfl (fun _ => K m2 L2 hC2 hO2) (fun c => absurd rfl c)
theorem al_now (hi : i + 6 ≤ ev_L E) (hL : ev_L E ≤ 3072) (hC : CR m L m L) (hO : OK Dd m) (hD : Dd ≤ 1000000) (K : ∀ m2 L2, CR m2 L2 m2 L2 → OK (Dd + 50) m2 → AL E nm i 1254 [] m2 L2 Q) : AL E nm i 221 [] m L Q := by
  refine aw_aload_n (i := 1) (q := 222) dL_law_221 rfl rfl rfl ?_
  refine al_arg (k := 1) (q := 227) dL_law_222 dL_law_223 dL_law_224 dL_law_225 dL_law_226 rfl rfl hi hL rfl ?_
  refine al_call (k := 0) (As := [.int (ev_x E (i + 1))]) (rest := []) (d' := 5) (q := 230) lkL_18 dL_law_227 rfl rfl rfl rfl rfl rfl rfl rfl rfl ?_
  refine CK.mono (jn_now m L Dd hC hO hD) (fun v m1 L1 hv => ?_)
  obtain ⟨x, rfl, hv⟩ := hv
  refine aw_aload_n (i := 2) (q := 231) dL_law_230 rfl rfl rfl ?_
  refine al_arg (k := 1) (q := 236) dL_law_231 dL_law_232 dL_law_233 dL_law_234 dL_law_235 rfl rfl hi hL rfl ?_
  refine al_call (k := 72) (As := [.int (ev_x E (i + 1))]) (rest := [.int x]) (d' := 6) (q := 239) lkL_22 dL_law_236 rfl rfl rfl rfl rfl rfl rfl rfl rfl ?_
  refine CK.mono hv (fun w m2 L2 hw => ?_)
  obtain ⟨rfl, hC2, hO2⟩ := hw
  exact aw_icmp_eq (t := 1254) (q := 242) dL_law_239 rfl rfl (fun _ => K m2 L2 hC2 hO2) (fun c => absurd rfl c)
theorem al_garment (hi : i + 6 ≤ ev_L E) (hL : ev_L E ≤ 3072) (hC : CR m L m L) (hO : OK Dd m) (hD : Dd ≤ 1000000) (K : ∀ m2 L2, CR m2 L2 m2 L2 → OK (Dd + 50) m2 → AL E nm i 1254 [] m2 L2 Q) : AL E nm i 244 [] m L Q := by
  refine aw_aload_n (i := 1) (q := 245) dL_law_244 rfl rfl rfl ?_
  refine al_arg (k := 1) (q := 250) dL_law_245 dL_law_246 dL_law_247 dL_law_248 dL_law_249 rfl rfl hi hL rfl ?_
  refine al_call (k := 0) (As := [.int (ev_x E (i + 1))]) (rest := []) (d' := 3) (q := 253) lkL_23 dL_law_250 rfl rfl rfl rfl rfl rfl rfl rfl rfl ?_
  refine CK.mono (jn_garment m L Dd hC hO hD) (fun v m1 L1 hv => ?_)
  obtain ⟨x, rfl, hv⟩ := hv
  refine aw_aload_n (i := 2) (q := 254) dL_law_253 rfl rfl rfl ?_
  refine al_arg (k := 1) (q := 259) dL_law_254 dL_law_255 dL_law_256 dL_law_257 dL_law_258 rfl rfl hi hL rfl ?_
  refine al_call (k := 72) (As := [.int (ev_x E (i + 1))]) (rest := [.int x]) (d' := 3) (q := 262) lkL_26 dL_law_259 rfl rfl rfl rfl rfl rfl rfl rfl rfl ?_
  refine CK.mono hv (fun w m2 L2 hw => ?_)
  obtain ⟨rfl, hC2, hO2⟩ := hw
  exact aw_icmp_eq (t := 1254) (q := 265) dL_law_262 rfl rfl (fun _ => K m2 L2 hC2 hO2) (fun c => absurd rfl c)
theorem al_of (hi : i + 6 ≤ ev_L E) (hL : ev_L E ≤ 3072) (hC : CR m L m L) (hO : OK Dd m) (hD : Dd ≤ 1000000) (K : ∀ m2 L2, CR m2 L2 m2 L2 → OK (Dd + 50) m2 → AL E nm i 1254 [] m2 L2 Q) : AL E nm i 267 [] m L Q := by
  refine aw_aload_n (i := 1) (q := 268) dL_law_267 rfl rfl rfl ?_
  refine al_arg (k := 1) (q := 273) dL_law_268 dL_law_269 dL_law_270 dL_law_271 dL_law_272 rfl rfl hi hL rfl ?_
  refine al_arg (k := 2) (q := 278) dL_law_273 dL_law_274 dL_law_275 dL_law_276 dL_law_277 rfl rfl hi hL rfl ?_
  refine al_call (k := 0) (As := [.int (ev_x E (i + 1)), .int (ev_x E (i + 2))]) (rest := []) (d' := 4) (q := 281) lkL_27 dL_law_278 rfl rfl rfl rfl rfl rfl rfl rfl rfl ?_
  refine CK.mono (jn_of m L Dd hC hO hD) (fun v m1 L1 hv => ?_)
  obtain ⟨x, rfl, hv⟩ := hv
  refine aw_aload_n (i := 2) (q := 282) dL_law_281 rfl rfl rfl ?_
  refine al_arg (k := 1) (q := 287) dL_law_282 dL_law_283 dL_law_284 dL_law_285 dL_law_286 rfl rfl hi hL rfl ?_
  refine al_arg (k := 2) (q := 292) dL_law_287 dL_law_288 dL_law_289 dL_law_290 dL_law_291 rfl rfl hi hL rfl ?_
  refine al_call (k := 72) (As := [.int (ev_x E (i + 1)), .int (ev_x E (i + 2))]) (rest := [.int x]) (d' := 5) (q := 295) lkL_30 dL_law_292 rfl rfl rfl rfl rfl rfl rfl rfl rfl ?_
  refine CK.mono hv (fun w m2 L2 hw => ?_)
  obtain ⟨rfl, hC2, hO2⟩ := hw
  exact aw_icmp_eq (t := 1254) (q := 298) dL_law_295 rfl rfl (fun _ => K m2 L2 hC2 hO2) (fun c => absurd rfl c)
theorem al_set (hi : i + 6 ≤ ev_L E) (hL : ev_L E ≤ 3072) (hC : CR m L m L) (hO : OK Dd m) (hD : Dd ≤ 1000000) (K : ∀ m2 L2, CR m2 L2 m2 L2 → OK (Dd + 50) m2 → AL E nm i 1254 [] m2 L2 Q) : AL E nm i 300 [] m L Q := by
  refine aw_aload_n (i := 1) (q := 301) dL_law_300 rfl rfl rfl ?_
  refine al_arg (k := 1) (q := 306) dL_law_301 dL_law_302 dL_law_303 dL_law_304 dL_law_305 rfl rfl hi hL rfl ?_
  refine al_arg (k := 2) (q := 311) dL_law_306 dL_law_307 dL_law_308 dL_law_309 dL_law_310 rfl rfl hi hL rfl ?_
  refine al_arg (k := 3) (q := 316) dL_law_311 dL_law_312 dL_law_313 dL_law_314 dL_law_315 rfl rfl hi hL rfl ?_
  refine al_call (k := 0) (As := [.int (ev_x E (i + 1)), .int (ev_x E (i + 2)), .int (ev_x E (i + 3))]) (rest := []) (d' := 4) (q := 319) lkL_31 dL_law_316 rfl rfl rfl rfl rfl rfl rfl rfl rfl ?_
  refine CK.mono (jn_set m L Dd hC hO hD) (fun v m1 L1 hv => ?_)
  obtain ⟨x, rfl, hv⟩ := hv
  refine aw_aload_n (i := 2) (q := 320) dL_law_319 rfl rfl rfl ?_
  refine al_arg (k := 1) (q := 325) dL_law_320 dL_law_321 dL_law_322 dL_law_323 dL_law_324 rfl rfl hi hL rfl ?_
  refine al_arg (k := 2) (q := 330) dL_law_325 dL_law_326 dL_law_327 dL_law_328 dL_law_329 rfl rfl hi hL rfl ?_
  refine al_arg (k := 3) (q := 335) dL_law_330 dL_law_331 dL_law_332 dL_law_333 dL_law_334 rfl rfl hi hL rfl ?_
  refine al_call (k := 72) (As := [.int (ev_x E (i + 1)), .int (ev_x E (i + 2)), .int (ev_x E (i + 3))]) (rest := [.int x]) (d' := 4) (q := 338) lkL_35 dL_law_335 rfl rfl rfl rfl rfl rfl rfl rfl rfl ?_
  refine CK.mono hv (fun w m2 L2 hw => ?_)
  obtain ⟨rfl, hC2, hO2⟩ := hw
  exact aw_icmp_eq (t := 1254) (q := 341) dL_law_338 rfl rfl (fun _ => K m2 L2 hC2 hO2) (fun c => absurd rfl c)
theorem al_wash (hi : i + 6 ≤ ev_L E) (hL : ev_L E ≤ 3072) (hC : CR m L m L) (hO : OK Dd m) (hD : Dd ≤ 1000000) (K : ∀ m2 L2, CR m2 L2 m2 L2 → OK (Dd + 50) m2 → AL E nm i 1254 [] m2 L2 Q) : AL E nm i 343 [] m L Q := by
  refine aw_aload_n (i := 1) (q := 344) dL_law_343 rfl rfl rfl ?_
  refine al_arg (k := 1) (q := 349) dL_law_344 dL_law_345 dL_law_346 dL_law_347 dL_law_348 rfl rfl hi hL rfl ?_
  refine al_call (k := 0) (As := [.int (ev_x E (i + 1))]) (rest := []) (d' := 4) (q := 352) lkL_36 dL_law_349 rfl rfl rfl rfl rfl rfl rfl rfl rfl ?_
  refine CK.mono (jn_wash m L Dd hC hO hD) (fun v m1 L1 hv => ?_)
  obtain ⟨x, rfl, hv⟩ := hv
  refine aw_aload_n (i := 2) (q := 353) dL_law_352 rfl rfl rfl ?_
  refine al_arg (k := 1) (q := 358) dL_law_353 dL_law_354 dL_law_355 dL_law_356 dL_law_357 rfl rfl hi hL rfl ?_
  refine al_call (k := 72) (As := [.int (ev_x E (i + 1))]) (rest := [.int x]) (d' := 6) (q := 361) lkL_39 dL_law_358 rfl rfl rfl rfl rfl rfl rfl rfl rfl ?_
  refine CK.mono hv (fun w m2 L2 hw => ?_)
  obtain ⟨rfl, hC2, hO2⟩ := hw
  exact aw_icmp_eq (t := 1254) (q := 364) dL_law_361 rfl rfl (fun _ => K m2 L2 hC2 hO2) (fun c => absurd rfl c)
theorem al_draw (hi : i + 6 ≤ ev_L E) (hL : ev_L E ≤ 3072) (hC : CR m L m L) (hO : OK Dd m) (hD : Dd ≤ 1000000) (K : ∀ m2 L2, CR m2 L2 m2 L2 → OK (Dd + 50) m2 → AL E nm i 1254 [] m2 L2 Q) : AL E nm i 366 [] m L Q := by
  refine aw_aload_n (i := 1) (q := 367) dL_law_366 rfl rfl rfl ?_
  refine al_arg (k := 1) (q := 372) dL_law_367 dL_law_368 dL_law_369 dL_law_370 dL_law_371 rfl rfl hi hL rfl ?_
  refine al_arg (k := 2) (q := 377) dL_law_372 dL_law_373 dL_law_374 dL_law_375 dL_law_376 rfl rfl hi hL rfl ?_
  refine al_call (k := 0) (As := [.int (ev_x E (i + 1)), .int (ev_x E (i + 2))]) (rest := []) (d' := 5) (q := 380) lkL_40 dL_law_377 rfl rfl rfl rfl rfl rfl rfl rfl rfl ?_
  refine CK.mono (jn_draw m L Dd hC hO hD) (fun v m1 L1 hv => ?_)
  obtain ⟨x, rfl, hv⟩ := hv
  refine aw_aload_n (i := 2) (q := 381) dL_law_380 rfl rfl rfl ?_
  refine al_arg (k := 1) (q := 386) dL_law_381 dL_law_382 dL_law_383 dL_law_384 dL_law_385 rfl rfl hi hL rfl ?_
  refine al_arg (k := 2) (q := 391) dL_law_386 dL_law_387 dL_law_388 dL_law_389 dL_law_390 rfl rfl hi hL rfl ?_
  refine al_call (k := 72) (As := [.int (ev_x E (i + 1)), .int (ev_x E (i + 2))]) (rest := [.int x]) (d' := 5) (q := 394) lkL_43 dL_law_391 rfl rfl rfl rfl rfl rfl rfl rfl rfl ?_
  refine CK.mono hv (fun w m2 L2 hw => ?_)
  obtain ⟨rfl, hC2, hO2⟩ := hw
  exact aw_icmp_eq (t := 1254) (q := 397) dL_law_394 rfl rfl (fun _ => K m2 L2 hC2 hO2) (fun c => absurd rfl c)
theorem al_turn (hi : i + 6 ≤ ev_L E) (hL : ev_L E ≤ 3072) (hC : CR m L m L) (hO : OK Dd m) (hD : Dd ≤ 1000000) (K : ∀ m2 L2, CR m2 L2 m2 L2 → OK (Dd + 50) m2 → AL E nm i 1254 [] m2 L2 Q) : AL E nm i 399 [] m L Q := by
  refine aw_aload_n (i := 1) (q := 400) dL_law_399 rfl rfl rfl ?_
  refine al_arg (k := 1) (q := 405) dL_law_400 dL_law_401 dL_law_402 dL_law_403 dL_law_404 rfl rfl hi hL rfl ?_
  refine al_arg (k := 2) (q := 410) dL_law_405 dL_law_406 dL_law_407 dL_law_408 dL_law_409 rfl rfl hi hL rfl ?_
  refine al_call (k := 0) (As := [.int (ev_x E (i + 1)), .int (ev_x E (i + 2))]) (rest := []) (d' := 2) (q := 413) lkL_44 dL_law_410 rfl rfl rfl rfl rfl rfl rfl rfl rfl ?_
  refine CK.mono (jn_turn m L Dd hC hO hD) (fun v m1 L1 hv => ?_)
  obtain ⟨x, rfl, hv⟩ := hv
  refine aw_aload_n (i := 2) (q := 414) dL_law_413 rfl rfl rfl ?_
  refine al_arg (k := 1) (q := 419) dL_law_414 dL_law_415 dL_law_416 dL_law_417 dL_law_418 rfl rfl hi hL rfl ?_
  refine al_arg (k := 2) (q := 424) dL_law_419 dL_law_420 dL_law_421 dL_law_422 dL_law_423 rfl rfl hi hL rfl ?_
  refine al_call (k := 72) (As := [.int (ev_x E (i + 1)), .int (ev_x E (i + 2))]) (rest := [.int x]) (d' := 3) (q := 427) lkL_47 dL_law_424 rfl rfl rfl rfl rfl rfl rfl rfl rfl ?_
  refine CK.mono hv (fun w m2 L2 hw => ?_)
  obtain ⟨rfl, hC2, hO2⟩ := hw
  exact aw_icmp_eq (t := 1254) (q := 430) dL_law_427 rfl rfl (fun _ => K m2 L2 hC2 hO2) (fun c => absurd rfl c)
theorem al_as (hi : i + 6 ≤ ev_L E) (hL : ev_L E ≤ 3072) (hC : CR m L m L) (hO : OK Dd m) (hD : Dd ≤ 1000000) (K : ∀ m2 L2, CR m2 L2 m2 L2 → OK (Dd + 50) m2 → AL E nm i 1254 [] m2 L2 Q) : AL E nm i 432 [] m L Q := by
  refine aw_aload_n (i := 1) (q := 433) dL_law_432 rfl rfl rfl ?_
  refine al_arg (k := 1) (q := 438) dL_law_433 dL_law_434 dL_law_435 dL_law_436 dL_law_437 rfl rfl hi hL rfl ?_
  refine al_arg (k := 2) (q := 443) dL_law_438 dL_law_439 dL_law_440 dL_law_441 dL_law_442 rfl rfl hi hL rfl ?_
  refine al_call (k := 0) (As := [.int (ev_x E (i + 1)), .int (ev_x E (i + 2))]) (rest := []) (d' := 3) (q := 446) lkL_48 dL_law_443 rfl rfl rfl rfl rfl rfl rfl rfl rfl ?_
  refine CK.mono (jn_as m L Dd hC hO hD) (fun v m1 L1 hv => ?_)
  obtain ⟨x, rfl, hv⟩ := hv
  refine aw_aload_n (i := 2) (q := 447) dL_law_446 rfl rfl rfl ?_
  refine al_arg (k := 1) (q := 452) dL_law_447 dL_law_448 dL_law_449 dL_law_450 dL_law_451 rfl rfl hi hL rfl ?_
  refine al_arg (k := 2) (q := 457) dL_law_452 dL_law_453 dL_law_454 dL_law_455 dL_law_456 rfl rfl hi hL rfl ?_
  refine al_call (k := 72) (As := [.int (ev_x E (i + 1)), .int (ev_x E (i + 2))]) (rest := [.int x]) (d' := 3) (q := 460) lkL_51 dL_law_457 rfl rfl rfl rfl rfl rfl rfl rfl rfl ?_
  refine CK.mono hv (fun w m2 L2 hw => ?_)
  obtain ⟨rfl, hC2, hO2⟩ := hw
  exact aw_icmp_eq (t := 1254) (q := 463) dL_law_460 rfl rfl (fun _ => K m2 L2 hC2 hO2) (fun c => absurd rfl c)
theorem al_person (hi : i + 6 ≤ ev_L E) (hL : ev_L E ≤ 3072) (hC : CR m L m L) (hO : OK Dd m) (hD : Dd ≤ 1000000) (K : ∀ m2 L2, CR m2 L2 m2 L2 → OK (Dd + 50) m2 → AL E nm i 1254 [] m2 L2 Q) : AL E nm i 465 [] m L Q := by
  refine aw_aload_n (i := 1) (q := 466) dL_law_465 rfl rfl rfl ?_
  refine al_arg (k := 1) (q := 471) dL_law_466 dL_law_467 dL_law_468 dL_law_469 dL_law_470 rfl rfl hi hL rfl ?_
  refine al_arg (k := 2) (q := 476) dL_law_471 dL_law_472 dL_law_473 dL_law_474 dL_law_475 rfl rfl hi hL rfl ?_
  refine al_call (k := 0) (As := [.int (ev_x E (i + 1)), .int (ev_x E (i + 2))]) (rest := []) (d' := 3) (q := 479) lkL_52 dL_law_476 rfl rfl rfl rfl rfl rfl rfl rfl rfl ?_
  refine CK.mono (jn_person m L Dd hC hO hD) (fun v m1 L1 hv => ?_)
  obtain ⟨x, rfl, hv⟩ := hv
  refine aw_aload_n (i := 2) (q := 480) dL_law_479 rfl rfl rfl ?_
  refine al_arg (k := 1) (q := 485) dL_law_480 dL_law_481 dL_law_482 dL_law_483 dL_law_484 rfl rfl hi hL rfl ?_
  refine al_arg (k := 2) (q := 490) dL_law_485 dL_law_486 dL_law_487 dL_law_488 dL_law_489 rfl rfl hi hL rfl ?_
  refine al_call (k := 72) (As := [.int (ev_x E (i + 1)), .int (ev_x E (i + 2))]) (rest := [.int x]) (d' := 3) (q := 493) lkL_55 dL_law_490 rfl rfl rfl rfl rfl rfl rfl rfl rfl ?_
  refine CK.mono hv (fun w m2 L2 hw => ?_)
  obtain ⟨rfl, hC2, hO2⟩ := hw
  exact aw_icmp_eq (t := 1254) (q := 496) dL_law_493 rfl rfl (fun _ => K m2 L2 hC2 hO2) (fun c => absurd rfl c)
theorem al_size (hi : i + 6 ≤ ev_L E) (hL : ev_L E ≤ 3072) (hC : CR m L m L) (hO : OK Dd m) (hD : Dd ≤ 1000000) (K : ∀ m2 L2, CR m2 L2 m2 L2 → OK (Dd + 50) m2 → AL E nm i 1254 [] m2 L2 Q) : AL E nm i 498 [] m L Q := by
  refine aw_aload_n (i := 1) (q := 499) dL_law_498 rfl rfl rfl ?_
  refine al_arg (k := 1) (q := 504) dL_law_499 dL_law_500 dL_law_501 dL_law_502 dL_law_503 rfl rfl hi hL rfl ?_
  refine al_arg (k := 2) (q := 509) dL_law_504 dL_law_505 dL_law_506 dL_law_507 dL_law_508 rfl rfl hi hL rfl ?_
  refine al_call (k := 0) (As := [.int (ev_x E (i + 1)), .int (ev_x E (i + 2))]) (rest := []) (d' := 2) (q := 512) lkL_56 dL_law_509 rfl rfl rfl rfl rfl rfl rfl rfl rfl ?_
  refine CK.mono (jn_size m L Dd hC hO hD) (fun v m1 L1 hv => ?_)
  obtain ⟨x, rfl, hv⟩ := hv
  refine aw_aload_n (i := 2) (q := 513) dL_law_512 rfl rfl rfl ?_
  refine al_arg (k := 1) (q := 518) dL_law_513 dL_law_514 dL_law_515 dL_law_516 dL_law_517 rfl rfl hi hL rfl ?_
  refine al_arg (k := 2) (q := 523) dL_law_518 dL_law_519 dL_law_520 dL_law_521 dL_law_522 rfl rfl hi hL rfl ?_
  refine al_call (k := 72) (As := [.int (ev_x E (i + 1)), .int (ev_x E (i + 2))]) (rest := [.int x]) (d' := 3) (q := 526) lkL_59 dL_law_523 rfl rfl rfl rfl rfl rfl rfl rfl rfl ?_
  refine CK.mono hv (fun w m2 L2 hw => ?_)
  obtain ⟨rfl, hC2, hO2⟩ := hw
  exact aw_icmp_eq (t := 1254) (q := 529) dL_law_526 rfl rfl (fun _ => K m2 L2 hC2 hO2) (fun c => absurd rfl c)
theorem al_fits (hi : i + 6 ≤ ev_L E) (hL : ev_L E ≤ 3072) (hC : CR m L m L) (hO : OK Dd m) (hD : Dd ≤ 1000000) (K : ∀ m2 L2, CR m2 L2 m2 L2 → OK (Dd + 50) m2 → AL E nm i 1254 [] m2 L2 Q) : AL E nm i 531 [] m L Q := by
  refine aw_aload_n (i := 1) (q := 532) dL_law_531 rfl rfl rfl ?_
  refine al_arg (k := 1) (q := 537) dL_law_532 dL_law_533 dL_law_534 dL_law_535 dL_law_536 rfl rfl hi hL rfl ?_
  refine al_call (k := 0) (As := [.int (ev_x E (i + 1))]) (rest := []) (d' := 4) (q := 540) lkL_60 dL_law_537 rfl rfl rfl rfl rfl rfl rfl rfl rfl ?_
  refine CK.mono (jn_fits m L Dd hC hO hD) (fun v m1 L1 hv => ?_)
  obtain ⟨x, rfl, hv⟩ := hv
  refine aw_aload_n (i := 2) (q := 541) dL_law_540 rfl rfl rfl ?_
  refine al_arg (k := 1) (q := 546) dL_law_541 dL_law_542 dL_law_543 dL_law_544 dL_law_545 rfl rfl hi hL rfl ?_
  refine al_call (k := 72) (As := [.int (ev_x E (i + 1))]) (rest := [.int x]) (d' := 5) (q := 549) lkL_63 dL_law_546 rfl rfl rfl rfl rfl rfl rfl rfl rfl ?_
  refine CK.mono hv (fun w m2 L2 hw => ?_)
  obtain ⟨rfl, hC2, hO2⟩ := hw
  exact aw_icmp_eq (t := 1254) (q := 552) dL_law_549 rfl rfl (fun _ => K m2 L2 hC2 hO2) (fun c => absurd rfl c)
theorem al_days (hi : i + 6 ≤ ev_L E) (hL : ev_L E ≤ 3072) (hC : CR m L m L) (hO : OK Dd m) (hD : Dd ≤ 1000000) (K : ∀ m2 L2, CR m2 L2 m2 L2 → OK (Dd + 50) m2 → AL E nm i 1254 [] m2 L2 Q) : AL E nm i 554 [] m L Q := by
  refine aw_aload_n (i := 1) (q := 555) dL_law_554 rfl rfl rfl ?_
  refine al_arg (k := 1) (q := 560) dL_law_555 dL_law_556 dL_law_557 dL_law_558 dL_law_559 rfl rfl hi hL rfl ?_
  refine al_call (k := 0) (As := [.int (ev_x E (i + 1))]) (rest := []) (d' := 6) (q := 563) lkL_64 dL_law_560 rfl rfl rfl rfl rfl rfl rfl rfl rfl ?_
  refine CK.mono (jn_days m L Dd hC hO hD) (fun v m1 L1 hv => ?_)
  obtain ⟨x, rfl, hv⟩ := hv
  refine aw_aload_n (i := 2) (q := 564) dL_law_563 rfl rfl rfl ?_
  refine al_arg (k := 1) (q := 569) dL_law_564 dL_law_565 dL_law_566 dL_law_567 dL_law_568 rfl rfl hi hL rfl ?_
  refine al_call (k := 72) (As := [.int (ev_x E (i + 1))]) (rest := [.int x]) (d' := 6) (q := 572) lkL_67 dL_law_569 rfl rfl rfl rfl rfl rfl rfl rfl rfl ?_
  refine CK.mono hv (fun w m2 L2 hw => ?_)
  obtain ⟨rfl, hC2, hO2⟩ := hw
  exact aw_icmp_eq (t := 1254) (q := 575) dL_law_572 rfl rfl (fun _ => K m2 L2 hC2 hO2) (fun c => absurd rfl c)
theorem al_on (hi : i + 6 ≤ ev_L E) (hL : ev_L E ≤ 3072) (hC : CR m L m L) (hO : OK Dd m) (hD : Dd ≤ 1000000) (K : ∀ m2 L2, CR m2 L2 m2 L2 → OK (Dd + 50) m2 → AL E nm i 1254 [] m2 L2 Q) : AL E nm i 577 [] m L Q := by
  refine aw_aload_n (i := 1) (q := 578) dL_law_577 rfl rfl rfl ?_
  refine al_arg (k := 1) (q := 583) dL_law_578 dL_law_579 dL_law_580 dL_law_581 dL_law_582 rfl rfl hi hL rfl ?_
  refine al_arg (k := 2) (q := 588) dL_law_583 dL_law_584 dL_law_585 dL_law_586 dL_law_587 rfl rfl hi hL rfl ?_
  refine al_arg (k := 3) (q := 593) dL_law_588 dL_law_589 dL_law_590 dL_law_591 dL_law_592 rfl rfl hi hL rfl ?_
  refine al_call (k := 0) (As := [.int (ev_x E (i + 1)), .int (ev_x E (i + 2)), .int (ev_x E (i + 3))]) (rest := []) (d' := 5) (q := 596) lkL_68 dL_law_593 rfl rfl rfl rfl rfl rfl rfl rfl rfl ?_
  refine CK.mono (jn_on m L Dd hC hO hD) (fun v m1 L1 hv => ?_)
  obtain ⟨x, rfl, hv⟩ := hv
  refine aw_aload_n (i := 2) (q := 597) dL_law_596 rfl rfl rfl ?_
  refine al_arg (k := 1) (q := 602) dL_law_597 dL_law_598 dL_law_599 dL_law_600 dL_law_601 rfl rfl hi hL rfl ?_
  refine al_arg (k := 2) (q := 607) dL_law_602 dL_law_603 dL_law_604 dL_law_605 dL_law_606 rfl rfl hi hL rfl ?_
  refine al_arg (k := 3) (q := 612) dL_law_607 dL_law_608 dL_law_609 dL_law_610 dL_law_611 rfl rfl hi hL rfl ?_
  refine al_call (k := 72) (As := [.int (ev_x E (i + 1)), .int (ev_x E (i + 2)), .int (ev_x E (i + 3))]) (rest := [.int x]) (d' := 6) (q := 615) lkL_71 dL_law_612 rfl rfl rfl rfl rfl rfl rfl rfl rfl ?_
  refine CK.mono hv (fun w m2 L2 hw => ?_)
  obtain ⟨rfl, hC2, hO2⟩ := hw
  exact aw_icmp_eq (t := 1254) (q := 618) dL_law_615 rfl rfl (fun _ => K m2 L2 hC2 hO2) (fun c => absurd rfl c)
theorem al_again (hi : i + 6 ≤ ev_L E) (hL : ev_L E ≤ 3072) (hC : CR m L m L) (hO : OK Dd m) (hD : Dd ≤ 1000000) (K : ∀ m2 L2, CR m2 L2 m2 L2 → OK (Dd + 50) m2 → AL E nm i 1254 [] m2 L2 Q) : AL E nm i 620 [] m L Q := by
  refine aw_aload_n (i := 1) (q := 621) dL_law_620 rfl rfl rfl ?_
  refine al_arg (k := 1) (q := 626) dL_law_621 dL_law_622 dL_law_623 dL_law_624 dL_law_625 rfl rfl hi hL rfl ?_
  refine al_arg (k := 2) (q := 631) dL_law_626 dL_law_627 dL_law_628 dL_law_629 dL_law_630 rfl rfl hi hL rfl ?_
  refine al_arg (k := 3) (q := 636) dL_law_631 dL_law_632 dL_law_633 dL_law_634 dL_law_635 rfl rfl hi hL rfl ?_
  refine al_call (k := 0) (As := [.int (ev_x E (i + 1)), .int (ev_x E (i + 2)), .int (ev_x E (i + 3))]) (rest := []) (d' := 6) (q := 639) lkL_72 dL_law_636 rfl rfl rfl rfl rfl rfl rfl rfl rfl ?_
  refine CK.mono (jn_again m L Dd hC hO hD) (fun v m1 L1 hv => ?_)
  obtain ⟨x, rfl, hv⟩ := hv
  refine aw_aload_n (i := 2) (q := 640) dL_law_639 rfl rfl rfl ?_
  refine al_arg (k := 1) (q := 645) dL_law_640 dL_law_641 dL_law_642 dL_law_643 dL_law_644 rfl rfl hi hL rfl ?_
  refine al_arg (k := 2) (q := 650) dL_law_645 dL_law_646 dL_law_647 dL_law_648 dL_law_649 rfl rfl hi hL rfl ?_
  refine al_arg (k := 3) (q := 655) dL_law_650 dL_law_651 dL_law_652 dL_law_653 dL_law_654 rfl rfl hi hL rfl ?_
  refine al_call (k := 72) (As := [.int (ev_x E (i + 1)), .int (ev_x E (i + 2)), .int (ev_x E (i + 3))]) (rest := [.int x]) (d' := 8) (q := 658) lkL_75 dL_law_655 rfl rfl rfl rfl rfl rfl rfl rfl rfl ?_
  refine CK.mono hv (fun w m2 L2 hw => ?_)
  obtain ⟨rfl, hC2, hO2⟩ := hw
  exact aw_icmp_eq (t := 1254) (q := 661) dL_law_658 rfl rfl (fun _ => K m2 L2 hC2 hO2) (fun c => absurd rfl c)
theorem al_washes (hi : i + 6 ≤ ev_L E) (hL : ev_L E ≤ 3072) (hC : CR m L m L) (hO : OK Dd m) (hD : Dd ≤ 1000000) (K : ∀ m2 L2, CR m2 L2 m2 L2 → OK (Dd + 50) m2 → AL E nm i 1254 [] m2 L2 Q) : AL E nm i 663 [] m L Q := by
  refine aw_aload_n (i := 1) (q := 664) dL_law_663 rfl rfl rfl ?_
  refine al_arg (k := 1) (q := 669) dL_law_664 dL_law_665 dL_law_666 dL_law_667 dL_law_668 rfl rfl hi hL rfl ?_
  refine al_arg (k := 2) (q := 674) dL_law_669 dL_law_670 dL_law_671 dL_law_672 dL_law_673 rfl rfl hi hL rfl ?_
  refine al_call (k := 0) (As := [.int (ev_x E (i + 1)), .int (ev_x E (i + 2))]) (rest := []) (d' := 6) (q := 677) lkL_76 dL_law_674 rfl rfl rfl rfl rfl rfl rfl rfl rfl ?_
  refine CK.mono (jn_washes m L Dd hC hO hD) (fun v m1 L1 hv => ?_)
  obtain ⟨x, rfl, hv⟩ := hv
  refine aw_aload_n (i := 2) (q := 678) dL_law_677 rfl rfl rfl ?_
  refine al_arg (k := 1) (q := 683) dL_law_678 dL_law_679 dL_law_680 dL_law_681 dL_law_682 rfl rfl hi hL rfl ?_
  refine al_arg (k := 2) (q := 688) dL_law_683 dL_law_684 dL_law_685 dL_law_686 dL_law_687 rfl rfl hi hL rfl ?_
  refine al_call (k := 72) (As := [.int (ev_x E (i + 1)), .int (ev_x E (i + 2))]) (rest := [.int x]) (d' := 8) (q := 691) lkL_79 dL_law_688 rfl rfl rfl rfl rfl rfl rfl rfl rfl ?_
  refine CK.mono hv (fun w m2 L2 hw => ?_)
  obtain ⟨rfl, hC2, hO2⟩ := hw
  exact aw_icmp_eq (t := 1254) (q := 694) dL_law_691 rfl rfl (fun _ => K m2 L2 hC2 hO2) (fun c => absurd rfl c)
theorem al_warmest (hi : i + 6 ≤ ev_L E) (hL : ev_L E ≤ 3072) (hC : CR m L m L) (hO : OK Dd m) (hD : Dd ≤ 1000000) (K : ∀ m2 L2, CR m2 L2 m2 L2 → OK (Dd + 50) m2 → AL E nm i 1254 [] m2 L2 Q) : AL E nm i 696 [] m L Q := by
  refine aw_aload_n (i := 1) (q := 697) dL_law_696 rfl rfl rfl ?_
  refine al_arg (k := 1) (q := 702) dL_law_697 dL_law_698 dL_law_699 dL_law_700 dL_law_701 rfl rfl hi hL rfl ?_
  refine al_arg (k := 2) (q := 707) dL_law_702 dL_law_703 dL_law_704 dL_law_705 dL_law_706 rfl rfl hi hL rfl ?_
  refine al_call (k := 0) (As := [.int (ev_x E (i + 1)), .int (ev_x E (i + 2))]) (rest := []) (d' := 6) (q := 710) lkL_80 dL_law_707 rfl rfl rfl rfl rfl rfl rfl rfl rfl ?_
  refine CK.mono (jn_warmest m L Dd hC hO hD) (fun v m1 L1 hv => ?_)
  obtain ⟨x, rfl, hv⟩ := hv
  refine aw_aload_n (i := 2) (q := 711) dL_law_710 rfl rfl rfl ?_
  refine al_arg (k := 1) (q := 716) dL_law_711 dL_law_712 dL_law_713 dL_law_714 dL_law_715 rfl rfl hi hL rfl ?_
  refine al_arg (k := 2) (q := 721) dL_law_716 dL_law_717 dL_law_718 dL_law_719 dL_law_720 rfl rfl hi hL rfl ?_
  refine al_call (k := 72) (As := [.int (ev_x E (i + 1)), .int (ev_x E (i + 2))]) (rest := [.int x]) (d' := 8) (q := 724) lkL_83 dL_law_721 rfl rfl rfl rfl rfl rfl rfl rfl rfl ?_
  refine CK.mono hv (fun w m2 L2 hw => ?_)
  obtain ⟨rfl, hC2, hO2⟩ := hw
  exact aw_icmp_eq (t := 1254) (q := 727) dL_law_724 rfl rfl (fun _ => K m2 L2 hC2 hO2) (fun c => absurd rfl c)
theorem al_pull (hi : i + 6 ≤ ev_L E) (hL : ev_L E ≤ 3072) (hC : CR m L m L) (hO : OK Dd m) (hD : Dd ≤ 1000000) (K : ∀ m2 L2, CR m2 L2 m2 L2 → OK (Dd + 50) m2 → AL E nm i 1254 [] m2 L2 Q) : AL E nm i 729 [] m L Q := by
  refine aw_aload_n (i := 1) (q := 730) dL_law_729 rfl rfl rfl ?_
  refine al_arg (k := 1) (q := 735) dL_law_730 dL_law_731 dL_law_732 dL_law_733 dL_law_734 rfl rfl hi hL rfl ?_
  refine al_arg (k := 2) (q := 740) dL_law_735 dL_law_736 dL_law_737 dL_law_738 dL_law_739 rfl rfl hi hL rfl ?_
  refine al_call (k := 0) (As := [.int (ev_x E (i + 1)), .int (ev_x E (i + 2))]) (rest := []) (d' := 6) (q := 743) lkL_84 dL_law_740 rfl rfl rfl rfl rfl rfl rfl rfl rfl ?_
  refine CK.mono (jn_pull m L Dd hC hO hD) (fun v m1 L1 hv => ?_)
  obtain ⟨x, rfl, hv⟩ := hv
  refine aw_aload_n (i := 2) (q := 744) dL_law_743 rfl rfl rfl ?_
  refine al_arg (k := 1) (q := 749) dL_law_744 dL_law_745 dL_law_746 dL_law_747 dL_law_748 rfl rfl hi hL rfl ?_
  refine al_arg (k := 2) (q := 754) dL_law_749 dL_law_750 dL_law_751 dL_law_752 dL_law_753 rfl rfl hi hL rfl ?_
  refine al_call (k := 72) (As := [.int (ev_x E (i + 1)), .int (ev_x E (i + 2))]) (rest := [.int x]) (d' := 8) (q := 757) lkL_87 dL_law_754 rfl rfl rfl rfl rfl rfl rfl rfl rfl ?_
  refine CK.mono hv (fun w m2 L2 hw => ?_)
  obtain ⟨rfl, hC2, hO2⟩ := hw
  exact aw_icmp_eq (t := 1254) (q := 760) dL_law_757 rfl rfl (fun _ => K m2 L2 hC2 hO2) (fun c => absurd rfl c)
theorem al_kind (hi : i + 6 ≤ ev_L E) (hL : ev_L E ≤ 3072) (hC : CR m L m L) (hO : OK Dd m) (hD : Dd ≤ 1000000) (K : ∀ m2 L2, CR m2 L2 m2 L2 → OK (Dd + 50) m2 → AL E nm i 1254 [] m2 L2 Q) : AL E nm i 762 [] m L Q := by
  refine aw_aload_n (i := 1) (q := 763) dL_law_762 rfl rfl rfl ?_
  refine al_arg (k := 1) (q := 768) dL_law_763 dL_law_764 dL_law_765 dL_law_766 dL_law_767 rfl rfl hi hL rfl ?_
  refine al_arg (k := 2) (q := 773) dL_law_768 dL_law_769 dL_law_770 dL_law_771 dL_law_772 rfl rfl hi hL rfl ?_
  refine al_call (k := 0) (As := [.int (ev_x E (i + 1)), .int (ev_x E (i + 2))]) (rest := []) (d' := 5) (q := 776) lkL_88 dL_law_773 rfl rfl rfl rfl rfl rfl rfl rfl rfl ?_
  refine CK.mono (jn_kind m L Dd hC hO hD) (fun v m1 L1 hv => ?_)
  obtain ⟨x, rfl, hv⟩ := hv
  refine aw_aload_n (i := 2) (q := 777) dL_law_776 rfl rfl rfl ?_
  refine al_arg (k := 1) (q := 782) dL_law_777 dL_law_778 dL_law_779 dL_law_780 dL_law_781 rfl rfl hi hL rfl ?_
  refine al_arg (k := 2) (q := 787) dL_law_782 dL_law_783 dL_law_784 dL_law_785 dL_law_786 rfl rfl hi hL rfl ?_
  refine al_call (k := 72) (As := [.int (ev_x E (i + 1)), .int (ev_x E (i + 2))]) (rest := [.int x]) (d' := 8) (q := 790) lkL_91 dL_law_787 rfl rfl rfl rfl rfl rfl rfl rfl rfl ?_
  refine CK.mono hv (fun w m2 L2 hw => ?_)
  obtain ⟨rfl, hC2, hO2⟩ := hw
  exact aw_icmp_eq (t := 1254) (q := 793) dL_law_790 rfl rfl (fun _ => K m2 L2 hC2 hO2) (fun c => absurd rfl c)
theorem al_dressed (hi : i + 6 ≤ ev_L E) (hL : ev_L E ≤ 3072) (hC : CR m L m L) (hO : OK Dd m) (hD : Dd ≤ 1000000) (K : ∀ m2 L2, CR m2 L2 m2 L2 → OK (Dd + 50) m2 → AL E nm i 1254 [] m2 L2 Q) : AL E nm i 795 [] m L Q := by
  refine aw_aload_n (i := 1) (q := 796) dL_law_795 rfl rfl rfl ?_
  refine al_arg (k := 1) (q := 801) dL_law_796 dL_law_797 dL_law_798 dL_law_799 dL_law_800 rfl rfl hi hL rfl ?_
  refine al_call (k := 0) (As := [.int (ev_x E (i + 1))]) (rest := []) (d' := 6) (q := 804) lkL_92 dL_law_801 rfl rfl rfl rfl rfl rfl rfl rfl rfl ?_
  refine CK.mono (jn_dressed m L Dd hC hO hD) (fun v m1 L1 hv => ?_)
  obtain ⟨x, rfl, hv⟩ := hv
  refine aw_aload_n (i := 2) (q := 805) dL_law_804 rfl rfl rfl ?_
  refine al_arg (k := 1) (q := 810) dL_law_805 dL_law_806 dL_law_807 dL_law_808 dL_law_809 rfl rfl hi hL rfl ?_
  refine al_call (k := 72) (As := [.int (ev_x E (i + 1))]) (rest := [.int x]) (d' := 6) (q := 813) lkL_95 dL_law_810 rfl rfl rfl rfl rfl rfl rfl rfl rfl ?_
  refine CK.mono hv (fun w m2 L2 hw => ?_)
  obtain ⟨rfl, hC2, hO2⟩ := hw
  exact aw_icmp_eq (t := 1254) (q := 816) dL_law_813 rfl rfl (fun _ => K m2 L2 hC2 hO2) (fun c => absurd rfl c)
theorem al_shortest (hi : i + 6 ≤ ev_L E) (hL : ev_L E ≤ 3072) (hC : CR m L m L) (hO : OK Dd m) (hD : Dd ≤ 1000000) (K : ∀ m2 L2, CR m2 L2 m2 L2 → OK (Dd + 50) m2 → AL E nm i 1254 [] m2 L2 Q) : AL E nm i 818 [] m L Q := by
  refine aw_aload_n (i := 1) (q := 819) dL_law_818 rfl rfl rfl ?_
  refine al_arg (k := 1) (q := 824) dL_law_819 dL_law_820 dL_law_821 dL_law_822 dL_law_823 rfl rfl hi hL rfl ?_
  refine al_call (k := 0) (As := [.int (ev_x E (i + 1))]) (rest := []) (d' := 6) (q := 827) lkL_96 dL_law_824 rfl rfl rfl rfl rfl rfl rfl rfl rfl ?_
  refine CK.mono (jn_shortest m L Dd hC hO hD) (fun v m1 L1 hv => ?_)
  obtain ⟨x, rfl, hv⟩ := hv
  refine aw_aload_n (i := 2) (q := 828) dL_law_827 rfl rfl rfl ?_
  refine al_arg (k := 1) (q := 833) dL_law_828 dL_law_829 dL_law_830 dL_law_831 dL_law_832 rfl rfl hi hL rfl ?_
  refine al_call (k := 72) (As := [.int (ev_x E (i + 1))]) (rest := [.int x]) (d' := 8) (q := 836) lkL_99 dL_law_833 rfl rfl rfl rfl rfl rfl rfl rfl rfl ?_
  refine CK.mono hv (fun w m2 L2 hw => ?_)
  obtain ⟨rfl, hC2, hO2⟩ := hw
  exact aw_icmp_eq (t := 1254) (q := 839) dL_law_836 rfl rfl (fun _ => K m2 L2 hC2 hO2) (fun c => absurd rfl c)
theorem al_feed (hi : i + 6 ≤ ev_L E) (hL : ev_L E ≤ 3072) (hC : CR m L m L) (hO : OK Dd m) (hD : Dd ≤ 1000000) (K : ∀ m2 L2, CR m2 L2 m2 L2 → OK (Dd + 50) m2 → AL E nm i 1254 [] m2 L2 Q) : AL E nm i 841 [] m L Q := by
  refine aw_aload_n (i := 1) (q := 842) dL_law_841 rfl rfl rfl ?_
  refine al_arg (k := 1) (q := 847) dL_law_842 dL_law_843 dL_law_844 dL_law_845 dL_law_846 rfl rfl hi hL rfl ?_
  refine al_arg (k := 2) (q := 852) dL_law_847 dL_law_848 dL_law_849 dL_law_850 dL_law_851 rfl rfl hi hL rfl ?_
  refine al_call (k := 0) (As := [.int (ev_x E (i + 1)), .int (ev_x E (i + 2))]) (rest := []) (d' := 2) (q := 855) lkL_100 dL_law_852 rfl rfl rfl rfl rfl rfl rfl rfl rfl ?_
  refine CK.mono (jn_feed m L Dd hC hO hD) (fun v m1 L1 hv => ?_)
  obtain ⟨x, rfl, hv⟩ := hv
  refine aw_aload_n (i := 2) (q := 856) dL_law_855 rfl rfl rfl ?_
  refine al_arg (k := 1) (q := 861) dL_law_856 dL_law_857 dL_law_858 dL_law_859 dL_law_860 rfl rfl hi hL rfl ?_
  refine al_arg (k := 2) (q := 866) dL_law_861 dL_law_862 dL_law_863 dL_law_864 dL_law_865 rfl rfl hi hL rfl ?_
  refine al_call (k := 72) (As := [.int (ev_x E (i + 1)), .int (ev_x E (i + 2))]) (rest := [.int x]) (d' := 2) (q := 869) lkL_103 dL_law_866 rfl rfl rfl rfl rfl rfl rfl rfl rfl ?_
  refine CK.mono hv (fun w m2 L2 hw => ?_)
  obtain ⟨rfl, hC2, hO2⟩ := hw
  exact aw_icmp_eq (t := 1254) (q := 872) dL_law_869 rfl rfl (fun _ => K m2 L2 hC2 hO2) (fun c => absurd rfl c)
theorem al_wipe (hi : i + 6 ≤ ev_L E) (hL : ev_L E ≤ 3072) (hC : CR m L m L) (hO : OK Dd m) (hD : Dd ≤ 1000000) (K : ∀ m2 L2, CR m2 L2 m2 L2 → OK (Dd + 50) m2 → AL E nm i 1254 [] m2 L2 Q) : AL E nm i 874 [] m L Q := by
  refine aw_aload_n (i := 1) (q := 875) dL_law_874 rfl rfl rfl ?_
  refine al_call (k := 0) (As := []) (rest := []) (d' := 2) (q := 878) lkL_104 dL_law_875 rfl rfl rfl rfl rfl rfl rfl rfl rfl ?_
  refine CK.mono (jn_wipe m L Dd hC hO hD) (fun v m1 L1 hv => ?_)
  obtain ⟨x, rfl, hv⟩ := hv
  refine aw_aload_n (i := 2) (q := 879) dL_law_878 rfl rfl rfl ?_
  refine al_call (k := 72) (As := []) (rest := [.int x]) (d' := 1) (q := 882) lkL_108 dL_law_879 rfl rfl rfl rfl rfl rfl rfl rfl rfl ?_
  refine CK.mono hv (fun w m2 L2 hw => ?_)
  obtain ⟨rfl, hC2, hO2⟩ := hw
  exact aw_icmp_eq (t := 1254) (q := 885) dL_law_882 rfl rfl (fun _ => K m2 L2 hC2 hO2) (fun c => absurd rfl c)
theorem al_basket (hi : i + 6 ≤ ev_L E) (hL : ev_L E ≤ 3072) (hC : CR m L m L) (hO : OK Dd m) (hD : Dd ≤ 1000000) (K : ∀ m2 L2, CR m2 L2 m2 L2 → OK (Dd + 50) m2 → AL E nm i 1254 [] m2 L2 Q) : AL E nm i 887 [] m L Q := by
  refine aw_aload_n (i := 1) (q := 888) dL_law_887 rfl rfl rfl ?_
  refine al_call (k := 0) (As := []) (rest := []) (d' := 10) (q := 891) lkL_109 dL_law_888 rfl rfl rfl rfl rfl rfl rfl rfl rfl ?_
  refine CK.mono (jn_basket m L Dd hC hO hD) (fun v m1 L1 hv => ?_)
  obtain ⟨x, rfl, hv⟩ := hv
  refine aw_aload_n (i := 2) (q := 892) dL_law_891 rfl rfl rfl ?_
  refine al_call (k := 72) (As := []) (rest := [.int x]) (d' := 8) (q := 895) lkL_112 dL_law_892 rfl rfl rfl rfl rfl rfl rfl rfl rfl ?_
  refine CK.mono hv (fun w m2 L2 hw => ?_)
  obtain ⟨rfl, hC2, hO2⟩ := hw
  exact aw_icmp_eq (t := 1254) (q := 898) dL_law_895 rfl rfl (fun _ => K m2 L2 hC2 hO2) (fun c => absurd rfl c)
theorem al_sheet (hi : i + 6 ≤ ev_L E) (hL : ev_L E ≤ 3072) (hC : CR m L m L) (hO : OK Dd m) (hD : Dd ≤ 1000000) (K : ∀ m2 L2, CR m2 L2 m2 L2 → OK (Dd + 50) m2 → AL E nm i 1254 [] m2 L2 Q) : AL E nm i 900 [] m L Q := by
  refine aw_aload_n (i := 1) (q := 901) dL_law_900 rfl rfl rfl ?_
  refine al_arg (k := 1) (q := 906) dL_law_901 dL_law_902 dL_law_903 dL_law_904 dL_law_905 rfl rfl hi hL rfl ?_
  refine al_arg (k := 2) (q := 911) dL_law_906 dL_law_907 dL_law_908 dL_law_909 dL_law_910 rfl rfl hi hL rfl ?_
  refine al_arg (k := 3) (q := 916) dL_law_911 dL_law_912 dL_law_913 dL_law_914 dL_law_915 rfl rfl hi hL rfl ?_
  refine al_call (k := 0) (As := [.int (ev_x E (i + 1)), .int (ev_x E (i + 2)), .int (ev_x E (i + 3))]) (rest := []) (d' := 2) (q := 919) lkL_113 dL_law_916 rfl rfl rfl rfl rfl rfl rfl rfl rfl ?_
  refine CK.mono (jn_sheet m L Dd hC hO hD) (fun v m1 L1 hv => ?_)
  obtain ⟨x, rfl, hv⟩ := hv
  refine aw_aload_n (i := 2) (q := 920) dL_law_919 rfl rfl rfl ?_
  refine al_arg (k := 1) (q := 925) dL_law_920 dL_law_921 dL_law_922 dL_law_923 dL_law_924 rfl rfl hi hL rfl ?_
  refine al_arg (k := 2) (q := 930) dL_law_925 dL_law_926 dL_law_927 dL_law_928 dL_law_929 rfl rfl hi hL rfl ?_
  refine al_arg (k := 3) (q := 935) dL_law_930 dL_law_931 dL_law_932 dL_law_933 dL_law_934 rfl rfl hi hL rfl ?_
  refine al_call (k := 72) (As := [.int (ev_x E (i + 1)), .int (ev_x E (i + 2)), .int (ev_x E (i + 3))]) (rest := [.int x]) (d' := 3) (q := 938) lkL_116 dL_law_935 rfl rfl rfl rfl rfl rfl rfl rfl rfl ?_
  refine CK.mono hv (fun w m2 L2 hw => ?_)
  obtain ⟨rfl, hC2, hO2⟩ := hw
  exact aw_icmp_eq (t := 1254) (q := 941) dL_law_938 rfl rfl (fun _ => K m2 L2 hC2 hO2) (fun c => absurd rfl c)
theorem al_write (hi : i + 6 ≤ ev_L E) (hL : ev_L E ≤ 3072) (hC : CR m L m L) (hO : OK Dd m) (hD : Dd ≤ 1000000) (K : ∀ m2 L2, CR m2 L2 m2 L2 → OK (Dd + 50) m2 → AL E nm i 1254 [] m2 L2 Q) : AL E nm i 943 [] m L Q := by
  refine aw_aload_n (i := 1) (q := 944) dL_law_943 rfl rfl rfl ?_
  refine al_arg (k := 1) (q := 949) dL_law_944 dL_law_945 dL_law_946 dL_law_947 dL_law_948 rfl rfl hi hL rfl ?_
  refine al_arg (k := 2) (q := 954) dL_law_949 dL_law_950 dL_law_951 dL_law_952 dL_law_953 rfl rfl hi hL rfl ?_
  refine al_arg (k := 3) (q := 959) dL_law_954 dL_law_955 dL_law_956 dL_law_957 dL_law_958 rfl rfl hi hL rfl ?_
  refine aw_i2l (q := 960) dL_law_959 rfl ?_
  refine aw_bipush (v := 32) (q := 962) dL_law_960 rfl rfl ?_
  refine aw_lshl (q := 963) dL_law_962 rfl ?_
  refine al_arg (k := 4) (q := 968) dL_law_963 dL_law_964 dL_law_965 dL_law_966 dL_law_967 rfl rfl hi hL rfl ?_
  refine aw_i2l (q := 969) dL_law_968 rfl ?_
  refine aw_ldc2 (q := 972) dL_law_969 kL_117 rfl ?_
  refine aw_land (q := 973) dL_law_972 rfl ?_
  refine aw_lor (q := 974) dL_law_973 rfl ?_
  refine al_call (k := 0) (As := [.int (ev_x E (i + 1)), .int (ev_x E (i + 2)), .long _]) (rest := []) (d' := 3) (q := 977) lkL_119 dL_law_974 rfl rfl rfl rfl rfl rfl rfl rfl rfl ?_
  refine CK.mono (jn_write m L Dd hC hO hD) (fun v m1 L1 hv => ?_)
  obtain ⟨x, rfl, hv⟩ := hv
  refine aw_aload_n (i := 2) (q := 978) dL_law_977 rfl rfl rfl ?_
  refine al_arg (k := 1) (q := 983) dL_law_978 dL_law_979 dL_law_980 dL_law_981 dL_law_982 rfl rfl hi hL rfl ?_
  refine al_arg (k := 2) (q := 988) dL_law_983 dL_law_984 dL_law_985 dL_law_986 dL_law_987 rfl rfl hi hL rfl ?_
  refine al_arg (k := 3) (q := 993) dL_law_988 dL_law_989 dL_law_990 dL_law_991 dL_law_992 rfl rfl hi hL rfl ?_
  refine aw_i2l (q := 994) dL_law_993 rfl ?_
  refine aw_bipush (v := 32) (q := 996) dL_law_994 rfl rfl ?_
  refine aw_lshl (q := 997) dL_law_996 rfl ?_
  refine al_arg (k := 4) (q := 1002) dL_law_997 dL_law_998 dL_law_999 dL_law_1000 dL_law_1001 rfl rfl hi hL rfl ?_
  refine aw_i2l (q := 1003) dL_law_1002 rfl ?_
  refine aw_ldc2 (q := 1006) dL_law_1003 kL_117 rfl ?_
  refine aw_land (q := 1007) dL_law_1006 rfl ?_
  refine aw_lor (q := 1008) dL_law_1007 rfl ?_
  refine al_call (k := 72) (As := [.int (ev_x E (i + 1)), .int (ev_x E (i + 2)), .long _]) (rest := [.long x]) (d' := 4) (q := 1011) lkL_123 dL_law_1008 rfl rfl rfl rfl rfl rfl rfl rfl rfl ?_
  refine CK.mono hv (fun w m2 L2 hw => ?_)
  obtain ⟨rfl, hC2, hO2⟩ := hw
  refine aw_lcmp (q := 1012) dL_law_1011 rfl ?_
  exact aw_if_eq (t := 1254) (q := 1015) dL_law_1012 rfl rfl (fun _ => K m2 L2 hC2 hO2) (fun c => absurd ((lg_cmp_eq _ _).mpr rfl) c)
theorem al_copy (hi : i + 6 ≤ ev_L E) (hL : ev_L E ≤ 3072) (hC : CR m L m L) (hO : OK Dd m) (hD : Dd ≤ 1000000) (K : ∀ m2 L2, CR m2 L2 m2 L2 → OK (Dd + 50) m2 → AL E nm i 1254 [] m2 L2 Q) : AL E nm i 1017 [] m L Q := by
  refine aw_aload_n (i := 1) (q := 1018) dL_law_1017 rfl rfl rfl ?_
  refine al_arg (k := 1) (q := 1023) dL_law_1018 dL_law_1019 dL_law_1020 dL_law_1021 dL_law_1022 rfl rfl hi hL rfl ?_
  refine al_arg (k := 2) (q := 1028) dL_law_1023 dL_law_1024 dL_law_1025 dL_law_1026 dL_law_1027 rfl rfl hi hL rfl ?_
  refine al_arg (k := 3) (q := 1033) dL_law_1028 dL_law_1029 dL_law_1030 dL_law_1031 dL_law_1032 rfl rfl hi hL rfl ?_
  refine al_arg (k := 4) (q := 1038) dL_law_1033 dL_law_1034 dL_law_1035 dL_law_1036 dL_law_1037 rfl rfl hi hL rfl ?_
  refine al_arg (k := 5) (q := 1043) dL_law_1038 dL_law_1039 dL_law_1040 dL_law_1041 dL_law_1042 rfl rfl hi hL rfl ?_
  refine al_call (k := 0) (As := [.int (ev_x E (i + 1)), .int (ev_x E (i + 2)), .int (ev_x E (i + 3)), .int (ev_x E (i + 4)), .int (ev_x E (i + 5))]) (rest := []) (d' := 2) (q := 1046) lkL_124 dL_law_1043 rfl rfl rfl rfl rfl rfl rfl rfl rfl ?_
  refine CK.mono (jn_copy m L Dd hC hO hD) (fun v m1 L1 hv => ?_)
  obtain ⟨x, rfl, hv⟩ := hv
  refine aw_aload_n (i := 2) (q := 1047) dL_law_1046 rfl rfl rfl ?_
  refine al_arg (k := 1) (q := 1052) dL_law_1047 dL_law_1048 dL_law_1049 dL_law_1050 dL_law_1051 rfl rfl hi hL rfl ?_
  refine al_arg (k := 2) (q := 1057) dL_law_1052 dL_law_1053 dL_law_1054 dL_law_1055 dL_law_1056 rfl rfl hi hL rfl ?_
  refine al_arg (k := 3) (q := 1062) dL_law_1057 dL_law_1058 dL_law_1059 dL_law_1060 dL_law_1061 rfl rfl hi hL rfl ?_
  refine al_arg (k := 4) (q := 1067) dL_law_1062 dL_law_1063 dL_law_1064 dL_law_1065 dL_law_1066 rfl rfl hi hL rfl ?_
  refine al_arg (k := 5) (q := 1072) dL_law_1067 dL_law_1068 dL_law_1069 dL_law_1070 dL_law_1071 rfl rfl hi hL rfl ?_
  refine al_call (k := 72) (As := [.int (ev_x E (i + 1)), .int (ev_x E (i + 2)), .int (ev_x E (i + 3)), .int (ev_x E (i + 4)), .int (ev_x E (i + 5))]) (rest := [.int x]) (d' := 3) (q := 1075) lkL_128 dL_law_1072 rfl rfl rfl rfl rfl rfl rfl rfl rfl ?_
  refine CK.mono hv (fun w m2 L2 hw => ?_)
  obtain ⟨rfl, hC2, hO2⟩ := hw
  exact aw_icmp_eq (t := 1254) (q := 1078) dL_law_1075 rfl rfl (fun _ => K m2 L2 hC2 hO2) (fun c => absurd rfl c)
theorem al_lays (hi : i + 6 ≤ ev_L E) (hL : ev_L E ≤ 3072) (hC : CR m L m L) (hO : OK Dd m) (hD : Dd ≤ 1000000) (K : ∀ m2 L2, CR m2 L2 m2 L2 → OK (Dd + 50) m2 → AL E nm i 1254 [] m2 L2 Q) : AL E nm i 1080 [] m L Q := by
  refine aw_aload_n (i := 1) (q := 1081) dL_law_1080 rfl rfl rfl ?_
  refine al_arg (k := 1) (q := 1086) dL_law_1081 dL_law_1082 dL_law_1083 dL_law_1084 dL_law_1085 rfl rfl hi hL rfl ?_
  refine al_call (k := 0) (As := [.int (ev_x E (i + 1))]) (rest := []) (d' := 2) (q := 1089) lkL_129 dL_law_1086 rfl rfl rfl rfl rfl rfl rfl rfl rfl ?_
  refine CK.mono (jn_lays m L Dd hC hO hD) (fun v m1 L1 hv => ?_)
  obtain ⟨x, rfl, hv⟩ := hv
  refine aw_aload_n (i := 2) (q := 1090) dL_law_1089 rfl rfl rfl ?_
  refine al_arg (k := 1) (q := 1095) dL_law_1090 dL_law_1091 dL_law_1092 dL_law_1093 dL_law_1094 rfl rfl hi hL rfl ?_
  refine al_call (k := 72) (As := [.int (ev_x E (i + 1))]) (rest := [.int x]) (d' := 4) (q := 1098) lkL_132 dL_law_1095 rfl rfl rfl rfl rfl rfl rfl rfl rfl ?_
  refine CK.mono hv (fun w m2 L2 hw => ?_)
  obtain ⟨rfl, hC2, hO2⟩ := hw
  exact aw_icmp_eq (t := 1254) (q := 1101) dL_law_1098 rfl rfl (fun _ => K m2 L2 hC2 hO2) (fun c => absurd rfl c)
theorem al_book (hi : i + 6 ≤ ev_L E) (hL : ev_L E ≤ 3072) (hC : CR m L m L) (hO : OK Dd m) (hD : Dd ≤ 1000000) (K : ∀ m2 L2, CR m2 L2 m2 L2 → OK (Dd + 50) m2 → AL E nm i 1254 [] m2 L2 Q) : AL E nm i 1103 [] m L Q := by
  refine aw_aload_n (i := 1) (q := 1104) dL_law_1103 rfl rfl rfl ?_
  refine al_arg (k := 1) (q := 1109) dL_law_1104 dL_law_1105 dL_law_1106 dL_law_1107 dL_law_1108 rfl rfl hi hL rfl ?_
  refine al_arg (k := 2) (q := 1114) dL_law_1109 dL_law_1110 dL_law_1111 dL_law_1112 dL_law_1113 rfl rfl hi hL rfl ?_
  refine al_call (k := 0) (As := [.int (ev_x E (i + 1)), .int (ev_x E (i + 2))]) (rest := []) (d' := 4) (q := 1117) lkL_133 dL_law_1114 rfl rfl rfl rfl rfl rfl rfl rfl rfl ?_
  refine CK.mono (jn_book m L Dd hC hO hD) (fun v m1 L1 hv => ?_)
  obtain ⟨x, rfl, hv⟩ := hv
  refine aw_aload_n (i := 2) (q := 1118) dL_law_1117 rfl rfl rfl ?_
  refine al_arg (k := 1) (q := 1123) dL_law_1118 dL_law_1119 dL_law_1120 dL_law_1121 dL_law_1122 rfl rfl hi hL rfl ?_
  refine al_arg (k := 2) (q := 1128) dL_law_1123 dL_law_1124 dL_law_1125 dL_law_1126 dL_law_1127 rfl rfl hi hL rfl ?_
  refine al_call (k := 72) (As := [.int (ev_x E (i + 1)), .int (ev_x E (i + 2))]) (rest := [.int x]) (d' := 6) (q := 1131) lkL_136 dL_law_1128 rfl rfl rfl rfl rfl rfl rfl rfl rfl ?_
  refine CK.mono hv (fun w m2 L2 hw => ?_)
  obtain ⟨rfl, hC2, hO2⟩ := hw
  exact aw_icmp_eq (t := 1254) (q := 1134) dL_law_1131 rfl rfl (fun _ => K m2 L2 hC2 hO2) (fun c => absurd rfl c)
theorem al_read (hi : i + 6 ≤ ev_L E) (hL : ev_L E ≤ 3072) (hC : CR m L m L) (hO : OK Dd m) (hD : Dd ≤ 1000000) (K : ∀ m2 L2, CR m2 L2 m2 L2 → OK (Dd + 50) m2 → AL E nm i 1254 [] m2 L2 Q) : AL E nm i 1136 [] m L Q := by
  refine aw_aload_n (i := 1) (q := 1137) dL_law_1136 rfl rfl rfl ?_
  refine al_arg (k := 1) (q := 1142) dL_law_1137 dL_law_1138 dL_law_1139 dL_law_1140 dL_law_1141 rfl rfl hi hL rfl ?_
  refine al_arg (k := 2) (q := 1147) dL_law_1142 dL_law_1143 dL_law_1144 dL_law_1145 dL_law_1146 rfl rfl hi hL rfl ?_
  refine al_call (k := 0) (As := [.int (ev_x E (i + 1)), .int (ev_x E (i + 2))]) (rest := []) (d' := 5) (q := 1150) lkL_137 dL_law_1147 rfl rfl rfl rfl rfl rfl rfl rfl rfl ?_
  refine CK.mono (jn_read m L Dd hC hO hD) (fun v m1 L1 hv => ?_)
  obtain ⟨x, rfl, hv⟩ := hv
  refine aw_aload_n (i := 2) (q := 1151) dL_law_1150 rfl rfl rfl ?_
  refine al_arg (k := 1) (q := 1156) dL_law_1151 dL_law_1152 dL_law_1153 dL_law_1154 dL_law_1155 rfl rfl hi hL rfl ?_
  refine al_arg (k := 2) (q := 1161) dL_law_1156 dL_law_1157 dL_law_1158 dL_law_1159 dL_law_1160 rfl rfl hi hL rfl ?_
  refine al_call (k := 72) (As := [.int (ev_x E (i + 1)), .int (ev_x E (i + 2))]) (rest := [.int x]) (d' := 7) (q := 1164) lkL_140 dL_law_1161 rfl rfl rfl rfl rfl rfl rfl rfl rfl ?_
  refine CK.mono hv (fun w m2 L2 hw => ?_)
  obtain ⟨rfl, hC2, hO2⟩ := hw
  exact aw_icmp_eq (t := 1254) (q := 1167) dL_law_1164 rfl rfl (fun _ => K m2 L2 hC2 hO2) (fun c => absurd rfl c)
theorem al_image (hi : i + 6 ≤ ev_L E) (hL : ev_L E ≤ 3072) (hC : CR m L m L) (hO : OK Dd m) (hD : Dd ≤ 1000000) (K : ∀ m2 L2, CR m2 L2 m2 L2 → OK (Dd + 50) m2 → AL E nm i 1254 [] m2 L2 Q) : AL E nm i 1169 [] m L Q := by
  refine aw_aload_n (i := 1) (q := 1170) dL_law_1169 rfl rfl rfl ?_
  refine al_call (k := 0) (As := []) (rest := []) (d' := 3) (q := 1173) lkL_141 dL_law_1170 rfl rfl rfl rfl rfl rfl rfl rfl rfl ?_
  refine CK.mono (jn_image m L Dd hC hO hD) (fun v m1 L1 hv => ?_)
  obtain ⟨x, rfl, hv⟩ := hv
  refine aw_aload_n (i := 2) (q := 1174) dL_law_1173 rfl rfl rfl ?_
  refine al_call (k := 72) (As := []) (rest := [.int x]) (d' := 1) (q := 1177) lkL_144 dL_law_1174 rfl rfl rfl rfl rfl rfl rfl rfl rfl ?_
  refine CK.mono hv (fun w m2 L2 hw => ?_)
  obtain ⟨rfl, hC2, hO2⟩ := hw
  exact aw_icmp_eq (t := 1254) (q := 1180) dL_law_1177 rfl rfl (fun _ => K m2 L2 hC2 hO2) (fun c => absurd rfl c)
theorem al_undo (hi : i + 6 ≤ ev_L E) (hL : ev_L E ≤ 3072) (hC : CR m L m L) (hO : OK Dd m) (hD : Dd ≤ 1000000) (K : ∀ m2 L2, CR m2 L2 m2 L2 → OK (Dd + 50) m2 → AL E nm i 1254 [] m2 L2 Q) : AL E nm i 1182 [] m L Q := by
  refine aw_aload_n (i := 1) (q := 1183) dL_law_1182 rfl rfl rfl ?_
  refine al_call (k := 0) (As := []) (rest := []) (d' := 3) (q := 1186) lkL_145 dL_law_1183 rfl rfl rfl rfl rfl rfl rfl rfl rfl ?_
  refine CK.mono (jn_undo m L Dd hC hO hD) (fun v m1 L1 hv => ?_)
  obtain ⟨x, rfl, hv⟩ := hv
  refine aw_aload_n (i := 2) (q := 1187) dL_law_1186 rfl rfl rfl ?_
  refine al_call (k := 72) (As := []) (rest := [.int x]) (d' := 2) (q := 1190) lkL_148 dL_law_1187 rfl rfl rfl rfl rfl rfl rfl rfl rfl ?_
  refine CK.mono hv (fun w m2 L2 hw => ?_)
  obtain ⟨rfl, hC2, hO2⟩ := hw
  exact aw_icmp_eq (t := 1254) (q := 1193) dL_law_1190 rfl rfl (fun _ => K m2 L2 hC2 hO2) (fun c => absurd rfl c)
theorem al_tear (hi : i + 6 ≤ ev_L E) (hL : ev_L E ≤ 3072) (hC : CR m L m L) (hO : OK Dd m) (hD : Dd ≤ 1000000) (K : ∀ m2 L2, CR m2 L2 m2 L2 → OK (Dd + 50) m2 → AL E nm i 1254 [] m2 L2 Q) : AL E nm i 1195 [] m L Q := by
  refine aw_aload_n (i := 1) (q := 1196) dL_law_1195 rfl rfl rfl ?_
  refine al_call (k := 0) (As := []) (rest := []) (d' := 1) (q := 1199) lkL_149 dL_law_1196 rfl rfl rfl rfl rfl rfl rfl rfl rfl ?_
  refine CK.mono (jn_tear m L Dd hC hO hD) (fun v m1 L1 hv => ?_)
  obtain ⟨x, rfl, hv⟩ := hv
  refine aw_aload_n (i := 2) (q := 1200) dL_law_1199 rfl rfl rfl ?_
  refine al_call (k := 72) (As := []) (rest := [.int x]) (d' := 1) (q := 1203) lkL_152 dL_law_1200 rfl rfl rfl rfl rfl rfl rfl rfl rfl ?_
  refine CK.mono hv (fun w m2 L2 hw => ?_)
  obtain ⟨rfl, hC2, hO2⟩ := hw
  exact aw_icmp_eq (t := 1254) (q := 1206) dL_law_1203 rfl rfl (fun _ => K m2 L2 hC2 hO2) (fun c => absurd rfl c)
theorem al_count (hi : i + 6 ≤ ev_L E) (hL : ev_L E ≤ 3072) (hC : CR m L m L) (hO : OK Dd m) (hD : Dd ≤ 1000000) (K : ∀ m2 L2, CR m2 L2 m2 L2 → OK (Dd + 50) m2 → AL E nm i 1254 [] m2 L2 Q) : AL E nm i 1208 [] m L Q := by
  refine aw_aload_n (i := 1) (q := 1209) dL_law_1208 rfl rfl rfl ?_
  refine al_arg (k := 1) (q := 1214) dL_law_1209 dL_law_1210 dL_law_1211 dL_law_1212 dL_law_1213 rfl rfl hi hL rfl ?_
  refine al_call (k := 0) (As := [.int (ev_x E (i + 1))]) (rest := []) (d' := 2) (q := 1217) lkL_153 dL_law_1214 rfl rfl rfl rfl rfl rfl rfl rfl rfl ?_
  refine CK.mono (jn_count m L Dd hC hO hD) (fun v m1 L1 hv => ?_)
  obtain ⟨x, rfl, hv⟩ := hv
  refine aw_aload_n (i := 2) (q := 1218) dL_law_1217 rfl rfl rfl ?_
  refine al_arg (k := 1) (q := 1223) dL_law_1218 dL_law_1219 dL_law_1220 dL_law_1221 dL_law_1222 rfl rfl hi hL rfl ?_
  refine al_call (k := 72) (As := [.int (ev_x E (i + 1))]) (rest := [.int x]) (d' := 4) (q := 1226) lkL_156 dL_law_1223 rfl rfl rfl rfl rfl rfl rfl rfl rfl ?_
  refine CK.mono hv (fun w m2 L2 hw => ?_)
  obtain ⟨rfl, hC2, hO2⟩ := hw
  exact aw_icmp_eq (t := 1254) (q := 1229) dL_law_1226 rfl rfl (fun _ => K m2 L2 hC2 hO2) (fun c => absurd rfl c)
theorem al_status (hi : i + 6 ≤ ev_L E) (hL : ev_L E ≤ 3072) (hC : CR m L m L) (hO : OK Dd m) (hD : Dd ≤ 1000000) (K : ∀ m2 L2, CR m2 L2 m2 L2 → OK (Dd + 50) m2 → AL E nm i 1254 [] m2 L2 Q) : AL E nm i 1231 [] m L Q := by
  refine aw_aload_n (i := 1) (q := 1232) dL_law_1231 rfl rfl rfl ?_
  refine al_arg (k := 1) (q := 1237) dL_law_1232 dL_law_1233 dL_law_1234 dL_law_1235 dL_law_1236 rfl rfl hi hL rfl ?_
  refine al_call (k := 0) (As := [.int (ev_x E (i + 1))]) (rest := []) (d' := 2) (q := 1240) lkL_157 dL_law_1237 rfl rfl rfl rfl rfl rfl rfl rfl rfl ?_
  refine CK.mono (jn_status m L Dd hC hO hD) (fun v m1 L1 hv => ?_)
  obtain ⟨x, rfl, hv⟩ := hv
  refine aw_aload_n (i := 2) (q := 1241) dL_law_1240 rfl rfl rfl ?_
  refine al_arg (k := 1) (q := 1246) dL_law_1241 dL_law_1242 dL_law_1243 dL_law_1244 dL_law_1245 rfl rfl hi hL rfl ?_
  refine al_call (k := 72) (As := [.int (ev_x E (i + 1))]) (rest := [.int x]) (d' := 2) (q := 1249) lkL_160 dL_law_1246 rfl rfl rfl rfl rfl rfl rfl rfl rfl ?_
  refine CK.mono hv (fun w m2 L2 hw => ?_)
  obtain ⟨rfl, hC2, hO2⟩ := hw
  exact aw_icmp_eq (t := 1254) (q := 1252) dL_law_1249 rfl rfl (fun _ => K m2 L2 hC2 hO2) (fun c => absurd rfl c)
end LC
