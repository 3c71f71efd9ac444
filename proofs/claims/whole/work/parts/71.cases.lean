/-! the law, case by case -/
section CASES
variable {p : Program} {l : Launch} {e : Env} {s : State} {m : MethodId} {below : List Frame} {meth : Method} {c : Code} {b L : Nat} {xs : Nat → Int32} {G : GG} {ac am : Nat → Nat} {g h : Mem} {S : St} {i : Nat}
theorem la_0 (X : LX p s m c b L xs G ac am) (hJ : JS g h S) (hi : i + 5 ≤ L) (kk : ∀ g h S, JS g h S → JL p l e s m b below meth c G ac am 780 (LL b (ac 0) (am 0) i) [] g h) : JL p l e s m b below meth c G ac am 136 (LL b (ac 0) (am 0) i) [] g h := by
  obtain ⟨v, g1, h1, S1, e1, e2, hJ1⟩ := (B_setUp (xs (i + 1)) (decide (¬ xs (i + 2) = 0))) g h S hJ
  refine l_aload 137 2 X dL_law_136 rfl rfl ?_
  refine l_arg 142 1 X (by omega) dL_law_137 dL_law_138 dL_law_139 rfl dL_law_140 dL_law_141 rfl ?_
  refine l_arg 147 2 X (by omega) dL_law_142 dL_law_143 dL_law_144 rfl dL_law_145 dL_law_146 rfl ?_
  refine l_flag 155 X dL_law_147 dL_law_150 dL_law_151 dL_law_154 rfl ?_
  refine l_callC 158 X (c_X4_setUp l (wA G ac) _ (xs (i + 1)) (decide (¬ xs (i + 2) = 0)) g (v, g1) e1) (cwV 2 X.1.2.2.2.2 gL_law_X4_setUp rfl rfl rfl (by decide +kernel) ⟨Nat.le_of_ble_eq_true rfl, Nat.le_of_ble_eq_true rfl⟩) rfl rfl (Nat.le_of_ble_eq_true rfl) dL_law_155 rfl ?_
  refine l_aload 159 1 X dL_law_158 rfl rfl ?_
  refine l_arg 164 1 X (by omega) dL_law_159 dL_law_160 dL_law_161 rfl dL_law_162 dL_law_163 rfl ?_
  refine l_arg 169 2 X (by omega) dL_law_164 dL_law_165 dL_law_166 rfl dL_law_167 dL_law_168 rfl ?_
  refine l_flag 177 X dL_law_169 dL_law_172 dL_law_173 dL_law_176 rfl ?_
  refine l_callM 180 X (c_X5_setUp l (wA G am) _ (xs (i + 1)) (decide (¬ xs (i + 2) = 0)) h (v, h1) e2) (cwV 2 X.1.2.2.2.2 gL_law_X5_setUp rfl rfl rfl (by decide +kernel) ⟨Nat.le_of_ble_eq_true rfl, Nat.le_of_ble_eq_true rfl⟩) rfl rfl (Nat.le_of_ble_eq_true rfl) dL_law_177 rfl ?_
  exact l_eq 780 X dL_law_180 rfl (kk g1 h1 S1 hJ1)
theorem la_1 (X : LX p s m c b L xs G ac am) (hJ : JS g h S) (hi : i + 5 ≤ L) (kk : ∀ g h S, JS g h S → JL p l e s m b below meth c G ac am 780 (LL b (ac 0) (am 0) i) [] g h) : JL p l e s m b below meth c G ac am 185 (LL b (ac 0) (am 0) i) [] g h := by
  obtain ⟨v, g1, h1, S1, e1, e2, hJ1⟩ := (B_setSecond (xs (i + 1))) g h S hJ
  refine l_aload 186 2 X dL_law_185 rfl rfl ?_
  refine l_arg 191 1 X (by omega) dL_law_186 dL_law_187 dL_law_188 rfl dL_law_189 dL_law_190 rfl ?_
  refine l_callC 194 X (c_X4_setSecond l (wA G ac) _ (xs (i + 1)) g (v, g1) e1) (cwV 1 X.1.2.2.2.2 gL_law_X4_setSecond rfl rfl rfl (by decide +kernel) ⟨Nat.le_of_ble_eq_true rfl, Nat.le_of_ble_eq_true rfl⟩) rfl rfl (Nat.le_of_ble_eq_true rfl) dL_law_191 rfl ?_
  refine l_aload 195 1 X dL_law_194 rfl rfl ?_
  refine l_arg 200 1 X (by omega) dL_law_195 dL_law_196 dL_law_197 rfl dL_law_198 dL_law_199 rfl ?_
  refine l_callM 203 X (c_X5_setSecond l (wA G am) _ (xs (i + 1)) h (v, h1) e2) (cwV 1 X.1.2.2.2.2 gL_law_X5_setSecond rfl rfl rfl (by decide +kernel) ⟨Nat.le_of_ble_eq_true rfl, Nat.le_of_ble_eq_true rfl⟩) rfl rfl (Nat.le_of_ble_eq_true rfl) dL_law_200 rfl ?_
  exact l_eq 780 X dL_law_203 rfl (kk g1 h1 S1 hJ1)
theorem la_2 (X : LX p s m c b L xs G ac am) (hJ : JS g h S) (hi : i + 5 ≤ L) (kk : ∀ g h S, JS g h S → JL p l e s m b below meth c G ac am 780 (LL b (ac 0) (am 0) i) [] g h) : JL p l e s m b below meth c G ac am 208 (LL b (ac 0) (am 0) i) [] g h := by
  obtain ⟨v, g1, h1, S1, e1, e2, hJ1⟩ := (B_prepare (xs (i + 1))) g h S hJ
  refine l_aload 209 2 X dL_law_208 rfl rfl ?_
  refine l_arg 214 1 X (by omega) dL_law_209 dL_law_210 dL_law_211 rfl dL_law_212 dL_law_213 rfl ?_
  refine l_callC 217 X (c_X4_prepare l (wA G ac) _ (xs (i + 1)) g (v, g1) e1) (cwV 1 X.1.2.2.2.2 gL_law_X4_prepare rfl rfl rfl (by decide +kernel) ⟨Nat.le_of_ble_eq_true rfl, Nat.le_of_ble_eq_true rfl⟩) rfl rfl (Nat.le_of_ble_eq_true rfl) dL_law_214 rfl ?_
  refine l_aload 218 1 X dL_law_217 rfl rfl ?_
  refine l_arg 223 1 X (by omega) dL_law_218 dL_law_219 dL_law_220 rfl dL_law_221 dL_law_222 rfl ?_
  refine l_callM 226 X (c_X5_prepare l (wA G am) _ (xs (i + 1)) h (v, h1) e2) (cwV 1 X.1.2.2.2.2 gL_law_X5_prepare rfl rfl rfl (by decide +kernel) ⟨Nat.le_of_ble_eq_true rfl, Nat.le_of_ble_eq_true rfl⟩) rfl rfl (Nat.le_of_ble_eq_true rfl) dL_law_223 rfl ?_
  exact l_eq 780 X dL_law_226 rfl (kk g1 h1 S1 hJ1)
theorem la_3 (X : LX p s m c b L xs G ac am) (hJ : JS g h S) (hi : i + 5 ≤ L) (kk : ∀ g h S, JS g h S → JL p l e s m b below meth c G ac am 780 (LL b (ac 0) (am 0) i) [] g h) : JL p l e s m b below meth c G ac am 231 (LL b (ac 0) (am 0) i) [] g h := by
  obtain ⟨v, g1, h1, S1, e1, e2, hJ1⟩ := (B_promise (xs (i + 1)) (xs (i + 2))) g h S hJ
  refine l_aload 232 2 X dL_law_231 rfl rfl ?_
  refine l_arg 237 1 X (by omega) dL_law_232 dL_law_233 dL_law_234 rfl dL_law_235 dL_law_236 rfl ?_
  refine l_arg 242 2 X (by omega) dL_law_237 dL_law_238 dL_law_239 rfl dL_law_240 dL_law_241 rfl ?_
  refine l_callC 245 X (c_X4_promise l (wA G ac) _ (xs (i + 1)) (xs (i + 2)) g (v, g1) e1) (cwV 2 X.1.2.2.2.2 gL_law_X4_promise rfl rfl rfl (by decide +kernel) ⟨Nat.le_of_ble_eq_true rfl, Nat.le_of_ble_eq_true rfl⟩) rfl rfl (Nat.le_of_ble_eq_true rfl) dL_law_242 rfl ?_
  refine l_aload 246 1 X dL_law_245 rfl rfl ?_
  refine l_arg 251 1 X (by omega) dL_law_246 dL_law_247 dL_law_248 rfl dL_law_249 dL_law_250 rfl ?_
  refine l_arg 256 2 X (by omega) dL_law_251 dL_law_252 dL_law_253 rfl dL_law_254 dL_law_255 rfl ?_
  refine l_callM 259 X (c_X5_promise l (wA G am) _ (xs (i + 1)) (xs (i + 2)) h (v, h1) e2) (cwV 2 X.1.2.2.2.2 gL_law_X5_promise rfl rfl rfl (by decide +kernel) ⟨Nat.le_of_ble_eq_true rfl, Nat.le_of_ble_eq_true rfl⟩) rfl rfl (Nat.le_of_ble_eq_true rfl) dL_law_256 rfl ?_
  exact l_eq 780 X dL_law_259 rfl (kk g1 h1 S1 hJ1)
theorem la_4 (X : LX p s m c b L xs G ac am) (hJ : JS g h S) (hi : i + 5 ≤ L) (kk : ∀ g h S, JS g h S → JL p l e s m b below meth c G ac am 780 (LL b (ac 0) (am 0) i) [] g h) : JL p l e s m b below meth c G ac am 264 (LL b (ac 0) (am 0) i) [] g h := by
  obtain ⟨v, g1, h1, S1, e1, e2, hJ1⟩ := (B_propose (xs (i + 1)) (xs (i + 2)) (xs (i + 3))) g h S hJ
  refine l_aload 265 2 X dL_law_264 rfl rfl ?_
  refine l_arg 270 1 X (by omega) dL_law_265 dL_law_266 dL_law_267 rfl dL_law_268 dL_law_269 rfl ?_
  refine l_arg 275 2 X (by omega) dL_law_270 dL_law_271 dL_law_272 rfl dL_law_273 dL_law_274 rfl ?_
  refine l_arg 280 3 X (by omega) dL_law_275 dL_law_276 dL_law_277 rfl dL_law_278 dL_law_279 rfl ?_
  refine l_callC 283 X (c_X4_propose l (wA G ac) _ (xs (i + 1)) (xs (i + 2)) (xs (i + 3)) g (v, g1) e1) (cwV 3 X.1.2.2.2.2 gL_law_X4_propose rfl rfl rfl (by decide +kernel) ⟨Nat.le_of_ble_eq_true rfl, Nat.le_of_ble_eq_true rfl⟩) rfl rfl (Nat.le_of_ble_eq_true rfl) dL_law_280 rfl ?_
  refine l_aload 284 1 X dL_law_283 rfl rfl ?_
  refine l_arg 289 1 X (by omega) dL_law_284 dL_law_285 dL_law_286 rfl dL_law_287 dL_law_288 rfl ?_
  refine l_arg 294 2 X (by omega) dL_law_289 dL_law_290 dL_law_291 rfl dL_law_292 dL_law_293 rfl ?_
  refine l_arg 299 3 X (by omega) dL_law_294 dL_law_295 dL_law_296 rfl dL_law_297 dL_law_298 rfl ?_
  refine l_callM 302 X (c_X5_propose l (wA G am) _ (xs (i + 1)) (xs (i + 2)) (xs (i + 3)) h (v, h1) e2) (cwV 3 X.1.2.2.2.2 gL_law_X5_propose rfl rfl rfl (by decide +kernel) ⟨Nat.le_of_ble_eq_true rfl, Nat.le_of_ble_eq_true rfl⟩) rfl rfl (Nat.le_of_ble_eq_true rfl) dL_law_299 rfl ?_
  exact l_eq 780 X dL_law_302 rfl (kk g1 h1 S1 hJ1)
theorem la_5 (X : LX p s m c b L xs G ac am) (hJ : JS g h S) (hi : i + 5 ≤ L) (kk : ∀ g h S, JS g h S → JL p l e s m b below meth c G ac am 780 (LL b (ac 0) (am 0) i) [] g h) : JL p l e s m b below meth c G ac am 307 (LL b (ac 0) (am 0) i) [] g h := by
  obtain ⟨v, g1, h1, S1, e1, e2, hJ1⟩ := (B_vote (xs (i + 1)) (xs (i + 2)) (xs (i + 3))) g h S hJ
  refine l_aload 308 2 X dL_law_307 rfl rfl ?_
  refine l_arg 313 1 X (by omega) dL_law_308 dL_law_309 dL_law_310 rfl dL_law_311 dL_law_312 rfl ?_
  refine l_arg 318 2 X (by omega) dL_law_313 dL_law_314 dL_law_315 rfl dL_law_316 dL_law_317 rfl ?_
  refine l_arg 323 3 X (by omega) dL_law_318 dL_law_319 dL_law_320 rfl dL_law_321 dL_law_322 rfl ?_
  refine l_callC 326 X (c_X4_vote l (wA G ac) _ (xs (i + 1)) (xs (i + 2)) (xs (i + 3)) g (v, g1) e1) (cwV 3 X.1.2.2.2.2 gL_law_X4_vote rfl rfl rfl (by decide +kernel) ⟨Nat.le_of_ble_eq_true rfl, Nat.le_of_ble_eq_true rfl⟩) rfl rfl (Nat.le_of_ble_eq_true rfl) dL_law_323 rfl ?_
  refine l_aload 327 1 X dL_law_326 rfl rfl ?_
  refine l_arg 332 1 X (by omega) dL_law_327 dL_law_328 dL_law_329 rfl dL_law_330 dL_law_331 rfl ?_
  refine l_arg 337 2 X (by omega) dL_law_332 dL_law_333 dL_law_334 rfl dL_law_335 dL_law_336 rfl ?_
  refine l_arg 342 3 X (by omega) dL_law_337 dL_law_338 dL_law_339 rfl dL_law_340 dL_law_341 rfl ?_
  refine l_callM 345 X (c_X5_vote l (wA G am) _ (xs (i + 1)) (xs (i + 2)) (xs (i + 3)) h (v, h1) e2) (cwV 3 X.1.2.2.2.2 gL_law_X5_vote rfl rfl rfl (by decide +kernel) ⟨Nat.le_of_ble_eq_true rfl, Nat.le_of_ble_eq_true rfl⟩) rfl rfl (Nat.le_of_ble_eq_true rfl) dL_law_342 rfl ?_
  exact l_eq 780 X dL_law_345 rfl (kk g1 h1 S1 hJ1)
theorem la_6 (X : LX p s m c b L xs G ac am) (hJ : JS g h S) (hi : i + 5 ≤ L) (kk : ∀ g h S, JS g h S → JL p l e s m b below meth c G ac am 780 (LL b (ac 0) (am 0) i) [] g h) : JL p l e s m b below meth c G ac am 350 (LL b (ac 0) (am 0) i) [] g h := by
  obtain ⟨v, g1, h1, S1, e1, e2, hJ1⟩ := (B_trim (xs (i + 1))) g h S hJ
  refine l_aload 351 2 X dL_law_350 rfl rfl ?_
  refine l_arg 356 1 X (by omega) dL_law_351 dL_law_352 dL_law_353 rfl dL_law_354 dL_law_355 rfl ?_
  refine l_callC 359 X (c_X4_trim l (wA G ac) _ (xs (i + 1)) g (v, g1) e1) (cwV 1 X.1.2.2.2.2 gL_law_X4_trim rfl rfl rfl (by decide +kernel) ⟨Nat.le_of_ble_eq_true rfl, Nat.le_of_ble_eq_true rfl⟩) rfl rfl (Nat.le_of_ble_eq_true rfl) dL_law_356 rfl ?_
  refine l_aload 360 1 X dL_law_359 rfl rfl ?_
  refine l_arg 365 1 X (by omega) dL_law_360 dL_law_361 dL_law_362 rfl dL_law_363 dL_law_364 rfl ?_
  refine l_callM 368 X (c_X5_trim l (wA G am) _ (xs (i + 1)) h (v, h1) e2) (cwV 1 X.1.2.2.2.2 gL_law_X5_trim rfl rfl rfl (by decide +kernel) ⟨Nat.le_of_ble_eq_true rfl, Nat.le_of_ble_eq_true rfl⟩) rfl rfl (Nat.le_of_ble_eq_true rfl) dL_law_365 rfl ?_
  exact l_eq 780 X dL_law_368 rfl (kk g1 h1 S1 hJ1)
theorem la_7 (X : LX p s m c b L xs G ac am) (hJ : JS g h S) (hi : i + 5 ≤ L) (kk : ∀ g h S, JS g h S → JL p l e s m b below meth c G ac am 780 (LL b (ac 0) (am 0) i) [] g h) : JL p l e s m b below meth c G ac am 373 (LL b (ac 0) (am 0) i) [] g h := by
  obtain ⟨v, g1, h1, S1, e1, e2, hJ1⟩ := (B_type (c := ((xs (i + 1)).toBitVec.toNat % 65536) ) (Nat.mod_lt _ (by decide))) g h S hJ
  refine l_aload 374 2 X dL_law_373 rfl rfl ?_
  refine l_arg 379 1 X (by omega) dL_law_374 dL_law_375 dL_law_376 rfl dL_law_377 dL_law_378 rfl ?_
  refine l_i2c 380 X dL_law_379 (pk_char _) rfl ?_
  refine l_callC 383 X (c_X4_type l (wA G ac) _ (nI ((xs (i + 1)).toBitVec.toNat % 65536)) g (v, g1) e1) (cwV 1 X.1.2.2.2.2 gL_law_X4_type rfl rfl rfl (by decide +kernel) ⟨Nat.le_of_ble_eq_true rfl, Nat.le_of_ble_eq_true rfl⟩) rfl rfl (Nat.le_of_ble_eq_true rfl) dL_law_380 rfl ?_
  refine l_aload 384 1 X dL_law_383 rfl rfl ?_
  refine l_arg 389 1 X (by omega) dL_law_384 dL_law_385 dL_law_386 rfl dL_law_387 dL_law_388 rfl ?_
  refine l_i2c 390 X dL_law_389 (pk_char _) rfl ?_
  refine l_callM 393 X (c_X5_type l (wA G am) _ (nI ((xs (i + 1)).toBitVec.toNat % 65536)) h (v, h1) e2) (cwV 1 X.1.2.2.2.2 gL_law_X5_type rfl rfl rfl (by decide +kernel) ⟨Nat.le_of_ble_eq_true rfl, Nat.le_of_ble_eq_true rfl⟩) rfl rfl (Nat.le_of_ble_eq_true rfl) dL_law_390 rfl ?_
  exact l_eq 780 X dL_law_393 rfl (kk g1 h1 S1 hJ1)
theorem la_8 (X : LX p s m c b L xs G ac am) (hJ : JS g h S) (hi : i + 5 ≤ L) (kk : ∀ g h S, JS g h S → JL p l e s m b below meth c G ac am 780 (LL b (ac 0) (am 0) i) [] g h) : JL p l e s m b below meth c G ac am 398 (LL b (ac 0) (am 0) i) [] g h := by
  obtain ⟨v, g1, h1, S1, e1, e2, hJ1⟩ := B_clear g h S hJ
  refine l_aload 399 2 X dL_law_398 rfl rfl ?_
  refine l_callC 402 X (c_X4_clearText l (wA G ac) _  g (v, g1) e1) (cwV 0 X.1.2.2.2.2 gL_law_X4_clearText rfl rfl rfl (by decide +kernel) ⟨Nat.le_of_ble_eq_true rfl, Nat.le_of_ble_eq_true rfl⟩) rfl rfl (Nat.le_of_ble_eq_true rfl) dL_law_399 rfl ?_
  refine l_aload 403 1 X dL_law_402 rfl rfl ?_
  refine l_callM 406 X (c_X5_clearText l (wA G am) _  h (v, h1) e2) (cwV 0 X.1.2.2.2.2 gL_law_X5_clearText rfl rfl rfl (by decide +kernel) ⟨Nat.le_of_ble_eq_true rfl, Nat.le_of_ble_eq_true rfl⟩) rfl rfl (Nat.le_of_ble_eq_true rfl) dL_law_403 rfl ?_
  exact l_eq 780 X dL_law_406 rfl (kk g1 h1 S1 hJ1)
theorem la_9 (X : LX p s m c b L xs G ac am) (hJ : JS g h S) (hi : i + 5 ≤ L) (kk : ∀ g h S, JS g h S → JL p l e s m b below meth c G ac am 780 (LL b (ac 0) (am 0) i) [] g h) : JL p l e s m b below meth c G ac am 411 (LL b (ac 0) (am 0) i) [] g h := by
  obtain ⟨v, g1, h1, S1, e1, e2, hJ1⟩ := B_perform g h S hJ
  refine l_aload 412 2 X dL_law_411 rfl rfl ?_
  refine l_callC 415 X (c_X4_perform l (wA G ac) _  g (v, g1) e1) (cwV 0 X.1.2.2.2.2 gL_law_X4_perform rfl rfl rfl (by decide +kernel) ⟨Nat.le_of_ble_eq_true rfl, Nat.le_of_ble_eq_true rfl⟩) rfl rfl (Nat.le_of_ble_eq_true rfl) dL_law_412 rfl ?_
  refine l_aload 416 1 X dL_law_415 rfl rfl ?_
  refine l_callM 419 X (c_X5_perform l (wA G am) _  h (v, h1) e2) (cwV 0 X.1.2.2.2.2 gL_law_X5_perform rfl rfl rfl (by decide +kernel) ⟨Nat.le_of_ble_eq_true rfl, Nat.le_of_ble_eq_true rfl⟩) rfl rfl (Nat.le_of_ble_eq_true rfl) dL_law_416 rfl ?_
  exact l_eq 780 X dL_law_419 rfl (kk g1 h1 S1 hJ1)
theorem la_10 (X : LX p s m c b L xs G ac am) (hJ : JS g h S) (hi : i + 5 ≤ L) (kk : ∀ g h S, JS g h S → JL p l e s m b below meth c G ac am 780 (LL b (ac 0) (am 0) i) [] g h) : JL p l e s m b below meth c G ac am 424 (LL b (ac 0) (am 0) i) [] g h := by
  obtain ⟨v, e1, e2⟩ := (B_refusal (xs (i + 1))) g h S hJ
  refine l_aload 425 2 X dL_law_424 rfl rfl ?_
  refine l_arg 430 1 X (by omega) dL_law_425 dL_law_426 dL_law_427 rfl dL_law_428 dL_law_429 rfl ?_
  refine l_callC 433 X (c_X4_refusal l (wA G ac) _ (xs (i + 1)) g v (Option.some.inj e1)) (cwV 1 X.1.2.2.2.2 gL_law_X4_refusal rfl rfl rfl (by decide +kernel) ⟨Nat.le_of_ble_eq_true rfl, Nat.le_of_ble_eq_true rfl⟩) rfl rfl (Nat.le_of_ble_eq_true rfl) dL_law_430 rfl ?_
  refine l_aload 434 1 X dL_law_433 rfl rfl ?_
  refine l_arg 439 1 X (by omega) dL_law_434 dL_law_435 dL_law_436 rfl dL_law_437 dL_law_438 rfl ?_
  refine l_callM 442 X (c_X5_refusal l (wA G am) _ (xs (i + 1)) h v (Option.some.inj e2)) (cwV 1 X.1.2.2.2.2 gL_law_X5_refusal rfl rfl rfl (by decide +kernel) ⟨Nat.le_of_ble_eq_true rfl, Nat.le_of_ble_eq_true rfl⟩) rfl rfl (Nat.le_of_ble_eq_true rfl) dL_law_439 rfl ?_
  exact l_eq 780 X dL_law_442 rfl (kk g h S hJ)
theorem la_11 (X : LX p s m c b L xs G ac am) (hJ : JS g h S) (hi : i + 5 ≤ L) (kk : ∀ g h S, JS g h S → JL p l e s m b below meth c G ac am 780 (LL b (ac 0) (am 0) i) [] g h) : JL p l e s m b below meth c G ac am 447 (LL b (ac 0) (am 0) i) [] g h := by
  obtain ⟨v, g1, h1, S1, e1, e2, hJ1⟩ := B_undo g h S hJ
  refine l_aload 448 2 X dL_law_447 rfl rfl ?_
  refine l_callC 451 X (c_X4_undo l (wA G ac) _  g (v, g1) e1) (cwV 0 X.1.2.2.2.2 gL_law_X4_undo rfl rfl rfl (by decide +kernel) ⟨Nat.le_of_ble_eq_true rfl, Nat.le_of_ble_eq_true rfl⟩) rfl rfl (Nat.le_of_ble_eq_true rfl) dL_law_448 rfl ?_
  refine l_aload 452 1 X dL_law_451 rfl rfl ?_
  refine l_callM 455 X (c_X5_undo l (wA G am) _  h (v, h1) e2) (cwV 0 X.1.2.2.2.2 gL_law_X5_undo rfl rfl rfl (by decide +kernel) ⟨Nat.le_of_ble_eq_true rfl, Nat.le_of_ble_eq_true rfl⟩) rfl rfl (Nat.le_of_ble_eq_true rfl) dL_law_452 rfl ?_
  exact l_eq 780 X dL_law_455 rfl (kk g1 h1 S1 hJ1)
theorem la_12 (X : LX p s m c b L xs G ac am) (hJ : JS g h S) (hi : i + 5 ≤ L) (kk : ∀ g h S, JS g h S → JL p l e s m b below meth c G ac am 780 (LL b (ac 0) (am 0) i) [] g h) : JL p l e s m b below meth c G ac am 460 (LL b (ac 0) (am 0) i) [] g h := by
  obtain ⟨v, g1, h1, S1, e1, e2, hJ1⟩ := B_keep g h S hJ
  refine l_aload 461 2 X dL_law_460 rfl rfl ?_
  refine l_callC 464 X (c_X4_keep l (wA G ac) _  g (v, g1) e1) (cwV 0 X.1.2.2.2.2 gL_law_X4_keep rfl rfl rfl (by decide +kernel) ⟨Nat.le_of_ble_eq_true rfl, Nat.le_of_ble_eq_true rfl⟩) rfl rfl (Nat.le_of_ble_eq_true rfl) dL_law_461 rfl ?_
  refine l_aload 465 1 X dL_law_464 rfl rfl ?_
  refine l_callM 468 X (c_X5_keep l (wA G am) _  h (v, h1) e2) (cwV 0 X.1.2.2.2.2 gL_law_X5_keep rfl rfl rfl (by decide +kernel) ⟨Nat.le_of_ble_eq_true rfl, Nat.le_of_ble_eq_true rfl⟩) rfl rfl (Nat.le_of_ble_eq_true rfl) dL_law_465 rfl ?_
  exact l_eq 780 X dL_law_468 rfl (kk g1 h1 S1 hJ1)
theorem la_13 (X : LX p s m c b L xs G ac am) (hJ : JS g h S) (hi : i + 5 ≤ L) (kk : ∀ g h S, JS g h S → JL p l e s m b below meth c G ac am 780 (LL b (ac 0) (am 0) i) [] g h) : JL p l e s m b below meth c G ac am 473 (LL b (ac 0) (am 0) i) [] g h := by
  obtain ⟨v, g1, h1, S1, e1, e2, hJ1⟩ := B_restore g h S hJ
  refine l_aload 474 2 X dL_law_473 rfl rfl ?_
  refine l_callC 477 X (c_X4_restore l (wA G ac) _  g (v, g1) e1) (cwV 0 X.1.2.2.2.2 gL_law_X4_restore rfl rfl rfl (by decide +kernel) ⟨Nat.le_of_ble_eq_true rfl, Nat.le_of_ble_eq_true rfl⟩) rfl rfl (Nat.le_of_ble_eq_true rfl) dL_law_474 rfl ?_
  refine l_aload 478 1 X dL_law_477 rfl rfl ?_
  refine l_callM 481 X (c_X5_restore l (wA G am) _  h (v, h1) e2) (cwV 0 X.1.2.2.2.2 gL_law_X5_restore rfl rfl rfl (by decide +kernel) ⟨Nat.le_of_ble_eq_true rfl, Nat.le_of_ble_eq_true rfl⟩) rfl rfl (Nat.le_of_ble_eq_true rfl) dL_law_478 rfl ?_
  exact l_eq 780 X dL_law_481 rfl (kk g1 h1 S1 hJ1)
theorem la_14 (X : LX p s m c b L xs G ac am) (hJ : JS g h S) (hi : i + 5 ≤ L) (kk : ∀ g h S, JS g h S → JL p l e s m b below meth c G ac am 780 (LL b (ac 0) (am 0) i) [] g h) : JL p l e s m b below meth c G ac am 486 (LL b (ac 0) (am 0) i) [] g h := by
  obtain ⟨v, e1, e2⟩ := (B_acceptor (xs (i + 1)) (xs (i + 2))) g h S hJ
  refine l_aload 487 2 X dL_law_486 rfl rfl ?_
  refine l_arg 492 1 X (by omega) dL_law_487 dL_law_488 dL_law_489 rfl dL_law_490 dL_law_491 rfl ?_
  refine l_arg 497 2 X (by omega) dL_law_492 dL_law_493 dL_law_494 rfl dL_law_495 dL_law_496 rfl ?_
  refine l_callC 500 X (c_X4_acceptor l (wA G ac) _ (xs (i + 1)) (xs (i + 2)) g v e1) (cwV 2 X.1.2.2.2.2 gL_law_X4_acceptor rfl rfl rfl (by decide +kernel) ⟨Nat.le_of_ble_eq_true rfl, Nat.le_of_ble_eq_true rfl⟩) rfl rfl (Nat.le_of_ble_eq_true rfl) dL_law_497 rfl ?_
  refine l_aload 501 1 X dL_law_500 rfl rfl ?_
  refine l_arg 506 1 X (by omega) dL_law_501 dL_law_502 dL_law_503 rfl dL_law_504 dL_law_505 rfl ?_
  refine l_arg 511 2 X (by omega) dL_law_506 dL_law_507 dL_law_508 rfl dL_law_509 dL_law_510 rfl ?_
  refine l_callM 514 X (c_X5_acceptor l (wA G am) _ (xs (i + 1)) (xs (i + 2)) h v e2) (cwV 2 X.1.2.2.2.2 gL_law_X5_acceptor rfl rfl rfl (by decide +kernel) ⟨Nat.le_of_ble_eq_true rfl, Nat.le_of_ble_eq_true rfl⟩) rfl rfl (Nat.le_of_ble_eq_true rfl) dL_law_511 rfl ?_
  exact l_eq 780 X dL_law_514 rfl (kk g h S hJ)
theorem la_15 (X : LX p s m c b L xs G ac am) (hJ : JS g h S) (hi : i + 5 ≤ L) (kk : ∀ g h S, JS g h S → JL p l e s m b below meth c G ac am 780 (LL b (ac 0) (am 0) i) [] g h) : JL p l e s m b below meth c G ac am 519 (LL b (ac 0) (am 0) i) [] g h := by
  obtain ⟨v, e1, e2⟩ := (B_voted (xs (i + 1)) (xs (i + 2)) (xs (i + 3))) g h S hJ
  refine l_aload 520 2 X dL_law_519 rfl rfl ?_
  refine l_arg 525 1 X (by omega) dL_law_520 dL_law_521 dL_law_522 rfl dL_law_523 dL_law_524 rfl ?_
  refine l_arg 530 2 X (by omega) dL_law_525 dL_law_526 dL_law_527 rfl dL_law_528 dL_law_529 rfl ?_
  refine l_arg 535 3 X (by omega) dL_law_530 dL_law_531 dL_law_532 rfl dL_law_533 dL_law_534 rfl ?_
  refine l_callC 538 X (c_X4_voted l (wA G ac) _ (xs (i + 1)) (xs (i + 2)) (xs (i + 3)) g v e1) (cwV 3 X.1.2.2.2.2 gL_law_X4_voted rfl rfl rfl (by decide +kernel) ⟨Nat.le_of_ble_eq_true rfl, Nat.le_of_ble_eq_true rfl⟩) rfl rfl (Nat.le_of_ble_eq_true rfl) dL_law_535 rfl ?_
  refine l_aload 539 1 X dL_law_538 rfl rfl ?_
  refine l_arg 544 1 X (by omega) dL_law_539 dL_law_540 dL_law_541 rfl dL_law_542 dL_law_543 rfl ?_
  refine l_arg 549 2 X (by omega) dL_law_544 dL_law_545 dL_law_546 rfl dL_law_547 dL_law_548 rfl ?_
  refine l_arg 554 3 X (by omega) dL_law_549 dL_law_550 dL_law_551 rfl dL_law_552 dL_law_553 rfl ?_
  refine l_callM 557 X (c_X5_voted l (wA G am) _ (xs (i + 1)) (xs (i + 2)) (xs (i + 3)) h v e2) (cwV 3 X.1.2.2.2.2 gL_law_X5_voted rfl rfl rfl (by decide +kernel) ⟨Nat.le_of_ble_eq_true rfl, Nat.le_of_ble_eq_true rfl⟩) rfl rfl (Nat.le_of_ble_eq_true rfl) dL_law_554 rfl ?_
  exact l_eq 780 X dL_law_557 rfl (kk g h S hJ)
theorem la_16 (X : LX p s m c b L xs G ac am) (hJ : JS g h S) (hi : i + 5 ≤ L) (kk : ∀ g h S, JS g h S → JL p l e s m b below meth c G ac am 780 (LL b (ac 0) (am 0) i) [] g h) : JL p l e s m b below meth c G ac am 562 (LL b (ac 0) (am 0) i) [] g h := by
  obtain ⟨v, e1, e2⟩ := (B_proposer (xs (i + 1)) (xs (i + 2))) g h S hJ
  refine l_aload 563 2 X dL_law_562 rfl rfl ?_
  refine l_arg 568 1 X (by omega) dL_law_563 dL_law_564 dL_law_565 rfl dL_law_566 dL_law_567 rfl ?_
  refine l_arg 573 2 X (by omega) dL_law_568 dL_law_569 dL_law_570 rfl dL_law_571 dL_law_572 rfl ?_
  refine l_callC 576 X (c_X4_proposer l (wA G ac) _ (xs (i + 1)) (xs (i + 2)) g v e1) (cwV 2 X.1.2.2.2.2 gL_law_X4_proposer rfl rfl rfl (by decide +kernel) ⟨Nat.le_of_ble_eq_true rfl, Nat.le_of_ble_eq_true rfl⟩) rfl rfl (Nat.le_of_ble_eq_true rfl) dL_law_573 rfl ?_
  refine l_aload 577 1 X dL_law_576 rfl rfl ?_
  refine l_arg 582 1 X (by omega) dL_law_577 dL_law_578 dL_law_579 rfl dL_law_580 dL_law_581 rfl ?_
  refine l_arg 587 2 X (by omega) dL_law_582 dL_law_583 dL_law_584 rfl dL_law_585 dL_law_586 rfl ?_
  refine l_callM 590 X (c_X5_proposer l (wA G am) _ (xs (i + 1)) (xs (i + 2)) h v e2) (cwV 2 X.1.2.2.2.2 gL_law_X5_proposer rfl rfl rfl (by decide +kernel) ⟨Nat.le_of_ble_eq_true rfl, Nat.le_of_ble_eq_true rfl⟩) rfl rfl (Nat.le_of_ble_eq_true rfl) dL_law_587 rfl ?_
  exact l_eq 780 X dL_law_590 rfl (kk g h S hJ)
theorem la_17 (X : LX p s m c b L xs G ac am) (hJ : JS g h S) (hi : i + 5 ≤ L) (kk : ∀ g h S, JS g h S → JL p l e s m b below meth c G ac am 780 (LL b (ac 0) (am 0) i) [] g h) : JL p l e s m b below meth c G ac am 595 (LL b (ac 0) (am 0) i) [] g h := by
  obtain ⟨v, e1, e2⟩ := (B_proposed (xs (i + 1)) (xs (i + 2)) (xs (i + 3))) g h S hJ
  refine l_aload 596 2 X dL_law_595 rfl rfl ?_
  refine l_arg 601 1 X (by omega) dL_law_596 dL_law_597 dL_law_598 rfl dL_law_599 dL_law_600 rfl ?_
  refine l_arg 606 2 X (by omega) dL_law_601 dL_law_602 dL_law_603 rfl dL_law_604 dL_law_605 rfl ?_
  refine l_arg 611 3 X (by omega) dL_law_606 dL_law_607 dL_law_608 rfl dL_law_609 dL_law_610 rfl ?_
  refine l_callC 614 X (c_X4_proposed l (wA G ac) _ (xs (i + 1)) (xs (i + 2)) (xs (i + 3)) g v e1) (cwV 3 X.1.2.2.2.2 gL_law_X4_proposed rfl rfl rfl (by decide +kernel) ⟨Nat.le_of_ble_eq_true rfl, Nat.le_of_ble_eq_true rfl⟩) rfl rfl (Nat.le_of_ble_eq_true rfl) dL_law_611 rfl ?_
  refine l_aload 615 1 X dL_law_614 rfl rfl ?_
  refine l_arg 620 1 X (by omega) dL_law_615 dL_law_616 dL_law_617 rfl dL_law_618 dL_law_619 rfl ?_
  refine l_arg 625 2 X (by omega) dL_law_620 dL_law_621 dL_law_622 rfl dL_law_623 dL_law_624 rfl ?_
  refine l_arg 630 3 X (by omega) dL_law_625 dL_law_626 dL_law_627 rfl dL_law_628 dL_law_629 rfl ?_
  refine l_callM 633 X (c_X5_proposed l (wA G am) _ (xs (i + 1)) (xs (i + 2)) (xs (i + 3)) h v e2) (cwV 3 X.1.2.2.2.2 gL_law_X5_proposed rfl rfl rfl (by decide +kernel) ⟨Nat.le_of_ble_eq_true rfl, Nat.le_of_ble_eq_true rfl⟩) rfl rfl (Nat.le_of_ble_eq_true rfl) dL_law_630 rfl ?_
  exact l_eq 780 X dL_law_633 rfl (kk g h S hJ)
theorem la_18 (X : LX p s m c b L xs G ac am) (hJ : JS g h S) (hi : i + 5 ≤ L) (kk : ∀ g h S, JS g h S → JL p l e s m b below meth c G ac am 780 (LL b (ac 0) (am 0) i) [] g h) : JL p l e s m b below meth c G ac am 638 (LL b (ac 0) (am 0) i) [] g h := by
  obtain ⟨v, e1, e2⟩ := (B_slot (xs (i + 1)) (xs (i + 2))) g h S hJ
  refine l_aload 639 2 X dL_law_638 rfl rfl ?_
  refine l_arg 644 1 X (by omega) dL_law_639 dL_law_640 dL_law_641 rfl dL_law_642 dL_law_643 rfl ?_
  refine l_arg 649 2 X (by omega) dL_law_644 dL_law_645 dL_law_646 rfl dL_law_647 dL_law_648 rfl ?_
  refine l_callC 652 X (c_X4_slot l (wA G ac) _ (xs (i + 1)) (xs (i + 2)) g v e1) (cwV 2 X.1.2.2.2.2 gL_law_X4_slot rfl rfl rfl (by decide +kernel) ⟨Nat.le_of_ble_eq_true rfl, Nat.le_of_ble_eq_true rfl⟩) rfl rfl (Nat.le_of_ble_eq_true rfl) dL_law_649 rfl ?_
  refine l_aload 653 1 X dL_law_652 rfl rfl ?_
  refine l_arg 658 1 X (by omega) dL_law_653 dL_law_654 dL_law_655 rfl dL_law_656 dL_law_657 rfl ?_
  refine l_arg 663 2 X (by omega) dL_law_658 dL_law_659 dL_law_660 rfl dL_law_661 dL_law_662 rfl ?_
  refine l_callM 666 X (c_X5_slot l (wA G am) _ (xs (i + 1)) (xs (i + 2)) h v e2) (cwV 2 X.1.2.2.2.2 gL_law_X5_slot rfl rfl rfl (by decide +kernel) ⟨Nat.le_of_ble_eq_true rfl, Nat.le_of_ble_eq_true rfl⟩) rfl rfl (Nat.le_of_ble_eq_true rfl) dL_law_663 rfl ?_
  exact l_eq 780 X dL_law_666 rfl (kk g h S hJ)
theorem la_19 (X : LX p s m c b L xs G ac am) (hJ : JS g h S) (hi : i + 5 ≤ L) (kk : ∀ g h S, JS g h S → JL p l e s m b below meth c G ac am 780 (LL b (ac 0) (am 0) i) [] g h) : JL p l e s m b below meth c G ac am 671 (LL b (ac 0) (am 0) i) [] g h := by
  obtain ⟨v, e1, e2⟩ := (B_could (xs (i + 1)) (xs (i + 2))) g h S hJ
  refine l_aload 672 2 X dL_law_671 rfl rfl ?_
  refine l_arg 677 1 X (by omega) dL_law_672 dL_law_673 dL_law_674 rfl dL_law_675 dL_law_676 rfl ?_
  refine l_arg 682 2 X (by omega) dL_law_677 dL_law_678 dL_law_679 rfl dL_law_680 dL_law_681 rfl ?_
  refine l_callC 685 X (c_X4_could l (wA G ac) _ (xs (i + 1)) (xs (i + 2)) g v e1) (cwV 2 X.1.2.2.2.2 gL_law_X4_could rfl rfl rfl (by decide +kernel) ⟨Nat.le_of_ble_eq_true rfl, Nat.le_of_ble_eq_true rfl⟩) rfl rfl (Nat.le_of_ble_eq_true rfl) dL_law_682 rfl ?_
  refine l_aload 686 1 X dL_law_685 rfl rfl ?_
  refine l_arg 691 1 X (by omega) dL_law_686 dL_law_687 dL_law_688 rfl dL_law_689 dL_law_690 rfl ?_
  refine l_arg 696 2 X (by omega) dL_law_691 dL_law_692 dL_law_693 rfl dL_law_694 dL_law_695 rfl ?_
  refine l_callM 699 X (c_X5_could l (wA G am) _ (xs (i + 1)) (xs (i + 2)) h v e2) (cwV 2 X.1.2.2.2.2 gL_law_X5_could rfl rfl rfl (by decide +kernel) ⟨Nat.le_of_ble_eq_true rfl, Nat.le_of_ble_eq_true rfl⟩) rfl rfl (Nat.le_of_ble_eq_true rfl) dL_law_696 rfl ?_
  exact l_eq 780 X dL_law_699 rfl (kk g h S hJ)
theorem la_20 (X : LX p s m c b L xs G ac am) (hJ : JS g h S) (hi : i + 5 ≤ L) (kk : ∀ g h S, JS g h S → JL p l e s m b below meth c G ac am 780 (LL b (ac 0) (am 0) i) [] g h) : JL p l e s m b below meth c G ac am 704 (LL b (ac 0) (am 0) i) [] g h := by
  obtain ⟨v, e1, e2⟩ := (B_witness (xs (i + 1)) (xs (i + 2)) (xs (i + 3)) (xs (i + 4))) g h S hJ
  refine l_aload 705 2 X dL_law_704 rfl rfl ?_
  refine l_arg 710 1 X (by omega) dL_law_705 dL_law_706 dL_law_707 rfl dL_law_708 dL_law_709 rfl ?_
  refine l_arg 715 2 X (by omega) dL_law_710 dL_law_711 dL_law_712 rfl dL_law_713 dL_law_714 rfl ?_
  refine l_arg 720 3 X (by omega) dL_law_715 dL_law_716 dL_law_717 rfl dL_law_718 dL_law_719 rfl ?_
  refine l_arg 725 4 X (by omega) dL_law_720 dL_law_721 dL_law_722 rfl dL_law_723 dL_law_724 rfl ?_
  refine l_callC 728 X (c_X4_witness l (wA G ac) _ (xs (i + 1)) (xs (i + 2)) (xs (i + 3)) (xs (i + 4)) g v e1) (cwV 4 X.1.2.2.2.2 gL_law_X4_witness rfl rfl rfl (by decide +kernel) ⟨Nat.le_of_ble_eq_true rfl, Nat.le_of_ble_eq_true rfl⟩) rfl rfl (Nat.le_of_ble_eq_true rfl) dL_law_725 rfl ?_
  refine l_aload 729 1 X dL_law_728 rfl rfl ?_
  refine l_arg 734 1 X (by omega) dL_law_729 dL_law_730 dL_law_731 rfl dL_law_732 dL_law_733 rfl ?_
  refine l_arg 739 2 X (by omega) dL_law_734 dL_law_735 dL_law_736 rfl dL_law_737 dL_law_738 rfl ?_
  refine l_arg 744 3 X (by omega) dL_law_739 dL_law_740 dL_law_741 rfl dL_law_742 dL_law_743 rfl ?_
  refine l_arg 749 4 X (by omega) dL_law_744 dL_law_745 dL_law_746 rfl dL_law_747 dL_law_748 rfl ?_
  refine l_callM 752 X (c_X5_witness l (wA G am) _ (xs (i + 1)) (xs (i + 2)) (xs (i + 3)) (xs (i + 4)) h v e2) (cwV 4 X.1.2.2.2.2 gL_law_X5_witness rfl rfl rfl (by decide +kernel) ⟨Nat.le_of_ble_eq_true rfl, Nat.le_of_ble_eq_true rfl⟩) rfl rfl (Nat.le_of_ble_eq_true rfl) dL_law_749 rfl ?_
  exact l_eq 780 X dL_law_752 rfl (kk g h S hJ)
theorem la_21 (X : LX p s m c b L xs G ac am) (hJ : JS g h S) (hi : i + 5 ≤ L) (kk : ∀ g h S, JS g h S → JL p l e s m b below meth c G ac am 780 (LL b (ac 0) (am 0) i) [] g h) : JL p l e s m b below meth c G ac am 757 (LL b (ac 0) (am 0) i) [] g h := by
  obtain ⟨v, e1, e2⟩ := (B_count (xs (i + 1))) g h S hJ
  refine l_aload 758 2 X dL_law_757 rfl rfl ?_
  refine l_arg 763 1 X (by omega) dL_law_758 dL_law_759 dL_law_760 rfl dL_law_761 dL_law_762 rfl ?_
  refine l_callC 766 X (c_X4_count l (wA G ac) _ (xs (i + 1)) g v e1) (cwV 1 X.1.2.2.2.2 gL_law_X4_count rfl rfl rfl (by decide +kernel) ⟨Nat.le_of_ble_eq_true rfl, Nat.le_of_ble_eq_true rfl⟩) rfl rfl (Nat.le_of_ble_eq_true rfl) dL_law_763 rfl ?_
  refine l_aload 767 1 X dL_law_766 rfl rfl ?_
  refine l_arg 772 1 X (by omega) dL_law_767 dL_law_768 dL_law_769 rfl dL_law_770 dL_law_771 rfl ?_
  refine l_callM 775 X (c_X5_count l (wA G am) _ (xs (i + 1)) h v e2) (cwV 1 X.1.2.2.2.2 gL_law_X5_count rfl rfl rfl (by decide +kernel) ⟨Nat.le_of_ble_eq_true rfl, Nat.le_of_ble_eq_true rfl⟩) rfl rfl (Nat.le_of_ble_eq_true rfl) dL_law_772 rfl ?_
  exact l_eq 780 X dL_law_775 rfl (kk g h S hJ)
end CASES
