def rm_L_slots : Room := { frames := 4, cells := 0, slots := 0, locals := 85 }
theorem hd_L_slots : yL_slots.cls ≠ "java/lang/invoke/MethodHandle" ∧ yL_slots.cls ≠ "java/lang/invoke/VarHandle" ∧ (parseMethodDescriptor yL_slots.desc).map (fun d => d.parameters.length) = some 1 := by decide +kernel
set_option maxRecDepth 100000 in
set_option maxHeartbeats 4000000 in
theorem t_L_slots_J444 {p : Program} {l : Launch} {e : Env} {s : State} {m : MethodId} {args : Array Value} {below : List Frame} {meth : Method} {c : Code} {G : GG} {A : Nat → Prop} (C : KX p s m args c cL_slots 14 RL wsL_slots G shC A) (hr : meth.sig.returnType = (some .boolean)) (hk0 : meth.locks = false)  (v1 : Int32) (v2 : Int32) (v3 : Int32) (v4 : Int32) (v5 : Int32) (v6 : Int32) (v7 : Int32) (v8 : Int32) (v9 : Int32) (v12 : Int32) (g : Mem) {res : Bool} {k : Option Bool} {r : Int32 → Option Bool} (hk : k  = some res → JJ p l e rm_L_slots s m args below meth c 14 G shC A (MQ below (k_Qi G shC A (bI res) g) args s 0 0 A) 450 [(0, .ref (G.2.1 0)), (1, .int v1), (2, .int v2), (3, .int v3), (4, .int v4), (5, .int v5), (6, .int v6), (7, .int v7)] [] g) (hr2 : ∀ (v12 : Int32), r v12 = some res → JJ p l e rm_L_slots s m args below meth c 14 G shC A (MQ below (k_Qi G shC A (bI res) g) args s 0 0 A) 324 [(0, .ref (G.2.1 0)), (1, .int v1), (2, .int v2), (3, .int v3), (4, .int v4), (5, .int v5), (6, .int v6), (7, .int v7), (8, .int v8), (9, .int v9), (12, .int v12)] [] g) (hf : f_L_slots_J444 k r v1 v2 v3 v4 v5 v6 v7 v8 v9 v12 g = some res) : JJ p l e rm_L_slots s m args below meth c 14 G shC A (MQ below (k_Qi G shC A (bI res) g) args s 0 0 A) 444 [(0, .ref (G.2.1 0)), (1, .int v1), (2, .int v2), (3, .int v3), (4, .int v4), (5, .int v5), (6, .int v6), (7, .int v7), (8, .int v8), (9, .int v9), (12, .int v12)] [] g := by
  rw [f_L_slots_J444] at hf
  obtain ⟨x59, hx59, hf⟩ := ol hf
  refine r_iinc 447 C 10 x59 [(12, .int x59), (0, .ref (G.2.1 0)), (1, .int v1), (2, .int v2), (3, .int v3), (4, .int v4), (5, .int v5), (6, .int v6), (7, .int v7), (8, .int v8), (9, .int v9)] dL_slots_444 rfl rfl hx59.symm (by decide) rfl ?_
  refine r_goto 324 C dL_slots_447 rfl ?_
  refine r_sub [(0, .ref (G.2.1 0)), (1, .int v1), (2, .int v2), (3, .int v3), (4, .int v4), (5, .int v5), (6, .int v6), (7, .int v7), (8, .int v8), (9, .int v9), (12, .int x59)] [1, 2, 3, 4, 5, 6, 7, 8, 9, 10, 0] rfl ?_
  exact hr2 _ hf
set_option maxRecDepth 100000 in
set_option maxHeartbeats 4000000 in
theorem t_L_slots_J374 {p : Program} {l : Launch} {e : Env} {s : State} {m : MethodId} {args : Array Value} {below : List Frame} {meth : Method} {c : Code} {G : GG} {A : Nat → Prop} (C : KX p s m args c cL_slots 14 RL wsL_slots G shC A) (hr : meth.sig.returnType = (some .boolean)) (hk0 : meth.locks = false)  (v1 : Int32) (v2 : Int32) (v3 : Int32) (v4 : Int32) (v5 : Int32) (v6 : Int32) (v7 : Int32) (v8 : Int32) (v9 : Int32) (v12 : Int32) (v13 : Int32) (g : Mem) {res : Bool} {k : Option Bool} {r : Int32 → Option Bool} (hk : k  = some res → JJ p l e rm_L_slots s m args below meth c 14 G shC A (MQ below (k_Qi G shC A (bI res) g) args s 0 0 A) 450 [(0, .ref (G.2.1 0)), (1, .int v1), (2, .int v2), (3, .int v3), (4, .int v4), (5, .int v5), (6, .int v6), (7, .int v7)] [] g) (hr2 : ∀ (v12 : Int32), r v12 = some res → JJ p l e rm_L_slots s m args below meth c 14 G shC A (MQ below (k_Qi G shC A (bI res) g) args s 0 0 A) 324 [(0, .ref (G.2.1 0)), (1, .int v1), (2, .int v2), (3, .int v3), (4, .int v4), (5, .int v5), (6, .int v6), (7, .int v7), (8, .int v8), (9, .int v9), (12, .int v12)] [] g) (hf : f_L_slots_J374 k r v1 v2 v3 v4 v5 v6 v7 v8 v9 v12 v13 g = some res) : JJ p l e rm_L_slots s m args below meth c 14 G shC A (MQ below (k_Qi G shC A (bI res) g) args s 0 0 A) 374 [(0, .ref (G.2.1 0)), (1, .int v1), (2, .int v2), (3, .int v3), (4, .int v4), (5, .int v5), (6, .int v6), (7, .int v7), (8, .int v8), (9, .int v9), (12, .int v12), (13, .int v13)] [] g := by
  rw [f_L_slots_J374] at hf
  refine r_iload 376 C 11 dL_slots_374 rfl rfl ?_
  suffices kk53 : JJ p l e rm_L_slots s m args below meth c 14 G shC A (MQ below (k_Qi G shC A (bI res) g) args s 0 0 A) 384 [(0, .ref (G.2.1 0)), (1, .int v1), (2, .int v2), (3, .int v3), (4, .int v4), (5, .int v5), (6, .int v6), (7, .int v7), (8, .int v8), (9, .int v9), (12, .int v12), (13, .int v13)] [.int (bI (!(decide (0 ≤ v13))))] g by
    refine r_if_ge 383 379 C dL_slots_376 rfl rfl (fun c52 => ?_) (fun c52 => ?_)
    · refine r_iconst (v := 0) 384 C dL_slots_383 rfl (by decide) ?_
      rw [decide_eq_true c52] at kk53
      exact kk53
    · refine r_iconst (v := 1) 380 C dL_slots_379 rfl (by decide) ?_
      refine r_goto 384 C dL_slots_380 rfl ?_
      rw [decide_eq_false c52] at kk53
      exact kk53
  refine r_aload_n 385 C 0 dL_slots_384 rfl rfl ?_
  refine r_iload 387 C 10 dL_slots_385 rfl rfl ?_
  refine r_iload 389 C 7 dL_slots_387 rfl rfl ?_
  refine r_iconst (v := 1) 390 C dL_slots_389 rfl (by decide) ?_
  obtain ⟨x54, hx54, hf⟩ := ob hf
  refine r_Vi (As := [.int v12, .int v7, .int 1]) 393 C shC_0 rfl (c_X4_voted l G A v12 v7 1 g _ hx54) (cwV 3 C.1.2.2.2.2 gL_slots_X4_voted rfl rfl rfl hd_X4_voted ⟨Nat.le_of_ble_eq_true rfl, Nat.le_of_ble_eq_true rfl⟩) rfl rfl (Nat.le_of_ble_eq_true rfl) dL_slots_390 rfl ?_
  suffices kk56 : JJ p l e rm_L_slots s m args below meth c 14 G shC A (MQ below (k_Qi G shC A (bI res) g) args s 0 0 A) 401 [(0, .ref (G.2.1 0)), (1, .int v1), (2, .int v2), (3, .int v3), (4, .int v4), (5, .int v5), (6, .int v6), (7, .int v7), (8, .int v8), (9, .int v9), (12, .int v12), (13, .int v13)] [.int (bI (!(decide (0 ≤ x54)))), .int (bI (!(decide (0 ≤ v13))))] g by
    refine r_if_ge 400 396 C dL_slots_393 rfl rfl (fun c55 => ?_) (fun c55 => ?_)
    · refine r_iconst (v := 0) 401 C dL_slots_400 rfl (by decide) ?_
      rw [decide_eq_true c55] at kk56
      exact kk56
    · refine r_iconst (v := 1) 397 C dL_slots_396 rfl (by decide) ?_
      refine r_goto 401 C dL_slots_397 rfl ?_
      rw [decide_eq_false c55] at kk56
      exact kk56
  refine r_icmp_eq 406 404 C dL_slots_401 rfl rfl (fun c57 => ?_) (fun c57 => ?_)
  · have hf := oip c57 hf
    refine r_iload 408 C 11 dL_slots_406 rfl rfl ?_
    refine r_if_le 444 411 C dL_slots_408 rfl rfl (fun c58 => ?_) (fun c58 => ?_)
    · have hf := oip c58 hf
      refine r_sub [(0, .ref (G.2.1 0)), (1, .int v1), (2, .int v2), (3, .int v3), (4, .int v4), (5, .int v5), (6, .int v6), (7, .int v7), (8, .int v8), (9, .int v9), (12, .int v12)] [0, 1, 2, 3, 4, 5, 6, 7, 8, 9, 10] rfl ?_
      exact t_L_slots_J444 C hr hk0 v1 v2 v3 v4 v5 v6 v7 v8 v9 v12 g hk hr2 hf
    · have hf := oin c58 hf
      refine r_iload 413 C 8 dL_slots_411 rfl rfl ?_
      refine r_if_le 444 416 C dL_slots_413 rfl rfl (fun c60 => ?_) (fun c60 => ?_)
      · have hf := oip c60 hf
        refine r_sub [(0, .ref (G.2.1 0)), (1, .int v1), (2, .int v2), (3, .int v3), (4, .int v4), (5, .int v5), (6, .int v6), (7, .int v7), (8, .int v8), (9, .int v9), (12, .int v12)] [0, 1, 2, 3, 4, 5, 6, 7, 8, 9, 10] rfl ?_
        exact t_L_slots_J444 C hr hk0 v1 v2 v3 v4 v5 v6 v7 v8 v9 v12 g hk hr2 hf
      · have hf := oin c60 hf
        refine r_iload 418 C 11 dL_slots_416 rfl rfl ?_
        refine r_aload_n 419 C 0 dL_slots_418 rfl rfl ?_
        refine r_iload 421 C 7 dL_slots_419 rfl rfl ?_
        refine r_iconst (v := 1) 422 C dL_slots_421 rfl (by decide) ?_
        obtain ⟨x61, hx61, hf⟩ := ob hf
        refine r_Vi (As := [.int v7, .int 1]) 425 C shC_0 rfl (c_X4_slot l G A v7 1 g _ hx61) (cwV 2 C.1.2.2.2.2 gL_slots_X4_slot rfl rfl rfl hd_X4_slot ⟨Nat.le_of_ble_eq_true rfl, Nat.le_of_ble_eq_true rfl⟩) rfl rfl (Nat.le_of_ble_eq_true rfl) dL_slots_422 rfl ?_
        refine r_icmp_le 444 428 C dL_slots_425 rfl rfl (fun c62 => ?_) (fun c62 => ?_)
        · have hf := oip c62 hf
          refine r_sub [(0, .ref (G.2.1 0)), (1, .int v1), (2, .int v2), (3, .int v3), (4, .int v4), (5, .int v5), (6, .int v6), (7, .int v7), (8, .int v8), (9, .int v9), (12, .int v12)] [0, 1, 2, 3, 4, 5, 6, 7, 8, 9, 10] rfl ?_
          exact t_L_slots_J444 C hr hk0 v1 v2 v3 v4 v5 v6 v7 v8 v9 v12 g hk hr2 hf
        · have hf := oin c62 hf
          refine r_aload_n 429 C 0 dL_slots_428 rfl rfl ?_
          refine r_iload 431 C 10 dL_slots_429 rfl rfl ?_
          refine r_iload 433 C 7 dL_slots_431 rfl rfl ?_
          refine r_iconst (v := 1) 434 C dL_slots_433 rfl (by decide) ?_
          obtain ⟨x63, hx63, hf⟩ := ob hf
          refine r_Vi (As := [.int v12, .int v7, .int 1]) 437 C shC_0 rfl (c_X4_voted l G A v12 v7 1 g _ hx63) (cwV 3 C.1.2.2.2.2 gL_slots_X4_voted rfl rfl rfl hd_X4_voted ⟨Nat.le_of_ble_eq_true rfl, Nat.le_of_ble_eq_true rfl⟩) rfl rfl (Nat.le_of_ble_eq_true rfl) dL_slots_434 rfl ?_
          refine r_iload 439 C 8 dL_slots_437 rfl rfl ?_
          refine r_icmp_eq 444 442 C dL_slots_439 rfl rfl (fun c64 => ?_) (fun c64 => ?_)
          · have hf := oip c64 hf
            refine r_sub [(0, .ref (G.2.1 0)), (1, .int v1), (2, .int v2), (3, .int v3), (4, .int v4), (5, .int v5), (6, .int v6), (7, .int v7), (8, .int v8), (9, .int v9), (12, .int v12)] [0, 1, 2, 3, 4, 5, 6, 7, 8, 9, 10] rfl ?_
            exact t_L_slots_J444 C hr hk0 v1 v2 v3 v4 v5 v6 v7 v8 v9 v12 g hk hr2 hf
          · have hf := oin c64 hf
            refine r_iconst (v := 0) 443 C dL_slots_442 rfl (by decide) ?_
            have hf := Option.some.inj hf
            subst hf
            exact r_zret C hr hk0 false rfl dL_slots_443
  · have hf := oin c57 hf
    refine r_iconst (v := 0) 405 C dL_slots_404 rfl (by decide) ?_
    have hf := Option.some.inj hf
    subst hf
    exact r_zret C hr hk0 false rfl dL_slots_405
set_option maxRecDepth 100000 in
set_option maxHeartbeats 4000000 in
theorem t_L_slots_L324 {p : Program} {l : Launch} {e : Env} {s : State} {m : MethodId} {args : Array Value} {below : List Frame} {meth : Method} {c : Code} {G : GG} {A : Nat → Prop} (C : KX p s m args c cL_slots 14 RL wsL_slots G shC A) (hr : meth.sig.returnType = (some .boolean)) (hk0 : meth.locks = false)  (v1 : Int32) (v2 : Int32) (v3 : Int32) (v4 : Int32) (v5 : Int32) (v6 : Int32) (v7 : Int32) (v8 : Int32) (v9 : Int32) (g : Mem) {res : Bool} {k : Option Bool} (hk : k = some res → JJ p l e rm_L_slots s m args below meth c 14 G shC A (MQ below (k_Qi G shC A (bI res) g) args s 0 0 A) 450 [(0, .ref (G.2.1 0)), (1, .int v1), (2, .int v2), (3, .int v3), (4, .int v4), (5, .int v5), (6, .int v6), (7, .int v7)] [] g) : ∀ (n : Nat) (v12 : Int32), f_L_slots_L324 k v1 v2 v3 v4 v5 v6 v7 v8 v9 g n v12 = some res → JJ p l e rm_L_slots s m args below meth c 14 G shC A (MQ below (k_Qi G shC A (bI res) g) args s 0 0 A) 324 [(0, .ref (G.2.1 0)), (1, .int v1), (2, .int v2), (3, .int v3), (4, .int v4), (5, .int v5), (6, .int v6), (7, .int v7), (8, .int v8), (9, .int v9), (12, .int v12)] [] g := by
  intro n
  induction n with
  | zero =>
    intro v12 hf
    rw [f_L_slots_L324] at hf
    cases hf
  | succ n ih =>
    intro v12 hf
    rw [f_L_slots_L324] at hf
    refine r_iload 326 C 10 dL_slots_324 rfl rfl ?_
    refine r_bipush (v := 6) 328 C dL_slots_326 rfl (by decide) ?_
    refine r_icmp_ge 450 331 C dL_slots_328 rfl rfl (fun c49 => ?_) (fun c49 => ?_)
    · have hf := oip c49 hf
      refine r_sub [(0, .ref (G.2.1 0)), (1, .int v1), (2, .int v2), (3, .int v3), (4, .int v4), (5, .int v5), (6, .int v6), (7, .int v7)] [0, 1, 2, 3, 4, 5, 6, 7] rfl ?_
      exact hk  hf
    · have hf := oin c49 hf
      refine r_aload_n 332 C 0 dL_slots_331 rfl rfl ?_
      refine r_iload 334 C 10 dL_slots_332 rfl rfl ?_
      refine r_iload 336 C 7 dL_slots_334 rfl rfl ?_
      refine r_iconst (v := 0) 337 C dL_slots_336 rfl (by decide) ?_
      obtain ⟨x50, hx50, hf⟩ := ob hf
      refine r_Vi (As := [.int v12, .int v7, .int 0]) 340 C shC_0 rfl (c_X4_voted l G A v12 v7 0 g _ hx50) (cwV 3 C.1.2.2.2.2 gL_slots_X4_voted rfl rfl rfl hd_X4_voted ⟨Nat.le_of_ble_eq_true rfl, Nat.le_of_ble_eq_true rfl⟩) rfl rfl (Nat.le_of_ble_eq_true rfl) dL_slots_337 rfl ?_
      refine r_istore 342 C [(13, .int x50), (0, .ref (G.2.1 0)), (1, .int v1), (2, .int v2), (3, .int v3), (4, .int v4), (5, .int v5), (6, .int v6), (7, .int v7), (8, .int v8), (9, .int v9), (12, .int v12)] dL_slots_340 rfl rfl (by decide) rfl ?_
      refine r_iload 344 C 0 dL_slots_342 rfl rfl ?_
      refine r_if_le 374 347 C dL_slots_344 rfl rfl (fun c51 => ?_) (fun c51 => ?_)
      · have hf := oip c51 hf
        refine r_sub [(0, .ref (G.2.1 0)), (1, .int v1), (2, .int v2), (3, .int v3), (4, .int v4), (5, .int v5), (6, .int v6), (7, .int v7), (8, .int v8), (9, .int v9), (12, .int v12), (13, .int x50)] [1, 2, 3, 4, 5, 6, 7, 8, 9, 10, 11, 0] rfl ?_
        exact t_L_slots_J374 C hr hk0 v1 v2 v3 v4 v5 v6 v7 v8 v9 v12 x50 g hk ih hf
      · have hf := oin c51 hf
        refine r_iload 349 C 0 dL_slots_347 rfl rfl ?_
        refine r_aload_n 350 C 1 dL_slots_349 rfl rfl ?_
        refine r_iload 352 C 11 dL_slots_350 rfl rfl ?_
        refine r_iconst (v := 1) 353 C dL_slots_352 rfl (by decide) ?_
        obtain ⟨x65, hx65, hf⟩ := ob hf
        refine r_Vi (As := [.int v12, .int 1]) 356 C shC_0 rfl (c_X4_acceptor l G A v12 1 g _ hx65) (cwV 2 C.1.2.2.2.2 gL_slots_X4_acceptor rfl rfl rfl hd_X4_acceptor ⟨Nat.le_of_ble_eq_true rfl, Nat.le_of_ble_eq_true rfl⟩) rfl rfl (Nat.le_of_ble_eq_true rfl) dL_slots_353 rfl ?_
        refine r_icmp_gt 404 359 C dL_slots_356 rfl rfl (fun c66 => ?_) (fun c66 => ?_)
        · have hf := oip c66 hf
          refine r_iconst (v := 0) 405 C dL_slots_404 rfl (by decide) ?_
          have hf := Option.some.inj hf
          subst hf
          exact r_zret C hr hk0 false rfl dL_slots_405
        · have hf := oin c66 hf
          refine r_iload 361 C 8 dL_slots_359 rfl rfl ?_
          refine r_aload_n 362 C 1 dL_slots_361 rfl rfl ?_
          refine r_iconst (v := 2) 363 C dL_slots_362 rfl (by decide) ?_
          obtain ⟨x67, hx67, hf⟩ := ob hf
          refine r_Vi (As := [.int 2]) 366 C shC_0 rfl (c_X4_count l G A 2 g _ hx67) (cwV 1 C.1.2.2.2.2 gL_slots_X4_count rfl rfl rfl hd_X4_count ⟨Nat.le_of_ble_eq_true rfl, Nat.le_of_ble_eq_true rfl⟩) rfl rfl (Nat.le_of_ble_eq_true rfl) dL_slots_363 rfl ?_
          refine r_icmp_le 404 369 C dL_slots_366 rfl rfl (fun c68 => ?_) (fun c68 => ?_)
          · have hf := oip c68 hf
            refine r_iconst (v := 0) 405 C dL_slots_404 rfl (by decide) ?_
            have hf := Option.some.inj hf
            subst hf
            exact r_zret C hr hk0 false rfl dL_slots_405
          · have hf := oin c68 hf
            refine r_iload 371 C 10 dL_slots_369 rfl rfl ?_
            refine r_if_eq 404 374 C dL_slots_371 rfl rfl (fun c69 => ?_) (fun c69 => ?_)
            · have hf := oip c69 hf
              refine r_iconst (v := 0) 405 C dL_slots_404 rfl (by decide) ?_
              have hf := Option.some.inj hf
              subst hf
              exact r_zret C hr hk0 false rfl dL_slots_405
            · have hf := oin c69 hf
              refine r_sub [(0, .ref (G.2.1 0)), (1, .int v1), (2, .int v2), (3, .int v3), (4, .int v4), (5, .int v5), (6, .int v6), (7, .int v7), (8, .int v8), (9, .int v9), (12, .int v12), (13, .int x50)] [1, 2, 3, 4, 5, 6, 7, 8, 9, 10, 11, 0] rfl ?_
              exact t_L_slots_J374 C hr hk0 v1 v2 v3 v4 v5 v6 v7 v8 v9 v12 x50 g hk ih hf
set_option maxRecDepth 100000 in
set_option maxHeartbeats 4000000 in
theorem t_L_slots_J282 {p : Program} {l : Launch} {e : Env} {s : State} {m : MethodId} {args : Array Value} {below : List Frame} {meth : Method} {c : Code} {G : GG} {A : Nat → Prop} (C : KX p s m args c cL_slots 14 RL wsL_slots G shC A) (hr : meth.sig.returnType = (some .boolean)) (hk0 : meth.locks = false)  (v1 : Int32) (v2 : Int32) (v3 : Int32) (v4 : Int32) (v5 : Int32) (v6 : Int32) (v7 : Int32) (v8 : Int32) (v9 : Int32) (s0 : Int32) (s1 : Int32) (g : Mem) {res : Bool} {k : Int32 → Int32 → Option Bool} {r : Int32 → Int32 → Int32 → Int32 → Int32 → Option Bool} (hk : ∀ (v2 : Int32) (v3 : Int32), k v2 v3 = some res → JJ p l e rm_L_slots s m args below meth c 14 G shC A (MQ below (k_Qi G shC A (bI res) g) args s 0 0 A) 456 [(0, .ref (G.2.1 0)), (1, .int v1), (2, .int v2), (3, .int v3)] [] g) (hr2 : ∀ (v2 : Int32) (v3 : Int32) (v5 : Int32) (v6 : Int32) (v7 : Int32), r v2 v3 v5 v6 v7 = some res → JJ p l e rm_L_slots s m args below meth c 14 G shC A (MQ below (k_Qi G shC A (bI res) g) args s 0 0 A) 27 [(0, .ref (G.2.1 0)), (1, .int v1), (2, .int v2), (3, .int v3), (4, .int v4), (5, .int v5), (6, .int v6), (7, .int v7)] [] g) (hf : f_L_slots_J282 k r v1 v2 v3 v4 v5 v6 v7 v8 v9 s0 s1 g = some res) : JJ p l e rm_L_slots s m args below meth c 14 G shC A (MQ below (k_Qi G shC A (bI res) g) args s 0 0 A) 282 [(0, .ref (G.2.1 0)), (1, .int v1), (2, .int v2), (3, .int v3), (4, .int v4), (5, .int v5), (6, .int v6), (7, .int v7), (8, .int v8), (9, .int v9)] [.int s0, .int s1] g := by
  rw [f_L_slots_J282] at hf
  refine r_icmp_ne 319 285 C dL_slots_282 rfl rfl (fun c41 => ?_) (fun c41 => ?_)
  · have hf := oin c41 hf
    refine r_iconst (v := 0) 320 C dL_slots_319 rfl (by decide) ?_
    have hf := Option.some.inj hf
    subst hf
    exact r_zret C hr hk0 false rfl dL_slots_320
  · have hf := oip c41 hf
    refine r_aload_n 286 C 0 dL_slots_285 rfl rfl ?_
    refine r_iload 288 C 7 dL_slots_286 rfl rfl ?_
    refine r_iconst (v := 5) 289 C dL_slots_288 rfl (by decide) ?_
    obtain ⟨x42, hx42, hf⟩ := ob hf
    refine r_Vi (As := [.int v7, .int 5]) 292 C shC_0 rfl (c_X4_slot l G A v7 5 g _ hx42) (cwV 2 C.1.2.2.2.2 gL_slots_X4_slot rfl rfl rfl hd_X4_slot ⟨Nat.le_of_ble_eq_true rfl, Nat.le_of_ble_eq_true rfl⟩) rfl rfl (Nat.le_of_ble_eq_true rfl) dL_slots_289 rfl ?_
    refine r_iconst (v := 1) 293 C dL_slots_292 rfl (by decide) ?_
    suffices kk44 : JJ p l e rm_L_slots s m args below meth c 14 G shC A (MQ below (k_Qi G shC A (bI res) g) args s 0 0 A) 301 [(0, .ref (G.2.1 0)), (1, .int v1), (2, .int v2), (3, .int v3), (4, .int v4), (5, .int v5), (6, .int v6), (7, .int v7), (8, .int v8), (9, .int v9)] [.int (bI (decide (x42 = 1)))] g by
      refine r_icmp_ne 300 296 C dL_slots_293 rfl rfl (fun c43 => ?_) (fun c43 => ?_)
      · refine r_iconst (v := 0) 301 C dL_slots_300 rfl (by decide) ?_
        rw [decide_eq_false c43] at kk44
        exact kk44
      · refine r_iconst (v := 1) 297 C dL_slots_296 rfl (by decide) ?_
        refine r_goto 301 C dL_slots_297 rfl ?_
        rw [decide_eq_true c43] at kk44
        exact kk44
    refine r_iload 303 C 7 dL_slots_301 rfl rfl ?_
    refine r_aload_n 304 C 0 dL_slots_303 rfl rfl ?_
    refine r_iconst (v := 2) 305 C dL_slots_304 rfl (by decide) ?_
    obtain ⟨x45, hx45, hf⟩ := ob hf
    refine r_Vi (As := [.int 2]) 308 C shC_0 rfl (c_X4_count l G A 2 g _ hx45) (cwV 1 C.1.2.2.2.2 gL_slots_X4_count rfl rfl rfl hd_X4_count ⟨Nat.le_of_ble_eq_true rfl, Nat.le_of_ble_eq_true rfl⟩) rfl rfl (Nat.le_of_ble_eq_true rfl) dL_slots_305 rfl ?_
    suffices kk47 : JJ p l e rm_L_slots s m args below meth c 14 G shC A (MQ below (k_Qi G shC A (bI res) g) args s 0 0 A) 316 [(0, .ref (G.2.1 0)), (1, .int v1), (2, .int v2), (3, .int v3), (4, .int v4), (5, .int v5), (6, .int v6), (7, .int v7), (8, .int v8), (9, .int v9)] [.int (bI (!(decide (x45 < v7)))), .int (bI (decide (x42 = 1)))] g by
      refine r_icmp_gt 315 311 C dL_slots_308 rfl rfl (fun c46 => ?_) (fun c46 => ?_)
      · refine r_iconst (v := 0) 316 C dL_slots_315 rfl (by decide) ?_
        rw [decide_eq_true c46] at kk47
        exact kk47
      · refine r_iconst (v := 1) 312 C dL_slots_311 rfl (by decide) ?_
        refine r_goto 316 C dL_slots_312 rfl ?_
        rw [decide_eq_false c46] at kk47
        exact kk47
    refine r_icmp_eq 321 319 C dL_slots_316 rfl rfl (fun c48 => ?_) (fun c48 => ?_)
    · have hf := oip c48 hf
      refine r_iconst (v := 0) 322 C dL_slots_321 rfl (by decide) ?_
      refine r_istore 324 C [(12, .int 0), (0, .ref (G.2.1 0)), (1, .int v1), (2, .int v2), (3, .int v3), (4, .int v4), (5, .int v5), (6, .int v6), (7, .int v7), (8, .int v8), (9, .int v9)] dL_slots_322 rfl rfl (by decide) rfl ?_
      refine r_sub [(0, .ref (G.2.1 0)), (1, .int v1), (2, .int v2), (3, .int v3), (4, .int v4), (5, .int v5), (6, .int v6), (7, .int v7), (8, .int v8), (9, .int v9), (12, .int 0)] [1, 2, 3, 4, 5, 6, 7, 8, 9, 10, 0] rfl ?_
      refine t_L_slots_L324 C hr hk0 v1 v2 v3 v4 v5 v6 v7 v8 v9 g (fun hf => ?_) fuel0 _ hf
      obtain ⟨x70, hx70, hf⟩ := ol hf
      refine r_iinc 453 C 7 x70 [(7, .int x70), (0, .ref (G.2.1 0)), (1, .int v1), (2, .int v2), (3, .int v3), (4, .int v4), (5, .int v5), (6, .int v6)] dL_slots_450 rfl rfl hx70.symm (by decide) rfl ?_
      refine r_goto 27 C dL_slots_453 rfl ?_
      refine r_sub [(0, .ref (G.2.1 0)), (1, .int v1), (2, .int v2), (3, .int v3), (4, .int v4), (5, .int v5), (6, .int v6), (7, .int x70)] [1, 2, 3, 4, 5, 6, 7, 0] rfl ?_
      exact hr2 _ _ _ _ _ hf
    · have hf := oin c48 hf
      refine r_iconst (v := 0) 320 C dL_slots_319 rfl (by decide) ?_
      have hf := Option.some.inj hf
      subst hf
      exact r_zret C hr hk0 false rfl dL_slots_320
set_option maxRecDepth 100000 in
set_option maxHeartbeats 4000000 in
theorem t_L_slots_J214 {p : Program} {l : Launch} {e : Env} {s : State} {m : MethodId} {args : Array Value} {below : List Frame} {meth : Method} {c : Code} {G : GG} {A : Nat → Prop} (C : KX p s m args c cL_slots 14 RL wsL_slots G shC A) (hr : meth.sig.returnType = (some .boolean)) (hk0 : meth.locks = false)  (v1 : Int32) (v2 : Int32) (v3 : Int32) (v4 : Int32) (v5 : Int32) (v6 : Int32) (v7 : Int32) (v8 : Int32) (v9 : Int32) (v10 : Int32) (v11 : Int32) (g : Mem) {res : Bool} {k : Int32 → Int32 → Option Bool} {r : Int32 → Int32 → Int32 → Int32 → Int32 → Option Bool} (hk : ∀ (v2 : Int32) (v3 : Int32), k v2 v3 = some res → JJ p l e rm_L_slots s m args below meth c 14 G shC A (MQ below (k_Qi G shC A (bI res) g) args s 0 0 A) 456 [(0, .ref (G.2.1 0)), (1, .int v1), (2, .int v2), (3, .int v3)] [] g) (hr2 : ∀ (v2 : Int32) (v3 : Int32) (v5 : Int32) (v6 : Int32) (v7 : Int32), r v2 v3 v5 v6 v7 = some res → JJ p l e rm_L_slots s m args below meth c 14 G shC A (MQ below (k_Qi G shC A (bI res) g) args s 0 0 A) 27 [(0, .ref (G.2.1 0)), (1, .int v1), (2, .int v2), (3, .int v3), (4, .int v4), (5, .int v5), (6, .int v6), (7, .int v7)] [] g) (hf : f_L_slots_J214 k r v1 v2 v3 v4 v5 v6 v7 v8 v9 v10 v11 g = some res) : JJ p l e rm_L_slots s m args below meth c 14 G shC A (MQ below (k_Qi G shC A (bI res) g) args s 0 0 A) 214 [(0, .ref (G.2.1 0)), (1, .int v1), (2, .int v2), (3, .int v3), (4, .int v4), (5, .int v5), (6, .int v6), (7, .int v7), (8, .int v8), (9, .int v9), (10, .int v10), (11, .int v11)] [] g := by
  rw [f_L_slots_J214] at hf
  refine r_aload_n 215 C 0 dL_slots_214 rfl rfl ?_
  refine r_iload 217 C 7 dL_slots_215 rfl rfl ?_
  refine r_iconst (v := 2) 218 C dL_slots_217 rfl (by decide) ?_
  obtain ⟨x31, hx31, hf⟩ := ob hf
  refine r_Vi (As := [.int v7, .int 2]) 221 C shC_0 rfl (c_X4_slot l G A v7 2 g _ hx31) (cwV 2 C.1.2.2.2.2 gL_slots_X4_slot rfl rfl rfl hd_X4_slot ⟨Nat.le_of_ble_eq_true rfl, Nat.le_of_ble_eq_true rfl⟩) rfl rfl (Nat.le_of_ble_eq_true rfl) dL_slots_218 rfl ?_
  refine r_iload 223 C 9 dL_slots_221 rfl rfl ?_
  suffices kk33 : JJ p l e rm_L_slots s m args below meth c 14 G shC A (MQ below (k_Qi G shC A (bI res) g) args s 0 0 A) 233 [(0, .ref (G.2.1 0)), (1, .int v1), (2, .int v2), (3, .int v3), (4, .int v4), (5, .int v5), (6, .int v6), (7, .int v7), (8, .int v8), (9, .int v9), (10, .int v10), (11, .int v11)] [.int (if v9 = 0 then (-5) else v6), .int x31] g by
    refine r_if_eq 231 226 C dL_slots_223 rfl rfl (fun c32 => ?_) (fun c32 => ?_)
    · refine r_bipush (v := (-5)) 233 C dL_slots_231 rfl (by decide) ?_
      rw [if_pos c32] at kk33
      exact kk33
    · refine r_iload 228 C 6 dL_slots_226 rfl rfl ?_
      refine r_goto 233 C dL_slots_228 rfl ?_
      rw [if_neg c32] at kk33
      exact kk33
  refine r_icmp_ne 319 236 C dL_slots_233 rfl rfl (fun c34 => ?_) (fun c34 => ?_)
  · have hf := oin c34 hf
    refine r_iconst (v := 0) 320 C dL_slots_319 rfl (by decide) ?_
    have hf := Option.some.inj hf
    subst hf
    exact r_zret C hr hk0 false rfl dL_slots_320
  · have hf := oip c34 hf
    refine r_aload_n 237 C 0 dL_slots_236 rfl rfl ?_
    refine r_iload 239 C 7 dL_slots_237 rfl rfl ?_
    refine r_iconst (v := 4) 240 C dL_slots_239 rfl (by decide) ?_
    obtain ⟨x35, hx35, hf⟩ := ob hf
    refine r_Vi (As := [.int v7, .int 4]) 243 C shC_0 rfl (c_X4_slot l G A v7 4 g _ hx35) (cwV 2 C.1.2.2.2.2 gL_slots_X4_slot rfl rfl rfl hd_X4_slot ⟨Nat.le_of_ble_eq_true rfl, Nat.le_of_ble_eq_true rfl⟩) rfl rfl (Nat.le_of_ble_eq_true rfl) dL_slots_240 rfl ?_
    refine r_iload 245 C 9 dL_slots_243 rfl rfl ?_
    suffices kk37 : JJ p l e rm_L_slots s m args below meth c 14 G shC A (MQ below (k_Qi G shC A (bI res) g) args s 0 0 A) 255 [(0, .ref (G.2.1 0)), (1, .int v1), (2, .int v2), (3, .int v3), (4, .int v4), (5, .int v5), (6, .int v6), (7, .int v7), (8, .int v8), (9, .int v9), (10, .int v10), (11, .int v11)] [.int (if v9 = 0 then (-5) else v11), .int x35] g by
      refine r_if_eq 253 248 C dL_slots_245 rfl rfl (fun c36 => ?_) (fun c36 => ?_)
      · refine r_bipush (v := (-5)) 255 C dL_slots_253 rfl (by decide) ?_
        rw [if_pos c36] at kk37
        exact kk37
      · refine r_iload 250 C 11 dL_slots_248 rfl rfl ?_
        refine r_goto 255 C dL_slots_250 rfl ?_
        rw [if_neg c36] at kk37
        exact kk37
    refine r_icmp_ne 319 258 C dL_slots_255 rfl rfl (fun c38 => ?_) (fun c38 => ?_)
    · have hf := oin c38 hf
      refine r_iconst (v := 0) 320 C dL_slots_319 rfl (by decide) ?_
      have hf := Option.some.inj hf
      subst hf
      exact r_zret C hr hk0 false rfl dL_slots_320
    · have hf := oip c38 hf
      refine r_aload_n 259 C 0 dL_slots_258 rfl rfl ?_
      refine r_iload 261 C 7 dL_slots_259 rfl rfl ?_
      refine r_iconst (v := 3) 262 C dL_slots_261 rfl (by decide) ?_
      obtain ⟨x39, hx39, hf⟩ := ob hf
      refine r_Vi (As := [.int v7, .int 3]) 265 C shC_0 rfl (c_X4_slot l G A v7 3 g _ hx39) (cwV 2 C.1.2.2.2.2 gL_slots_X4_slot rfl rfl rfl hd_X4_slot ⟨Nat.le_of_ble_eq_true rfl, Nat.le_of_ble_eq_true rfl⟩) rfl rfl (Nat.le_of_ble_eq_true rfl) dL_slots_262 rfl ?_
      refine r_iload 267 C 9 dL_slots_265 rfl rfl ?_
      refine r_if_eq 280 270 C dL_slots_267 rfl rfl (fun c40 => ?_) (fun c40 => ?_)
      · have hf := oip c40 hf
        refine r_bipush (v := (-5)) 282 C dL_slots_280 rfl (by decide) ?_
        refine r_sub [(0, .ref (G.2.1 0)), (1, .int v1), (2, .int v2), (3, .int v3), (4, .int v4), (5, .int v5), (6, .int v6), (7, .int v7), (8, .int v8), (9, .int v9)] [0, 1, 2, 3, 4, 5, 6, 7, 8, 9] rfl ?_
        exact t_L_slots_J282 C hr hk0 v1 v2 v3 v4 v5 v6 v7 v8 v9 (-5) x39 g hk hr2 hf
      · have hf := oin c40 hf
        refine r_iload 272 C 10 dL_slots_270 rfl rfl ?_
        refine r_iconst (v := 1) 273 C dL_slots_272 rfl (by decide) ?_
        refine r_iadd 274 C dL_slots_273 rfl ?_
        refine r_iload 276 C 11 dL_slots_274 rfl rfl ?_
        refine r_isub 277 C dL_slots_276 rfl ?_
        refine r_goto 282 C dL_slots_277 rfl ?_
        refine r_sub [(0, .ref (G.2.1 0)), (1, .int v1), (2, .int v2), (3, .int v3), (4, .int v4), (5, .int v5), (6, .int v6), (7, .int v7), (8, .int v8), (9, .int v9)] [0, 1, 2, 3, 4, 5, 6, 7, 8, 9] rfl ?_
        exact t_L_slots_J282 C hr hk0 v1 v2 v3 v4 v5 v6 v7 v8 v9 ((v10 + 1) - v11) x39 g hk hr2 hf
set_option maxRecDepth 100000 in
set_option maxHeartbeats 4000000 in
theorem t_L_slots_J92 {p : Program} {l : Launch} {e : Env} {s : State} {m : MethodId} {args : Array Value} {below : List Frame} {meth : Method} {c : Code} {G : GG} {A : Nat → Prop} (C : KX p s m args c cL_slots 14 RL wsL_slots G shC A) (hr : meth.sig.returnType = (some .boolean)) (hk0 : meth.locks = false)  (v1 : Int32) (v2 : Int32) (v3 : Int32) (v4 : Int32) (v5 : Int32) (v6 : Int32) (v7 : Int32) (v8 : Int32) (v9 : Int32) (g : Mem) {res : Bool} {k : Int32 → Int32 → Option Bool} {r : Int32 → Int32 → Int32 → Int32 → Int32 → Option Bool} (hk : ∀ (v2 : Int32) (v3 : Int32), k v2 v3 = some res → JJ p l e rm_L_slots s m args below meth c 14 G shC A (MQ below (k_Qi G shC A (bI res) g) args s 0 0 A) 456 [(0, .ref (G.2.1 0)), (1, .int v1), (2, .int v2), (3, .int v3)] [] g) (hr2 : ∀ (v2 : Int32) (v3 : Int32) (v5 : Int32) (v6 : Int32) (v7 : Int32), r v2 v3 v5 v6 v7 = some res → JJ p l e rm_L_slots s m args below meth c 14 G shC A (MQ below (k_Qi G shC A (bI res) g) args s 0 0 A) 27 [(0, .ref (G.2.1 0)), (1, .int v1), (2, .int v2), (3, .int v3), (4, .int v4), (5, .int v5), (6, .int v6), (7, .int v7)] [] g) (hf : f_L_slots_J92 k r v1 v2 v3 v4 v5 v6 v7 v8 v9 g = some res) : JJ p l e rm_L_slots s m args below meth c 14 G shC A (MQ below (k_Qi G shC A (bI res) g) args s 0 0 A) 92 [(0, .ref (G.2.1 0)), (1, .int v1), (2, .int v2), (3, .int v3), (4, .int v4), (5, .int v5), (6, .int v6), (7, .int v7), (8, .int v8), (9, .int v9)] [] g := by
  rw [f_L_slots_J92] at hf
  refine r_iload 94 C 6 dL_slots_92 rfl rfl ?_
  obtain ⟨x8, hx8, hf⟩ := ob hf
  refine r_Si (As := [.int v6]) 97 C (c_L_bits l G A v6 g _ hx8) (va_cwS 1 C.1.2.2.2.2 gL_slots_L_bits rfl rfl rfl hd_L_bits ⟨Nat.le_of_ble_eq_true rfl, Nat.le_of_ble_eq_true rfl⟩) rfl rfl (Nat.le_of_ble_eq_true rfl) dL_slots_94 rfl ?_
  refine r_istore 99 C [(10, .int x8), (0, .ref (G.2.1 0)), (1, .int v1), (2, .int v2), (3, .int v3), (4, .int v4), (5, .int v5), (6, .int v6), (7, .int v7), (8, .int v8), (9, .int v9)] dL_slots_97 rfl rfl (by decide) rfl ?_
  refine r_iload 101 C 5 dL_slots_99 rfl rfl ?_
  refine r_iload 103 C 0 dL_slots_101 rfl rfl ?_
  suffices kk10 : JJ p l e rm_L_slots s m args below meth c 14 G shC A (MQ below (k_Qi G shC A (bI res) g) args s 0 0 A) 113 [(10, .int x8), (0, .ref (G.2.1 0)), (1, .int v1), (2, .int v2), (3, .int v3), (4, .int v4), (5, .int v5), (6, .int v6), (7, .int v7), (8, .int v8), (9, .int v9)] [.int (if x8 ≤ v4 then x8 else v4)] g by
    refine r_icmp_ge 111 106 C dL_slots_103 rfl rfl (fun c9 => ?_) (fun c9 => ?_)
    · refine r_iload 113 C 0 dL_slots_111 rfl rfl ?_
      rw [if_pos c9] at kk10
      exact kk10
    · refine r_iload 108 C 5 dL_slots_106 rfl rfl ?_
      refine r_goto 113 C dL_slots_108 rfl ?_
      rw [if_neg c9] at kk10
      exact kk10
  obtain ⟨x11, hx11, hf⟩ := ol hf
  refine r_istore 115 C [(11, .int x11), (10, .int x8), (0, .ref (G.2.1 0)), (1, .int v1), (2, .int v2), (3, .int v3), (4, .int v4), (5, .int v5), (6, .int v6), (7, .int v7), (8, .int v8), (9, .int v9)] dL_slots_113 rfl hx11 (by decide) rfl ?_
  refine r_iload 117 C 7 dL_slots_115 rfl rfl ?_
  refine r_iload 119 C 10 dL_slots_117 rfl rfl ?_
  suffices kk13 : JJ p l e rm_L_slots s m args below meth c 14 G shC A (MQ below (k_Qi G shC A (bI res) g) args s 0 0 A) 127 [(11, .int x11), (10, .int x8), (0, .ref (G.2.1 0)), (1, .int v1), (2, .int v2), (3, .int v3), (4, .int v4), (5, .int v5), (6, .int v6), (7, .int v7), (8, .int v8), (9, .int v9)] [.int (bI (!(decide (v8 ≤ 0)))), .int v5] g by
    refine r_if_le 126 122 C dL_slots_119 rfl rfl (fun c12 => ?_) (fun c12 => ?_)
    · refine r_iconst (v := 0) 127 C dL_slots_126 rfl (by decide) ?_
      rw [decide_eq_true c12] at kk13
      exact kk13
    · refine r_iconst (v := 1) 123 C dL_slots_122 rfl (by decide) ?_
      refine r_goto 127 C dL_slots_123 rfl ?_
      rw [decide_eq_false c12] at kk13
      exact kk13
  refine r_iand 128 C dL_slots_127 rfl ?_
  obtain ⟨x14, hx14, hf⟩ := ol hf
  refine r_istore 130 C [(5, .int x14), (11, .int x11), (10, .int x8), (0, .ref (G.2.1 0)), (1, .int v1), (2, .int v2), (3, .int v3), (4, .int v4), (6, .int v6), (7, .int v7), (8, .int v8), (9, .int v9)] dL_slots_128 rfl hx14 (by decide) rfl ?_
  refine r_iload_n 131 C 5 dL_slots_130 rfl rfl ?_
  refine r_iload 133 C 10 dL_slots_131 rfl rfl ?_
  suffices kk16 : JJ p l e rm_L_slots s m args below meth c 14 G shC A (MQ below (k_Qi G shC A (bI res) g) args s 0 0 A) 141 [(5, .int x14), (11, .int x11), (10, .int x8), (0, .ref (G.2.1 0)), (1, .int v1), (2, .int v2), (3, .int v3), (4, .int v4), (6, .int v6), (7, .int v7), (8, .int v8), (9, .int v9)] [.int (bI (!(decide (v8 ≤ 0)))), .int v2] g by
    refine r_if_le 140 136 C dL_slots_133 rfl rfl (fun c15 => ?_) (fun c15 => ?_)
    · refine r_iconst (v := 0) 141 C dL_slots_140 rfl (by decide) ?_
      rw [decide_eq_true c15] at kk16
      exact kk16
    · refine r_iconst (v := 1) 137 C dL_slots_136 rfl (by decide) ?_
      refine r_goto 141 C dL_slots_137 rfl ?_
      rw [decide_eq_false c15] at kk16
      exact kk16
  refine r_iadd 142 C dL_slots_141 rfl ?_
  obtain ⟨x17, hx17, hf⟩ := ol hf
  refine r_istore_n 143 C [(2, .int x17), (5, .int x14), (11, .int x11), (10, .int x8), (0, .ref (G.2.1 0)), (1, .int v1), (3, .int v3), (4, .int v4), (6, .int v6), (7, .int v7), (8, .int v8), (9, .int v9)] dL_slots_142 rfl hx17 (by decide) rfl ?_
  refine r_iload_n 144 C 6 dL_slots_143 rfl rfl ?_
  refine r_iload 146 C 10 dL_slots_144 rfl rfl ?_
  refine r_bipush (v := 100) 148 C dL_slots_146 rfl (by decide) ?_
  suffices kk19 : JJ p l e rm_L_slots s m args below meth c 14 G shC A (MQ below (k_Qi G shC A (bI res) g) args s 0 0 A) 156 [(2, .int x17), (5, .int x14), (11, .int x11), (10, .int x8), (0, .ref (G.2.1 0)), (1, .int v1), (3, .int v3), (4, .int v4), (6, .int v6), (7, .int v7), (8, .int v8), (9, .int v9)] [.int (bI (!(decide (v8 ≤ 100)))), .int v3] g by
    refine r_icmp_le 155 151 C dL_slots_148 rfl rfl (fun c18 => ?_) (fun c18 => ?_)
    · refine r_iconst (v := 0) 156 C dL_slots_155 rfl (by decide) ?_
      rw [decide_eq_true c18] at kk19
      exact kk19
    · refine r_iconst (v := 1) 152 C dL_slots_151 rfl (by decide) ?_
      refine r_goto 156 C dL_slots_152 rfl ?_
      rw [decide_eq_false c18] at kk19
      exact kk19
  refine r_iadd 157 C dL_slots_156 rfl ?_
  obtain ⟨x20, hx20, hf⟩ := ol hf
  refine r_istore_n 158 C [(3, .int x20), (2, .int x17), (5, .int x14), (11, .int x11), (10, .int x8), (0, .ref (G.2.1 0)), (1, .int v1), (4, .int v4), (6, .int v6), (7, .int v7), (8, .int v8), (9, .int v9)] dL_slots_157 rfl hx20 (by decide) rfl ?_
  refine r_iload 160 C 2 dL_slots_158 rfl rfl ?_
  refine r_iload 162 C 9 dL_slots_160 rfl rfl ?_
  refine r_iload_n 163 C 6 dL_slots_162 rfl rfl ?_
  suffices kk22 : JJ p l e rm_L_slots s m args below meth c 14 G shC A (MQ below (k_Qi G shC A (bI res) g) args s 0 0 A) 171 [(3, .int x20), (2, .int x17), (5, .int x14), (11, .int x11), (10, .int x8), (0, .ref (G.2.1 0)), (1, .int v1), (4, .int v4), (6, .int v6), (7, .int v7), (8, .int v8), (9, .int v9)] [.int (bI (!(decide (v1 < v7)))), .int x14] g by
    refine r_icmp_gt 170 166 C dL_slots_163 rfl rfl (fun c21 => ?_) (fun c21 => ?_)
    · refine r_iconst (v := 0) 171 C dL_slots_170 rfl (by decide) ?_
      rw [decide_eq_true c21] at kk22
      exact kk22
    · refine r_iconst (v := 1) 167 C dL_slots_166 rfl (by decide) ?_
      refine r_goto 171 C dL_slots_167 rfl ?_
      rw [decide_eq_false c21] at kk22
      exact kk22
  refine r_icmp_ne 212 174 C dL_slots_171 rfl rfl (fun c23 => ?_) (fun c23 => ?_)
  · have hf := oin c23 hf
    refine r_iconst (v := 0) 213 C dL_slots_212 rfl (by decide) ?_
    have hf := Option.some.inj hf
    subst hf
    exact r_zret C hr hk0 false rfl dL_slots_213
  · have hf := oip c23 hf
    refine r_iload 176 C 10 dL_slots_174 rfl rfl ?_
    suffices kk25 : JJ p l e rm_L_slots s m args below meth c 14 G shC A (MQ below (k_Qi G shC A (bI res) g) args s 0 0 A) 184 [(3, .int x20), (2, .int x17), (5, .int x14), (11, .int x11), (10, .int x8), (0, .ref (G.2.1 0)), (1, .int v1), (4, .int v4), (6, .int v6), (7, .int v7), (8, .int v8), (9, .int v9)] [.int (bI (!(decide (0 ≤ v8))))] g by
      refine r_if_ge 183 179 C dL_slots_176 rfl rfl (fun c24 => ?_) (fun c24 => ?_)
      · refine r_iconst (v := 0) 184 C dL_slots_183 rfl (by decide) ?_
        rw [decide_eq_true c24] at kk25
        exact kk25
      · refine r_iconst (v := 1) 180 C dL_slots_179 rfl (by decide) ?_
        refine r_goto 184 C dL_slots_180 rfl ?_
        rw [decide_eq_false c24] at kk25
        exact kk25
    refine r_aload_n 185 C 5 dL_slots_184 rfl rfl ?_
    refine r_iload 187 C 9 dL_slots_185 rfl rfl ?_
    refine r_iconst (v := 1) 188 C dL_slots_187 rfl (by decide) ?_
    obtain ⟨x26, hx26, hf⟩ := ob hf
    refine r_Vi (As := [.int v7, .int 1]) 191 C shC_0 rfl (c_X4_slot l G A v7 1 g _ hx26) (cwV 2 C.1.2.2.2.2 gL_slots_X4_slot rfl rfl rfl hd_X4_slot ⟨Nat.le_of_ble_eq_true rfl, Nat.le_of_ble_eq_true rfl⟩) rfl rfl (Nat.le_of_ble_eq_true rfl) dL_slots_188 rfl ?_
    suffices kk28 : JJ p l e rm_L_slots s m args below meth c 14 G shC A (MQ below (k_Qi G shC A (bI res) g) args s 0 0 A) 199 [(3, .int x20), (2, .int x17), (5, .int x14), (11, .int x11), (10, .int x8), (0, .ref (G.2.1 0)), (1, .int v1), (4, .int v4), (6, .int v6), (7, .int v7), (8, .int v8), (9, .int v9)] [.int (bI (!(decide (0 ≤ x26)))), .int (bI (!(decide (0 ≤ v8))))] g by
      refine r_if_ge 198 194 C dL_slots_191 rfl rfl (fun c27 => ?_) (fun c27 => ?_)
      · refine r_iconst (v := 0) 199 C dL_slots_198 rfl (by decide) ?_
        rw [decide_eq_true c27] at kk28
        exact kk28
      · refine r_iconst (v := 1) 195 C dL_slots_194 rfl (by decide) ?_
        refine r_goto 199 C dL_slots_195 rfl ?_
        rw [decide_eq_false c27] at kk28
        exact kk28
    refine r_icmp_ne 212 202 C dL_slots_199 rfl rfl (fun c29 => ?_) (fun c29 => ?_)
    · have hf := oin c29 hf
      refine r_iconst (v := 0) 213 C dL_slots_212 rfl (by decide) ?_
      have hf := Option.some.inj hf
      subst hf
      exact r_zret C hr hk0 false rfl dL_slots_213
    · have hf := oip c29 hf
      refine r_iload 204 C 10 dL_slots_202 rfl rfl ?_
      refine r_if_le 214 207 C dL_slots_204 rfl rfl (fun c30 => ?_) (fun c30 => ?_)
      · have hf := oip c30 hf
        refine r_sub [(0, .ref (G.2.1 0)), (1, .int v1), (2, .int x17), (3, .int x20), (4, .int v4), (5, .int x14), (6, .int v6), (7, .int v7), (8, .int v8), (9, .int v9), (10, .int x8), (11, .int x11)] [5, 6, 1, 0, 7, 2, 8, 9, 10, 11, 4, 3] rfl ?_
        exact t_L_slots_J214 C hr hk0 v1 x17 x20 v4 x14 v6 v7 v8 v9 x8 x11 g hk hr2 hf
      · have hf := oin c30 hf
        refine r_iload 209 C 11 dL_slots_207 rfl rfl ?_
        refine r_if_ne 214 212 C dL_slots_209 rfl rfl (fun c71 => ?_) (fun c71 => ?_)
        · have hf := oin c71 hf
          refine r_sub [(0, .ref (G.2.1 0)), (1, .int v1), (2, .int x17), (3, .int x20), (4, .int v4), (5, .int x14), (6, .int v6), (7, .int v7), (8, .int v8), (9, .int v9), (10, .int x8), (11, .int x11)] [5, 6, 1, 0, 7, 2, 8, 9, 10, 11, 4, 3] rfl ?_
          exact t_L_slots_J214 C hr hk0 v1 x17 x20 v4 x14 v6 v7 v8 v9 x8 x11 g hk hr2 hf
        · have hf := oip c71 hf
          refine r_iconst (v := 0) 213 C dL_slots_212 rfl (by decide) ?_
          have hf := Option.some.inj hf
          subst hf
          exact r_zret C hr hk0 false rfl dL_slots_213
set_option maxRecDepth 100000 in
set_option maxHeartbeats 4000000 in
theorem t_L_slots_L27 {p : Program} {l : Launch} {e : Env} {s : State} {m : MethodId} {args : Array Value} {below : List Frame} {meth : Method} {c : Code} {G : GG} {A : Nat → Prop} (C : KX p s m args c cL_slots 14 RL wsL_slots G shC A) (hr : meth.sig.returnType = (some .boolean)) (hk0 : meth.locks = false)  (v1 : Int32) (v4 : Int32) (g : Mem) {res : Bool} {k : Int32 → Int32 → Option Bool} (hk : ∀ (v2 : Int32) (v3 : Int32), k v2 v3 = some res → JJ p l e rm_L_slots s m args below meth c 14 G shC A (MQ below (k_Qi G shC A (bI res) g) args s 0 0 A) 456 [(0, .ref (G.2.1 0)), (1, .int v1), (2, .int v2), (3, .int v3)] [] g) : ∀ (n : Nat) (v2 : Int32) (v3 : Int32) (v5 : Int32) (v6 : Int32) (v7 : Int32), f_L_slots_L27 k v1 v4 g n v2 v3 v5 v6 v7 = some res → JJ p l e rm_L_slots s m args below meth c 14 G shC A (MQ below (k_Qi G shC A (bI res) g) args s 0 0 A) 27 [(0, .ref (G.2.1 0)), (1, .int v1), (2, .int v2), (3, .int v3), (4, .int v4), (5, .int v5), (6, .int v6), (7, .int v7)] [] g := by
  intro n
  induction n with
  | zero =>
    intro v2 v3 v5 v6 v7 hf
    rw [f_L_slots_L27] at hf
    cases hf
  | succ n ih =>
    intro v2 v3 v5 v6 v7 hf
    rw [f_L_slots_L27] at hf
    refine r_iload 29 C 7 dL_slots_27 rfl rfl ?_
    refine r_bipush (v := 17) 31 C dL_slots_29 rfl (by decide) ?_
    refine r_icmp_ge 456 34 C dL_slots_31 rfl rfl (fun c3 => ?_) (fun c3 => ?_)
    · have hf := oip c3 hf
      refine r_sub [(0, .ref (G.2.1 0)), (1, .int v1), (2, .int v2), (3, .int v3)] [0, 1, 2, 3] rfl ?_
      exact hk _ _ hf
    · have hf := oin c3 hf
      refine r_aload_n 35 C 0 dL_slots_34 rfl rfl ?_
      refine r_iload 37 C 7 dL_slots_35 rfl rfl ?_
      refine r_iconst (v := 0) 38 C dL_slots_37 rfl (by decide) ?_
      obtain ⟨x4, hx4, hf⟩ := ob hf
      refine r_Vi (As := [.int v7, .int 0]) 41 C shC_0 rfl (c_X4_slot l G A v7 0 g _ hx4) (cwV 2 C.1.2.2.2.2 gL_slots_X4_slot rfl rfl rfl hd_X4_slot ⟨Nat.le_of_ble_eq_true rfl, Nat.le_of_ble_eq_true rfl⟩) rfl rfl (Nat.le_of_ble_eq_true rfl) dL_slots_38 rfl ?_
      refine r_istore 43 C [(8, .int x4), (0, .ref (G.2.1 0)), (1, .int v1), (2, .int v2), (3, .int v3), (4, .int v4), (5, .int v5), (6, .int v6), (7, .int v7)] dL_slots_41 rfl rfl (by decide) rfl ?_
      refine r_iload 45 C 8 dL_slots_43 rfl rfl ?_
      refine r_iload_n 46 C 2 dL_slots_45 rfl rfl ?_
      refine r_iconst (v := 3) 47 C dL_slots_46 rfl (by decide) ?_
      refine r_iadd 48 C dL_slots_47 rfl ?_
      suffices kk6 : JJ p l e rm_L_slots s m args below meth c 14 G shC A (MQ below (k_Qi G shC A (bI res) g) args s 0 0 A) 56 [(8, .int x4), (0, .ref (G.2.1 0)), (1, .int v1), (2, .int v2), (3, .int v3), (4, .int v4), (5, .int v5), (6, .int v6), (7, .int v7)] [.int (bI (!(decide ((v1 + 3) < v7))))] g by
        refine r_icmp_gt 55 51 C dL_slots_48 rfl rfl (fun c5 => ?_) (fun c5 => ?_)
        · refine r_iconst (v := 0) 56 C dL_slots_55 rfl (by decide) ?_
          rw [decide_eq_true c5] at kk6
          exact kk6
        · refine r_iconst (v := 1) 52 C dL_slots_51 rfl (by decide) ?_
          refine r_goto 56 C dL_slots_52 rfl ?_
          rw [decide_eq_false c5] at kk6
          exact kk6
      refine r_istore 58 C [(9, .int (bI (!(decide ((v1 + 3) < v7))))), (8, .int x4), (0, .ref (G.2.1 0)), (1, .int v1), (2, .int v2), (3, .int v3), (4, .int v4), (5, .int v5), (6, .int v6), (7, .int v7)] dL_slots_56 rfl rfl (by decide) rfl ?_
      refine r_iload 60 C 9 dL_slots_58 rfl rfl ?_
      refine r_iconst (v := 3) 61 C dL_slots_60 rfl (by decide) ?_
      refine r_icmp_le 92 64 C dL_slots_61 rfl rfl (fun c7 => ?_) (fun c7 => ?_)
      · have hf := oip c7 hf
        refine r_sub [(0, .ref (G.2.1 0)), (1, .int v1), (2, .int v2), (3, .int v3), (4, .int v4), (5, .int v5), (6, .int v6), (7, .int v7), (8, .int x4), (9, .int (bI (!(decide ((v1 + 3) < v7)))))] [2, 3, 4, 5, 6, 7, 8, 9, 1, 0] rfl ?_
        exact t_L_slots_J92 C hr hk0 v1 v2 v3 v4 v5 v6 v7 x4 (bI (!(decide ((v1 + 3) < v7)))) g hk ih hf
      · have hf := oin c7 hf
        refine r_aload_n 65 C 2 dL_slots_64 rfl rfl ?_
        refine r_iload 67 C 9 dL_slots_65 rfl rfl ?_
        refine r_iconst (v := 3) 68 C dL_slots_67 rfl (by decide) ?_
        refine r_isub 69 C dL_slots_68 rfl ?_
        refine r_iconst (v := 0) 70 C dL_slots_69 rfl (by decide) ?_
        obtain ⟨x72, hx72, hf⟩ := ob hf
        refine r_Vi (As := [.int (v7 - 3), .int 0]) 73 C shC_0 rfl (c_X4_slot l G A (v7 - 3) 0 g _ hx72) (cwV 2 C.1.2.2.2.2 gL_slots_X4_slot rfl rfl rfl hd_X4_slot ⟨Nat.le_of_ble_eq_true rfl, Nat.le_of_ble_eq_true rfl⟩) rfl rfl (Nat.le_of_ble_eq_true rfl) dL_slots_70 rfl ?_
        refine r_bipush (v := 100) 75 C dL_slots_73 rfl (by decide) ?_
        refine r_icmp_le 92 78 C dL_slots_75 rfl rfl (fun c73 => ?_) (fun c73 => ?_)
        · have hf := oip c73 hf
          refine r_sub [(0, .ref (G.2.1 0)), (1, .int v1), (2, .int v2), (3, .int v3), (4, .int v4), (5, .int v5), (6, .int v6), (7, .int v7), (8, .int x4), (9, .int (bI (!(decide ((v1 + 3) < v7)))))] [2, 3, 4, 5, 6, 7, 8, 9, 1, 0] rfl ?_
          exact t_L_slots_J92 C hr hk0 v1 v2 v3 v4 v5 v6 v7 x4 (bI (!(decide ((v1 + 3) < v7)))) g hk ih hf
        · have hf := oin c73 hf
          refine r_aload_n 79 C 2 dL_slots_78 rfl rfl ?_
          refine r_iload 81 C 9 dL_slots_79 rfl rfl ?_
          refine r_iconst (v := 3) 82 C dL_slots_81 rfl (by decide) ?_
          refine r_isub 83 C dL_slots_82 rfl ?_
          refine r_iconst (v := 0) 84 C dL_slots_83 rfl (by decide) ?_
          obtain ⟨x74, hx74, hf⟩ := ob hf
          refine r_Vi (As := [.int (v7 - 3), .int 0]) 87 C shC_0 rfl (c_X4_slot l G A (v7 - 3) 0 g _ hx74) (cwV 2 C.1.2.2.2.2 gL_slots_X4_slot rfl rfl rfl hd_X4_slot ⟨Nat.le_of_ble_eq_true rfl, Nat.le_of_ble_eq_true rfl⟩) rfl rfl (Nat.le_of_ble_eq_true rfl) dL_slots_84 rfl ?_
          refine r_bipush (v := 100) 89 C dL_slots_87 rfl (by decide) ?_
          refine r_isub 90 C dL_slots_89 rfl ?_
          obtain ⟨x75, hx75, hf⟩ := ol hf
          refine r_istore 92 C [(6, .int x75), (9, .int (bI (!(decide ((v1 + 3) < v7))))), (8, .int x4), (0, .ref (G.2.1 0)), (1, .int v1), (2, .int v2), (3, .int v3), (4, .int v4), (5, .int v5), (7, .int v7)] dL_slots_90 rfl hx75 (by decide) rfl ?_
          refine r_sub [(0, .ref (G.2.1 0)), (1, .int v1), (2, .int v2), (3, .int v3), (4, .int v4), (5, .int v5), (6, .int x75), (7, .int v7), (8, .int x4), (9, .int (bI (!(decide ((v1 + 3) < v7)))))] [3, 4, 5, 6, 7, 8, 0, 9, 2, 1] rfl ?_
          exact t_L_slots_J92 C hr hk0 v1 v2 v3 v4 v5 x75 v7 x4 (bI (!(decide ((v1 + 3) < v7)))) g hk ih hf
set_option maxRecDepth 100000 in
set_option maxHeartbeats 4000000 in
theorem t_L_slots_J496 {p : Program} {l : Launch} {e : Env} {s : State} {m : MethodId} {args : Array Value} {below : List Frame} {meth : Method} {c : Code} {G : GG} {A : Nat → Prop} (C : KX p s m args c cL_slots 14 RL wsL_slots G shC A) (hr : meth.sig.returnType = (some .boolean)) (hk0 : meth.locks = false)  (v1 : Int32) (s0 : Int32) (s1 : Int32) (g : Mem) {res : Bool} (hf : f_L_slots_J496 v1 s0 s1 g = some res) : JJ p l e rm_L_slots s m args below meth c 14 G shC A (MQ below (k_Qi G shC A (bI res) g) args s 0 0 A) 496 [(0, .ref (G.2.1 0)), (1, .int v1)] [.int s0, .int s1] g := by
  rw [f_L_slots_J496] at hf
  refine r_icmp_ne 535 499 C dL_slots_496 rfl rfl (fun c84 => ?_) (fun c84 => ?_)
  · have hf := oin c84 hf
    refine r_iconst (v := 0) 536 C dL_slots_535 rfl (by decide) ?_
    have hf := Option.some.inj hf
    subst hf
    exact r_zret C hr hk0 false rfl dL_slots_536
  · have hf := oip c84 hf
    refine r_aload_n 500 C 0 dL_slots_499 rfl rfl ?_
    refine r_iconst (v := 2) 501 C dL_slots_500 rfl (by decide) ?_
    obtain ⟨x85, hx85, hf⟩ := ob hf
    refine r_Vi (As := [.int 2]) 504 C shC_0 rfl (c_X4_count l G A 2 g _ hx85) (cwV 1 C.1.2.2.2.2 gL_slots_X4_count rfl rfl rfl hd_X4_count ⟨Nat.le_of_ble_eq_true rfl, Nat.le_of_ble_eq_true rfl⟩) rfl rfl (Nat.le_of_ble_eq_true rfl) dL_slots_501 rfl ?_
    refine r_iload_n 505 C 1 dL_slots_504 rfl rfl ?_
    refine r_icmp_gt 535 508 C dL_slots_505 rfl rfl (fun c86 => ?_) (fun c86 => ?_)
    · have hf := oip c86 hf
      refine r_iconst (v := 0) 536 C dL_slots_535 rfl (by decide) ?_
      have hf := Option.some.inj hf
      subst hf
      exact r_zret C hr hk0 false rfl dL_slots_536
    · have hf := oin c86 hf
      refine r_aload_n 509 C 0 dL_slots_508 rfl rfl ?_
      refine r_bipush (v := 17) 511 C dL_slots_509 rfl (by decide) ?_
      refine r_iconst (v := 0) 512 C dL_slots_511 rfl (by decide) ?_
      obtain ⟨x87, hx87, hf⟩ := ob hf
      refine r_Vi (As := [.int 17, .int 0]) 515 C shC_0 rfl (c_X4_slot l G A 17 0 g _ hx87) (cwV 2 C.1.2.2.2.2 gL_slots_X4_slot rfl rfl rfl hd_X4_slot ⟨Nat.le_of_ble_eq_true rfl, Nat.le_of_ble_eq_true rfl⟩) rfl rfl (Nat.le_of_ble_eq_true rfl) dL_slots_512 rfl ?_
      refine r_iconst (v := (-1)) 516 C dL_slots_515 rfl (by decide) ?_
      refine r_icmp_ne 535 519 C dL_slots_516 rfl rfl (fun c88 => ?_) (fun c88 => ?_)
      · have hf := oin c88 hf
        refine r_iconst (v := 0) 536 C dL_slots_535 rfl (by decide) ?_
        have hf := Option.some.inj hf
        subst hf
        exact r_zret C hr hk0 false rfl dL_slots_536
      · have hf := oip c88 hf
        refine r_aload_n 520 C 0 dL_slots_519 rfl rfl ?_
        refine r_iconst (v := 1) 521 C dL_slots_520 rfl (by decide) ?_
        refine r_bipush (v := 6) 523 C dL_slots_521 rfl (by decide) ?_
        obtain ⟨x89, hx89, hf⟩ := ob hf
        refine r_Vi (As := [.int 1, .int 6]) 526 C shC_0 rfl (c_X4_slot l G A 1 6 g _ hx89) (cwV 2 C.1.2.2.2.2 gL_slots_X4_slot rfl rfl rfl hd_X4_slot ⟨Nat.le_of_ble_eq_true rfl, Nat.le_of_ble_eq_true rfl⟩) rfl rfl (Nat.le_of_ble_eq_true rfl) dL_slots_523 rfl ?_
        refine r_bipush (v := (-2)) 528 C dL_slots_526 rfl (by decide) ?_
        refine r_icmp_ne 535 531 C dL_slots_528 rfl rfl (fun c90 => ?_) (fun c90 => ?_)
        · have hf := oin c90 hf
          refine r_iconst (v := 0) 536 C dL_slots_535 rfl (by decide) ?_
          have hf := Option.some.inj hf
          subst hf
          exact r_zret C hr hk0 false rfl dL_slots_536
        · have hf := oip c90 hf
          refine r_iconst (v := 1) 532 C dL_slots_531 rfl (by decide) ?_
          refine r_goto 536 C dL_slots_532 rfl ?_
          have hf := Option.some.inj hf
          subst hf
          exact r_zret C hr hk0 true rfl dL_slots_536
set_option maxRecDepth 100000 in
set_option maxHeartbeats 4000000 in
theorem c_L_slots (l : Launch) (G : GG) (A : Nat → Prop)   (g : Mem) (res : Bool) (hf : f_L_slots  g = some res) : k_Mi l yL_slots wsL_slots rm_L_slots G shC A [.ref (G.2.1 0)] g (bI res) g := by
  refine k_ofi (cc := cL_slots) (nL := 14) (own := RL) (by decide +kernel) rfl rfl (by simp [lg_sl, Value.category]) ⟨rfl, rfl⟩ [(0, .ref (G.2.1 0))] rfl ?_
  intro p e s m args below meth c C hr hk0
  rw [f_L_slots] at hf
  refine r_aload_n 1 C 0 dL_slots_0 rfl rfl ?_
  refine r_iconst (v := 0) 2 C dL_slots_1 rfl (by decide) ?_
  obtain ⟨x1, hx1, hf⟩ := ob hf
  refine r_Vi (As := [.int 0]) 5 C shC_0 rfl (c_X4_count l G A 0 g _ hx1) (cwV 1 C.1.2.2.2.2 gL_slots_X4_count rfl rfl rfl hd_X4_count ⟨Nat.le_of_ble_eq_true rfl, Nat.le_of_ble_eq_true rfl⟩) rfl rfl (Nat.le_of_ble_eq_true rfl) dL_slots_2 rfl ?_
  refine r_istore_n 6 C [(1, .int x1), (0, .ref (G.2.1 0))] dL_slots_5 rfl rfl (by decide) rfl ?_
  refine r_iconst (v := 0) 7 C dL_slots_6 rfl (by decide) ?_
  refine r_istore_n 8 C [(2, .int 0), (1, .int x1), (0, .ref (G.2.1 0))] dL_slots_7 rfl rfl (by decide) rfl ?_
  refine r_iconst (v := 0) 9 C dL_slots_8 rfl (by decide) ?_
  refine r_istore_n 10 C [(3, .int 0), (2, .int 0), (1, .int x1), (0, .ref (G.2.1 0))] dL_slots_9 rfl rfl (by decide) rfl ?_
  refine r_aload_n 11 C 3 dL_slots_10 rfl rfl ?_
  refine r_iconst (v := 3) 12 C dL_slots_11 rfl (by decide) ?_
  obtain ⟨x2, hx2, hf⟩ := ob hf
  refine r_Vi (As := [.int 3]) 15 C shC_0 rfl (c_X4_count l G A 3 g _ hx2) (cwV 1 C.1.2.2.2.2 gL_slots_X4_count rfl rfl rfl hd_X4_count ⟨Nat.le_of_ble_eq_true rfl, Nat.le_of_ble_eq_true rfl⟩) rfl rfl (Nat.le_of_ble_eq_true rfl) dL_slots_12 rfl ?_
  refine r_istore 17 C [(4, .int x2), (3, .int 0), (2, .int 0), (1, .int x1), (0, .ref (G.2.1 0))] dL_slots_15 rfl rfl (by decide) rfl ?_
  refine r_iconst (v := 1) 18 C dL_slots_17 rfl (by decide) ?_
  refine r_istore 20 C [(5, .int 1), (4, .int x2), (3, .int 0), (2, .int 0), (1, .int x1), (0, .ref (G.2.1 0))] dL_slots_18 rfl rfl (by decide) rfl ?_
  refine r_bipush (v := 7) 22 C dL_slots_20 rfl (by decide) ?_
  refine r_istore 24 C [(6, .int 7), (5, .int 1), (4, .int x2), (3, .int 0), (2, .int 0), (1, .int x1), (0, .ref (G.2.1 0))] dL_slots_22 rfl rfl (by decide) rfl ?_
  refine r_iconst (v := 1) 25 C dL_slots_24 rfl (by decide) ?_
  refine r_istore 27 C [(7, .int 1), (6, .int 7), (5, .int 1), (4, .int x2), (3, .int 0), (2, .int 0), (1, .int x1), (0, .ref (G.2.1 0))] dL_slots_25 rfl rfl (by decide) rfl ?_
  refine r_sub [(0, .ref (G.2.1 0)), (1, .int x1), (2, .int 0), (3, .int 0), (4, .int x2), (5, .int 1), (6, .int 7), (7, .int 1)] [7, 6, 5, 4, 3, 2, 1, 0] rfl ?_
  refine t_L_slots_L27 C hr hk0 x1 x2 g (fun x76 x77 hf => ?_) fuel0 _ _ _ _ _ hf
  refine r_aload_n 457 C 0 dL_slots_456 rfl rfl ?_
  refine r_iconst (v := 1) 458 C dL_slots_457 rfl (by decide) ?_
  obtain ⟨x78, hx78, hf⟩ := ob hf
  refine r_Vi (As := [.int 1]) 461 C shC_0 rfl (c_X4_count l G A 1 g _ hx78) (cwV 1 C.1.2.2.2.2 gL_slots_X4_count rfl rfl rfl hd_X4_count ⟨Nat.le_of_ble_eq_true rfl, Nat.le_of_ble_eq_true rfl⟩) rfl rfl (Nat.le_of_ble_eq_true rfl) dL_slots_458 rfl ?_
  refine r_iload_n 462 C 2 dL_slots_461 rfl rfl ?_
  refine r_icmp_ne 535 465 C dL_slots_462 rfl rfl (fun c79 => ?_) (fun c79 => ?_)
  · have hf := oin c79 hf
    refine r_iconst (v := 0) 536 C dL_slots_535 rfl (by decide) ?_
    have hf := Option.some.inj hf
    subst hf
    exact r_zret C hr hk0 false rfl dL_slots_536
  · have hf := oip c79 hf
    refine r_aload_n 466 C 0 dL_slots_465 rfl rfl ?_
    refine r_bipush (v := 8) 468 C dL_slots_466 rfl (by decide) ?_
    obtain ⟨x80, hx80, hf⟩ := ob hf
    refine r_Vi (As := [.int 8]) 471 C shC_0 rfl (c_X4_count l G A 8 g _ hx80) (cwV 1 C.1.2.2.2.2 gL_slots_X4_count rfl rfl rfl hd_X4_count ⟨Nat.le_of_ble_eq_true rfl, Nat.le_of_ble_eq_true rfl⟩) rfl rfl (Nat.le_of_ble_eq_true rfl) dL_slots_468 rfl ?_
    refine r_iload_n 472 C 3 dL_slots_471 rfl rfl ?_
    refine r_icmp_ne 535 475 C dL_slots_472 rfl rfl (fun c81 => ?_) (fun c81 => ?_)
    · have hf := oin c81 hf
      refine r_iconst (v := 0) 536 C dL_slots_535 rfl (by decide) ?_
      have hf := Option.some.inj hf
      subst hf
      exact r_zret C hr hk0 false rfl dL_slots_536
    · have hf := oip c81 hf
      refine r_aload_n 476 C 0 dL_slots_475 rfl rfl ?_
      refine r_iconst (v := 5) 477 C dL_slots_476 rfl (by decide) ?_
      obtain ⟨x82, hx82, hf⟩ := ob hf
      refine r_Vi (As := [.int 5]) 480 C shC_0 rfl (c_X4_count l G A 5 g _ hx82) (cwV 1 C.1.2.2.2.2 gL_slots_X4_count rfl rfl rfl hd_X4_count ⟨Nat.le_of_ble_eq_true rfl, Nat.le_of_ble_eq_true rfl⟩) rfl rfl (Nat.le_of_ble_eq_true rfl) dL_slots_477 rfl ?_
      refine r_iload_n 481 C 1 dL_slots_480 rfl rfl ?_
      refine r_iconst (v := 3) 482 C dL_slots_481 rfl (by decide) ?_
      refine r_iadd 483 C dL_slots_482 rfl ?_
      refine r_bipush (v := 16) 485 C dL_slots_483 rfl (by decide) ?_
      refine r_icmp_ge 494 488 C dL_slots_485 rfl rfl (fun c83 => ?_) (fun c83 => ?_)
      · have hf := oip c83 hf
        refine r_bipush (v := 16) 496 C dL_slots_494 rfl (by decide) ?_
        refine r_sub [(0, .ref (G.2.1 0)), (1, .int x1)] [0, 1] rfl ?_
        exact t_L_slots_J496 C hr hk0 x1 16 x82 g hf
      · have hf := oin c83 hf
        refine r_iload_n 489 C 1 dL_slots_488 rfl rfl ?_
        refine r_iconst (v := 3) 490 C dL_slots_489 rfl (by decide) ?_
        refine r_iadd 491 C dL_slots_490 rfl ?_
        refine r_goto 496 C dL_slots_491 rfl ?_
        refine r_sub [(0, .ref (G.2.1 0)), (1, .int x1)] [0, 1] rfl ?_
        exact t_L_slots_J496 C hr hk0 x1 (x1 + 3) x82 g hf
