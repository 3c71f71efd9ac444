def rm_L_proposers : Room := { frames := 5, cells := 0, slots := 0, locals := 109 }
theorem hd_L_proposers : yL_proposers.cls ≠ "java/lang/invoke/MethodHandle" ∧ yL_proposers.cls ≠ "java/lang/invoke/VarHandle" ∧ (parseMethodDescriptor yL_proposers.desc).map (fun d => d.parameters.length) = some 1 := by decide +kernel
set_option maxRecDepth 100000 in
set_option maxHeartbeats 4000000 in
theorem t_L_proposers_J82 {p : Program} {l : Launch} {e : Env} {s : State} {m : MethodId} {args : Array Value} {below : List Frame} {meth : Method} {c : Code} {G : GG} {A : Nat → Prop} (C : KX p s m args c cL_proposers 10 RL wsL_proposers G shC A) (hr : meth.sig.returnType = (some .boolean)) (hk0 : meth.locks = false)  (v1 : Int32) (v2 : Int32) (v3 : Int32) (v4 : Int32) (v5 : Int32) (g : Mem) {res : Bool} {k : Option Bool} {r : Int32 → Option Bool} (hk : k  = some res → JJ p l e rm_L_proposers s m args below meth c 10 G shC A (MQ below (k_Qi G shC A (bI res) g) args s 0 0 A) 88 [(0, .ref (G.2.1 0)), (1, .int v1), (2, .int v2), (3, .int v3), (4, .int v4)] [] g) (hr2 : ∀ (v5 : Int32), r v5 = some res → JJ p l e rm_L_proposers s m args below meth c 10 G shC A (MQ below (k_Qi G shC A (bI res) g) args s 0 0 A) 52 [(0, .ref (G.2.1 0)), (1, .int v1), (2, .int v2), (3, .int v3), (4, .int v4), (5, .int v5)] [] g) (hf : f_L_proposers_J82 k r v1 v2 v3 v4 v5 g = some res) : JJ p l e rm_L_proposers s m args below meth c 10 G shC A (MQ below (k_Qi G shC A (bI res) g) args s 0 0 A) 82 [(0, .ref (G.2.1 0)), (1, .int v1), (2, .int v2), (3, .int v3), (4, .int v4), (5, .int v5)] [] g := by
  rw [f_L_proposers_J82] at hf
  obtain ⟨x8, hx8, hf⟩ := ol hf
  refine r_iinc 85 C 5 x8 [(5, .int x8), (0, .ref (G.2.1 0)), (1, .int v1), (2, .int v2), (3, .int v3), (4, .int v4)] dL_proposers_82 rfl rfl hx8.symm (by decide) rfl ?_
  refine r_goto 52 C dL_proposers_85 rfl ?_
  refine r_sub [(0, .ref (G.2.1 0)), (1, .int v1), (2, .int v2), (3, .int v3), (4, .int v4), (5, .int x8)] [1, 2, 3, 4, 5, 0] rfl ?_
  exact hr2 _ hf
set_option maxRecDepth 100000 in
set_option maxHeartbeats 4000000 in
theorem t_L_proposers_L52 {p : Program} {l : Launch} {e : Env} {s : State} {m : MethodId} {args : Array Value} {below : List Frame} {meth : Method} {c : Code} {G : GG} {A : Nat → Prop} (C : KX p s m args c cL_proposers 10 RL wsL_proposers G shC A) (hr : meth.sig.returnType = (some .boolean)) (hk0 : meth.locks = false)  (v1 : Int32) (v2 : Int32) (v3 : Int32) (v4 : Int32) (g : Mem) {res : Bool} {k : Option Bool} (hk : k = some res → JJ p l e rm_L_proposers s m args below meth c 10 G shC A (MQ below (k_Qi G shC A (bI res) g) args s 0 0 A) 88 [(0, .ref (G.2.1 0)), (1, .int v1), (2, .int v2), (3, .int v3), (4, .int v4)] [] g) : ∀ (n : Nat) (v5 : Int32), f_L_proposers_L52 k v1 v2 v3 v4 g n v5 = some res → JJ p l e rm_L_proposers s m args below meth c 10 G shC A (MQ below (k_Qi G shC A (bI res) g) args s 0 0 A) 52 [(0, .ref (G.2.1 0)), (1, .int v1), (2, .int v2), (3, .int v3), (4, .int v4), (5, .int v5)] [] g := by
  intro n
  induction n with
  | zero =>
    intro v5 hf
    rw [f_L_proposers_L52] at hf
    cases hf
  | succ n ih =>
    intro v5 hf
    rw [f_L_proposers_L52] at hf
    refine r_iload 54 C 5 dL_proposers_52 rfl rfl ?_
    refine r_bipush (v := 6) 56 C dL_proposers_54 rfl (by decide) ?_
    refine r_icmp_ge 88 59 C dL_proposers_56 rfl rfl (fun c6 => ?_) (fun c6 => ?_)
    · have hf := oip c6 hf
      refine r_sub [(0, .ref (G.2.1 0)), (1, .int v1), (2, .int v2), (3, .int v3), (4, .int v4)] [0, 1, 2, 3, 4] rfl ?_
      exact hk  hf
    · have hf := oin c6 hf
      refine r_iload_n 60 C 3 dL_proposers_59 rfl rfl ?_
      refine r_iload 62 C 5 dL_proposers_60 rfl rfl ?_
      refine r_ishr 63 C dL_proposers_62 rfl ?_
      refine r_iconst (v := 1) 64 C dL_proposers_63 rfl (by decide) ?_
      refine r_iand 65 C dL_proposers_64 rfl ?_
      refine r_iconst (v := 1) 66 C dL_proposers_65 rfl (by decide) ?_
      refine r_icmp_ne 82 69 C dL_proposers_66 rfl rfl (fun c7 => ?_) (fun c7 => ?_)
      · have hf := oin c7 hf
        refine r_sub [(0, .ref (G.2.1 0)), (1, .int v1), (2, .int v2), (3, .int v3), (4, .int v4), (5, .int v5)] [0, 1, 2, 3, 4, 5] rfl ?_
        exact t_L_proposers_J82 C hr hk0 v1 v2 v3 v4 v5 g hk ih hf
      · have hf := oip c7 hf
        refine r_aload_n 70 C 0 dL_proposers_69 rfl rfl ?_
        refine r_iload 72 C 5 dL_proposers_70 rfl rfl ?_
        refine r_iconst (v := 1) 73 C dL_proposers_72 rfl (by decide) ?_
        obtain ⟨x9, hx9, hf⟩ := ob hf
        refine r_Vi (As := [.int v5, .int 1]) 76 C shC_0 rfl (c_X4_acceptor l G A v5 1 g _ hx9) (cwV 2 C.1.2.2.2.2 gL_proposers_X4_acceptor rfl rfl rfl hd_X4_acceptor ⟨Nat.le_of_ble_eq_true rfl, Nat.le_of_ble_eq_true rfl⟩) rfl rfl (Nat.le_of_ble_eq_true rfl) dL_proposers_73 rfl ?_
        refine r_iload_n 77 C 2 dL_proposers_76 rfl rfl ?_
        refine r_icmp_ge 82 80 C dL_proposers_77 rfl rfl (fun c10 => ?_) (fun c10 => ?_)
        · have hf := oip c10 hf
          refine r_sub [(0, .ref (G.2.1 0)), (1, .int v1), (2, .int v2), (3, .int v3), (4, .int v4), (5, .int v5)] [0, 1, 2, 3, 4, 5] rfl ?_
          exact t_L_proposers_J82 C hr hk0 v1 v2 v3 v4 v5 g hk ih hf
        · have hf := oin c10 hf
          refine r_iconst (v := 0) 81 C dL_proposers_80 rfl (by decide) ?_
          have hf := Option.some.inj hf
          subst hf
          exact r_zret C hr hk0 false rfl dL_proposers_81
set_option maxRecDepth 100000 in
set_option maxHeartbeats 4000000 in
theorem t_L_proposers_J286 {p : Program} {l : Launch} {e : Env} {s : State} {m : MethodId} {args : Array Value} {below : List Frame} {meth : Method} {c : Code} {G : GG} {A : Nat → Prop} (C : KX p s m args c cL_proposers 10 RL wsL_proposers G shC A) (hr : meth.sig.returnType = (some .boolean)) (hk0 : meth.locks = false)  (v1 : Int32) (v2 : Int32) (v3 : Int32) (v4 : Int32) (v5 : Int32) (g : Mem) {res : Bool} {k : Int32 → Option Bool} {r : Int32 → Int32 → Option Bool} (hk : ∀ (v4 : Int32), k v4 = some res → JJ p l e rm_L_proposers s m args below meth c 10 G shC A (MQ below (k_Qi G shC A (bI res) g) args s 0 0 A) 292 [(0, .ref (G.2.1 0)), (1, .int v1), (4, .int v4)] [] g) (hr2 : ∀ (v4 : Int32) (v5 : Int32), r v4 v5 = some res → JJ p l e rm_L_proposers s m args below meth c 10 G shC A (MQ below (k_Qi G shC A (bI res) g) args s 0 0 A) 91 [(0, .ref (G.2.1 0)), (1, .int v1), (2, .int v2), (3, .int v3), (4, .int v4), (5, .int v5)] [] g) (hf : f_L_proposers_J286 k r v1 v2 v3 v4 v5 g = some res) : JJ p l e rm_L_proposers s m args below meth c 10 G shC A (MQ below (k_Qi G shC A (bI res) g) args s 0 0 A) 286 [(0, .ref (G.2.1 0)), (1, .int v1), (2, .int v2), (3, .int v3), (4, .int v4), (5, .int v5)] [] g := by
  rw [f_L_proposers_J286] at hf
  obtain ⟨x30, hx30, hf⟩ := ol hf
  refine r_iinc 289 C 5 x30 [(5, .int x30), (0, .ref (G.2.1 0)), (1, .int v1), (2, .int v2), (3, .int v3), (4, .int v4)] dL_proposers_286 rfl rfl hx30.symm (by decide) rfl ?_
  refine r_goto 91 C dL_proposers_289 rfl ?_
  refine r_sub [(0, .ref (G.2.1 0)), (1, .int v1), (2, .int v2), (3, .int v3), (4, .int v4), (5, .int x30)] [1, 2, 3, 4, 5, 0] rfl ?_
  exact hr2 _ _ hf
set_option maxRecDepth 100000 in
set_option maxHeartbeats 4000000 in
theorem t_L_proposers_J246 {p : Program} {l : Launch} {e : Env} {s : State} {m : MethodId} {args : Array Value} {below : List Frame} {meth : Method} {c : Code} {G : GG} {A : Nat → Prop} (C : KX p s m args c cL_proposers 10 RL wsL_proposers G shC A) (hr : meth.sig.returnType = (some .boolean)) (hk0 : meth.locks = false)  (v1 : Int32) (v2 : Int32) (v3 : Int32) (v4 : Int32) (v5 : Int32) (v6 : Int32) (g : Mem) {res : Bool} {k : Int32 → Option Bool} {r : Int32 → Int32 → Option Bool} (hk : ∀ (v4 : Int32), k v4 = some res → JJ p l e rm_L_proposers s m args below meth c 10 G shC A (MQ below (k_Qi G shC A (bI res) g) args s 0 0 A) 292 [(0, .ref (G.2.1 0)), (1, .int v1), (4, .int v4)] [] g) (hr2 : ∀ (v4 : Int32) (v5 : Int32), r v4 v5 = some res → JJ p l e rm_L_proposers s m args below meth c 10 G shC A (MQ below (k_Qi G shC A (bI res) g) args s 0 0 A) 91 [(0, .ref (G.2.1 0)), (1, .int v1), (2, .int v2), (3, .int v3), (4, .int v4), (5, .int v5)] [] g) (hf : f_L_proposers_J246 k r v1 v2 v3 v4 v5 v6 g = some res) : JJ p l e rm_L_proposers s m args below meth c 10 G shC A (MQ below (k_Qi G shC A (bI res) g) args s 0 0 A) 246 [(0, .ref (G.2.1 0)), (1, .int v1), (2, .int v2), (3, .int v3), (4, .int v4), (5, .int v5), (6, .int v6)] [] g := by
  rw [f_L_proposers_J246] at hf
  refine r_iload 248 C 6 dL_proposers_246 rfl rfl ?_
  refine r_if_le 286 251 C dL_proposers_248 rfl rfl (fun c29 => ?_) (fun c29 => ?_)
  · have hf := oip c29 hf
    refine r_sub [(0, .ref (G.2.1 0)), (1, .int v1), (2, .int v2), (3, .int v3), (4, .int v4), (5, .int v5)] [0, 1, 2, 3, 4, 5] rfl ?_
    exact t_L_proposers_J286 C hr hk0 v1 v2 v3 v4 v5 g hk hr2 hf
  · have hf := oin c29 hf
    refine r_aload_n 252 C 0 dL_proposers_251 rfl rfl ?_
    refine r_iload 254 C 5 dL_proposers_252 rfl rfl ?_
    refine r_iconst (v := 0) 255 C dL_proposers_254 rfl (by decide) ?_
    obtain ⟨x31, hx31, hf⟩ := ob hf
    refine r_Vi (As := [.int v5, .int 0]) 258 C shC_0 rfl (c_X4_slot l G A v5 0 g _ hx31) (cwV 2 C.1.2.2.2.2 gL_proposers_X4_slot rfl rfl rfl hd_X4_slot ⟨Nat.le_of_ble_eq_true rfl, Nat.le_of_ble_eq_true rfl⟩) rfl rfl (Nat.le_of_ble_eq_true rfl) dL_proposers_255 rfl ?_
    refine r_if_le 286 261 C dL_proposers_258 rfl rfl (fun c32 => ?_) (fun c32 => ?_)
    · have hf := oip c32 hf
      refine r_sub [(0, .ref (G.2.1 0)), (1, .int v1), (2, .int v2), (3, .int v3), (4, .int v4), (5, .int v5)] [0, 1, 2, 3, 4, 5] rfl ?_
      exact t_L_proposers_J286 C hr hk0 v1 v2 v3 v4 v5 g hk hr2 hf
    · have hf := oin c32 hf
      refine r_iload_n 262 C 2 dL_proposers_261 rfl rfl ?_
      refine r_aload_n 263 C 0 dL_proposers_262 rfl rfl ?_
      refine r_iload 265 C 5 dL_proposers_263 rfl rfl ?_
      refine r_iconst (v := 1) 266 C dL_proposers_265 rfl (by decide) ?_
      obtain ⟨x33, hx33, hf⟩ := ob hf
      refine r_Vi (As := [.int v5, .int 1]) 269 C shC_0 rfl (c_X4_slot l G A v5 1 g _ hx33) (cwV 2 C.1.2.2.2.2 gL_proposers_X4_slot rfl rfl rfl hd_X4_slot ⟨Nat.le_of_ble_eq_true rfl, Nat.le_of_ble_eq_true rfl⟩) rfl rfl (Nat.le_of_ble_eq_true rfl) dL_proposers_266 rfl ?_
      refine r_icmp_le 286 272 C dL_proposers_269 rfl rfl (fun c34 => ?_) (fun c34 => ?_)
      · have hf := oip c34 hf
        refine r_sub [(0, .ref (G.2.1 0)), (1, .int v1), (2, .int v2), (3, .int v3), (4, .int v4), (5, .int v5)] [0, 1, 2, 3, 4, 5] rfl ?_
        exact t_L_proposers_J286 C hr hk0 v1 v2 v3 v4 v5 g hk hr2 hf
      · have hf := oin c34 hf
        refine r_iload 274 C 6 dL_proposers_272 rfl rfl ?_
        refine r_aload_n 275 C 0 dL_proposers_274 rfl rfl ?_
        refine r_iload 277 C 5 dL_proposers_275 rfl rfl ?_
        refine r_iconst (v := 0) 278 C dL_proposers_277 rfl (by decide) ?_
        obtain ⟨x35, hx35, hf⟩ := ob hf
        refine r_Vi (As := [.int v5, .int 0]) 281 C shC_0 rfl (c_X4_slot l G A v5 0 g _ hx35) (cwV 2 C.1.2.2.2.2 gL_proposers_X4_slot rfl rfl rfl hd_X4_slot ⟨Nat.le_of_ble_eq_true rfl, Nat.le_of_ble_eq_true rfl⟩) rfl rfl (Nat.le_of_ble_eq_true rfl) dL_proposers_278 rfl ?_
        refine r_icmp_eq 286 284 C dL_proposers_281 rfl rfl (fun c36 => ?_) (fun c36 => ?_)
        · have hf := oip c36 hf
          refine r_sub [(0, .ref (G.2.1 0)), (1, .int v1), (2, .int v2), (3, .int v3), (4, .int v4), (5, .int v5)] [0, 1, 2, 3, 4, 5] rfl ?_
          exact t_L_proposers_J286 C hr hk0 v1 v2 v3 v4 v5 g hk hr2 hf
        · have hf := oin c36 hf
          refine r_iconst (v := 0) 285 C dL_proposers_284 rfl (by decide) ?_
          have hf := Option.some.inj hf
          subst hf
          exact r_zret C hr hk0 false rfl dL_proposers_285
set_option maxRecDepth 100000 in
set_option maxHeartbeats 4000000 in
theorem t_L_proposers_J209 {p : Program} {l : Launch} {e : Env} {s : State} {m : MethodId} {args : Array Value} {below : List Frame} {meth : Method} {c : Code} {G : GG} {A : Nat → Prop} (C : KX p s m args c cL_proposers 10 RL wsL_proposers G shC A) (hr : meth.sig.returnType = (some .boolean)) (hk0 : meth.locks = false)  (v1 : Int32) (v2 : Int32) (v3 : Int32) (v4 : Int32) (v5 : Int32) (v6 : Int32) (v8 : Int32) (v9 : Int32) (g : Mem) {res : Bool} {k : Int32 → Option Bool} {r : Int32 → Int32 → Option Bool} (hk : ∀ (v4 : Int32), k v4 = some res → JJ p l e rm_L_proposers s m args below meth c 10 G shC A (MQ below (k_Qi G shC A (bI res) g) args s 0 0 A) 292 [(0, .ref (G.2.1 0)), (1, .int v1), (4, .int v4)] [] g) (hr2 : ∀ (v4 : Int32) (v5 : Int32), r v4 v5 = some res → JJ p l e rm_L_proposers s m args below meth c 10 G shC A (MQ below (k_Qi G shC A (bI res) g) args s 0 0 A) 91 [(0, .ref (G.2.1 0)), (1, .int v1), (2, .int v2), (3, .int v3), (4, .int v4), (5, .int v5)] [] g) (hf : f_L_proposers_J209 k r v1 v2 v3 v4 v5 v6 v8 v9 g = some res) : JJ p l e rm_L_proposers s m args below meth c 10 G shC A (MQ below (k_Qi G shC A (bI res) g) args s 0 0 A) 209 [(0, .ref (G.2.1 0)), (1, .int v1), (2, .int v2), (3, .int v3), (4, .int v4), (5, .int v5), (6, .int v6), (8, .int v8), (9, .int v9)] [] g := by
  rw [f_L_proposers_J209] at hf
  refine r_iload 211 C 8 dL_proposers_209 rfl rfl ?_
  refine r_if_eq 246 214 C dL_proposers_211 rfl rfl (fun c28 => ?_) (fun c28 => ?_)
  · have hf := oip c28 hf
    refine r_sub [(0, .ref (G.2.1 0)), (1, .int v1), (2, .int v2), (3, .int v3), (4, .int v4), (5, .int v5), (6, .int v6)] [0, 1, 2, 3, 4, 5, 6] rfl ?_
    exact t_L_proposers_J246 C hr hk0 v1 v2 v3 v4 v5 v6 g hk hr2 hf
  · have hf := oin c28 hf
    refine r_iload 216 C 7 dL_proposers_214 rfl rfl ?_
    refine r_if_eq 246 219 C dL_proposers_216 rfl rfl (fun c37 => ?_) (fun c37 => ?_)
    · have hf := oip c37 hf
      refine r_sub [(0, .ref (G.2.1 0)), (1, .int v1), (2, .int v2), (3, .int v3), (4, .int v4), (5, .int v5), (6, .int v6)] [0, 1, 2, 3, 4, 5, 6] rfl ?_
      exact t_L_proposers_J246 C hr hk0 v1 v2 v3 v4 v5 v6 g hk hr2 hf
    · have hf := oin c37 hf
      refine r_iload 221 C 7 dL_proposers_219 rfl rfl ?_
      refine r_aload_n 222 C 0 dL_proposers_221 rfl rfl ?_
      refine r_iload 224 C 5 dL_proposers_222 rfl rfl ?_
      refine r_iconst (v := 3) 225 C dL_proposers_224 rfl (by decide) ?_
      obtain ⟨x38, hx38, hf⟩ := ob hf
      refine r_Vi (As := [.int v5, .int 3]) 228 C shC_0 rfl (c_X4_slot l G A v5 3 g _ hx38) (cwV 2 C.1.2.2.2.2 gL_proposers_X4_slot rfl rfl rfl hd_X4_slot ⟨Nat.le_of_ble_eq_true rfl, Nat.le_of_ble_eq_true rfl⟩) rfl rfl (Nat.le_of_ble_eq_true rfl) dL_proposers_225 rfl ?_
      refine r_iload_n 229 C 3 dL_proposers_228 rfl rfl ?_
      refine r_aload_n 230 C 0 dL_proposers_229 rfl rfl ?_
      refine r_iload 232 C 5 dL_proposers_230 rfl rfl ?_
      refine r_iconst (v := 2) 233 C dL_proposers_232 rfl (by decide) ?_
      obtain ⟨x39, hx39, hf⟩ := ob hf
      refine r_Vi (As := [.int v5, .int 2]) 236 C shC_0 rfl (c_X4_slot l G A v5 2 g _ hx39) (cwV 2 C.1.2.2.2.2 gL_proposers_X4_slot rfl rfl rfl hd_X4_slot ⟨Nat.le_of_ble_eq_true rfl, Nat.le_of_ble_eq_true rfl⟩) rfl rfl (Nat.le_of_ble_eq_true rfl) dL_proposers_233 rfl ?_
      refine r_iand 237 C dL_proposers_236 rfl ?_
      obtain ⟨x40, hx40, hf⟩ := ob hf
      refine r_Si (As := [.int (v3 &&& x39)]) 240 C (c_L_bits l G A (v3 &&& x39) g _ hx40) (va_cwS 1 C.1.2.2.2.2 gL_proposers_L_bits rfl rfl rfl hd_L_bits ⟨Nat.le_of_ble_eq_true rfl, Nat.le_of_ble_eq_true rfl⟩) rfl rfl (Nat.le_of_ble_eq_true rfl) dL_proposers_237 rfl ?_
      refine r_isub 241 C dL_proposers_240 rfl ?_
      refine r_icmp_eq 246 244 C dL_proposers_241 rfl rfl (fun c41 => ?_) (fun c41 => ?_)
      · have hf := oip c41 hf
        refine r_sub [(0, .ref (G.2.1 0)), (1, .int v1), (2, .int v2), (3, .int v3), (4, .int v4), (5, .int v5), (6, .int v6)] [0, 1, 2, 3, 4, 5, 6] rfl ?_
        exact t_L_proposers_J246 C hr hk0 v1 v2 v3 v4 v5 v6 g hk hr2 hf
      · have hf := oin c41 hf
        refine r_iconst (v := 0) 245 C dL_proposers_244 rfl (by decide) ?_
        have hf := Option.some.inj hf
        subst hf
        exact r_zret C hr hk0 false rfl dL_proposers_245
set_option maxRecDepth 100000 in
set_option maxHeartbeats 4000000 in
theorem t_L_proposers_L91 {p : Program} {l : Launch} {e : Env} {s : State} {m : MethodId} {args : Array Value} {below : List Frame} {meth : Method} {c : Code} {G : GG} {A : Nat → Prop} (C : KX p s m args c cL_proposers 10 RL wsL_proposers G shC A) (hr : meth.sig.returnType = (some .boolean)) (hk0 : meth.locks = false)  (v1 : Int32) (v2 : Int32) (v3 : Int32) (g : Mem) {res : Bool} {k : Int32 → Option Bool} (hk : ∀ (v4 : Int32), k v4 = some res → JJ p l e rm_L_proposers s m args below meth c 10 G shC A (MQ below (k_Qi G shC A (bI res) g) args s 0 0 A) 292 [(0, .ref (G.2.1 0)), (1, .int v1), (4, .int v4)] [] g) : ∀ (n : Nat) (v4 : Int32) (v5 : Int32), f_L_proposers_L91 k v1 v2 v3 g n v4 v5 = some res → JJ p l e rm_L_proposers s m args below meth c 10 G shC A (MQ below (k_Qi G shC A (bI res) g) args s 0 0 A) 91 [(0, .ref (G.2.1 0)), (1, .int v1), (2, .int v2), (3, .int v3), (4, .int v4), (5, .int v5)] [] g := by
  intro n
  induction n with
  | zero =>
    intro v4 v5 hf
    rw [f_L_proposers_L91] at hf
    cases hf
  | succ n ih =>
    intro v4 v5 hf
    rw [f_L_proposers_L91] at hf
    refine r_iload 93 C 5 dL_proposers_91 rfl rfl ?_
    refine r_bipush (v := 17) 95 C dL_proposers_93 rfl (by decide) ?_
    refine r_icmp_ge 292 98 C dL_proposers_95 rfl rfl (fun c11 => ?_) (fun c11 => ?_)
    · have hf := oip c11 hf
      refine r_sub [(0, .ref (G.2.1 0)), (1, .int v1), (4, .int v4)] [0, 1, 4] rfl ?_
      exact hk _ hf
    · have hf := oin c11 hf
      refine r_aload_n 99 C 0 dL_proposers_98 rfl rfl ?_
      refine r_iload_n 100 C 1 dL_proposers_99 rfl rfl ?_
      refine r_iload 102 C 5 dL_proposers_100 rfl rfl ?_
      refine r_iconst (v := 0) 103 C dL_proposers_102 rfl (by decide) ?_
      obtain ⟨x12, hx12, hf⟩ := ob hf
      refine r_Vi (As := [.int v1, .int v5, .int 0]) 106 C shC_0 rfl (c_X4_proposed l G A v1 v5 0 g _ hx12) (cwV 3 C.1.2.2.2.2 gL_proposers_X4_proposed rfl rfl rfl hd_X4_proposed ⟨Nat.le_of_ble_eq_true rfl, Nat.le_of_ble_eq_true rfl⟩) rfl rfl (Nat.le_of_ble_eq_true rfl) dL_proposers_103 rfl ?_
      refine r_istore 108 C [(6, .int x12), (0, .ref (G.2.1 0)), (1, .int v1), (2, .int v2), (3, .int v3), (4, .int v4), (5, .int v5)] dL_proposers_106 rfl rfl (by decide) rfl ?_
      refine r_aload_n 109 C 1 dL_proposers_108 rfl rfl ?_
      refine r_iload_n 110 C 2 dL_proposers_109 rfl rfl ?_
      refine r_iload 112 C 6 dL_proposers_110 rfl rfl ?_
      refine r_iconst (v := 1) 113 C dL_proposers_112 rfl (by decide) ?_
      obtain ⟨x13, hx13, hf⟩ := ob hf
      refine r_Vi (As := [.int v1, .int v5, .int 1]) 116 C shC_0 rfl (c_X4_proposed l G A v1 v5 1 g _ hx13) (cwV 3 C.1.2.2.2.2 gL_proposers_X4_proposed rfl rfl rfl hd_X4_proposed ⟨Nat.le_of_ble_eq_true rfl, Nat.le_of_ble_eq_true rfl⟩) rfl rfl (Nat.le_of_ble_eq_true rfl) dL_proposers_113 rfl ?_
      refine r_istore 118 C [(7, .int x13), (6, .int x12), (0, .ref (G.2.1 0)), (1, .int v1), (2, .int v2), (3, .int v3), (4, .int v4), (5, .int v5)] dL_proposers_116 rfl rfl (by decide) rfl ?_
      refine r_aload_n 119 C 2 dL_proposers_118 rfl rfl ?_
      refine r_iload_n 120 C 3 dL_proposers_119 rfl rfl ?_
      refine r_iload 122 C 7 dL_proposers_120 rfl rfl ?_
      refine r_iconst (v := 2) 123 C dL_proposers_122 rfl (by decide) ?_
      obtain ⟨x14, hx14, hf⟩ := ob hf
      refine r_Vi (As := [.int v1, .int v5, .int 2]) 126 C shC_0 rfl (c_X4_proposed l G A v1 v5 2 g _ hx14) (cwV 3 C.1.2.2.2.2 gL_proposers_X4_proposed rfl rfl rfl hd_X4_proposed ⟨Nat.le_of_ble_eq_true rfl, Nat.le_of_ble_eq_true rfl⟩) rfl rfl (Nat.le_of_ble_eq_true rfl) dL_proposers_123 rfl ?_
      refine r_istore 128 C [(8, .int x14), (7, .int x13), (6, .int x12), (0, .ref (G.2.1 0)), (1, .int v1), (2, .int v2), (3, .int v3), (4, .int v4), (5, .int v5)] dL_proposers_126 rfl rfl (by decide) rfl ?_
      refine r_iload 130 C 8 dL_proposers_128 rfl rfl ?_
      refine r_aload_n 131 C 3 dL_proposers_130 rfl rfl ?_
      refine r_iconst (v := 0) 132 C dL_proposers_131 rfl (by decide) ?_
      obtain ⟨x15, hx15, hf⟩ := ob hf
      refine r_Vi (As := [.int 0]) 135 C shC_0 rfl (c_X4_count l G A 0 g _ hx15) (cwV 1 C.1.2.2.2.2 gL_proposers_X4_count rfl rfl rfl hd_X4_count ⟨Nat.le_of_ble_eq_true rfl, Nat.le_of_ble_eq_true rfl⟩) rfl rfl (Nat.le_of_ble_eq_true rfl) dL_proposers_132 rfl ?_
      refine r_iconst (v := 3) 136 C dL_proposers_135 rfl (by decide) ?_
      refine r_iadd 137 C dL_proposers_136 rfl ?_
      suffices kk17 : JJ p l e rm_L_proposers s m args below meth c 10 G shC A (MQ below (k_Qi G shC A (bI res) g) args s 0 0 A) 145 [(8, .int x14), (7, .int x13), (6, .int x12), (0, .ref (G.2.1 0)), (1, .int v1), (2, .int v2), (3, .int v3), (4, .int v4), (5, .int v5)] [.int (bI (!(decide ((x15 + 3) < v5))))] g by
        refine r_icmp_gt 144 140 C dL_proposers_137 rfl rfl (fun c16 => ?_) (fun c16 => ?_)
        · refine r_iconst (v := 0) 145 C dL_proposers_144 rfl (by decide) ?_
          rw [decide_eq_true c16] at kk17
          exact kk17
        · refine r_iconst (v := 1) 141 C dL_proposers_140 rfl (by decide) ?_
          refine r_goto 145 C dL_proposers_141 rfl ?_
          rw [decide_eq_false c16] at kk17
          exact kk17
      refine r_istore 147 C [(9, .int (bI (!(decide ((x15 + 3) < v5))))), (8, .int x14), (7, .int x13), (6, .int x12), (0, .ref (G.2.1 0)), (1, .int v1), (2, .int v2), (3, .int v3), (4, .int v4), (5, .int v5)] dL_proposers_145 rfl rfl (by decide) rfl ?_
      refine r_iload 149 C 8 dL_proposers_147 rfl rfl ?_
      refine r_iload 151 C 3 dL_proposers_149 rfl rfl ?_
      suffices kk19 : JJ p l e rm_L_proposers s m args below meth c 10 G shC A (MQ below (k_Qi G shC A (bI res) g) args s 0 0 A) 159 [(9, .int (bI (!(decide ((x15 + 3) < v5))))), (8, .int x14), (7, .int x13), (6, .int x12), (0, .ref (G.2.1 0)), (1, .int v1), (2, .int v2), (3, .int v3), (4, .int v4), (5, .int v5)] [.int (bI (!(decide (x12 ≤ 0)))), .int v4] g by
        refine r_if_le 158 154 C dL_proposers_151 rfl rfl (fun c18 => ?_) (fun c18 => ?_)
        · refine r_iconst (v := 0) 159 C dL_proposers_158 rfl (by decide) ?_
          rw [decide_eq_true c18] at kk19
          exact kk19
        · refine r_iconst (v := 1) 155 C dL_proposers_154 rfl (by decide) ?_
          refine r_goto 159 C dL_proposers_155 rfl ?_
          rw [decide_eq_false c18] at kk19
          exact kk19
      refine r_iadd 160 C dL_proposers_159 rfl ?_
      obtain ⟨x20, hx20, hf⟩ := ol hf
      refine r_istore 162 C [(4, .int x20), (9, .int (bI (!(decide ((x15 + 3) < v5))))), (8, .int x14), (7, .int x13), (6, .int x12), (0, .ref (G.2.1 0)), (1, .int v1), (2, .int v2), (3, .int v3), (5, .int v5)] dL_proposers_160 rfl hx20 (by decide) rfl ?_
      refine r_iload 164 C 1 dL_proposers_162 rfl rfl ?_
      refine r_iload 166 C 3 dL_proposers_164 rfl rfl ?_
      suffices kk22 : JJ p l e rm_L_proposers s m args below meth c 10 G shC A (MQ below (k_Qi G shC A (bI res) g) args s 0 0 A) 174 [(4, .int x20), (9, .int (bI (!(decide ((x15 + 3) < v5))))), (8, .int x14), (7, .int x13), (6, .int x12), (0, .ref (G.2.1 0)), (1, .int v1), (2, .int v2), (3, .int v3), (5, .int v5)] [.int (bI (!(decide (x13 < 0)))), .int (bI (!(decide ((x15 + 3) < v5))))] g by
        refine r_if_lt 173 169 C dL_proposers_166 rfl rfl (fun c21 => ?_) (fun c21 => ?_)
        · refine r_iconst (v := 0) 174 C dL_proposers_173 rfl (by decide) ?_
          rw [decide_eq_true c21] at kk22
          exact kk22
        · refine r_iconst (v := 1) 170 C dL_proposers_169 rfl (by decide) ?_
          refine r_goto 174 C dL_proposers_170 rfl ?_
          rw [decide_eq_false c21] at kk22
          exact kk22
      refine r_icmp_ne 207 177 C dL_proposers_174 rfl rfl (fun c23 => ?_) (fun c23 => ?_)
      · have hf := oin c23 hf
        refine r_iconst (v := 0) 208 C dL_proposers_207 rfl (by decide) ?_
        have hf := Option.some.inj hf
        subst hf
        exact r_zret C hr hk0 false rfl dL_proposers_208
      · have hf := oip c23 hf
        refine r_iload 179 C 1 dL_proposers_177 rfl rfl ?_
        refine r_iload 181 C 2 dL_proposers_179 rfl rfl ?_
        suffices kk25 : JJ p l e rm_L_proposers s m args below meth c 10 G shC A (MQ below (k_Qi G shC A (bI res) g) args s 0 0 A) 189 [(4, .int x20), (9, .int (bI (!(decide ((x15 + 3) < v5))))), (8, .int x14), (7, .int x13), (6, .int x12), (0, .ref (G.2.1 0)), (1, .int v1), (2, .int v2), (3, .int v3), (5, .int v5)] [.int (bI (!(decide (x14 < 0)))), .int (bI (!(decide ((x15 + 3) < v5))))] g by
          refine r_if_lt 188 184 C dL_proposers_181 rfl rfl (fun c24 => ?_) (fun c24 => ?_)
          · refine r_iconst (v := 0) 189 C dL_proposers_188 rfl (by decide) ?_
            rw [decide_eq_true c24] at kk25
            exact kk25
          · refine r_iconst (v := 1) 185 C dL_proposers_184 rfl (by decide) ?_
            refine r_goto 189 C dL_proposers_185 rfl ?_
            rw [decide_eq_false c24] at kk25
            exact kk25
        refine r_icmp_ne 207 192 C dL_proposers_189 rfl rfl (fun c26 => ?_) (fun c26 => ?_)
        · have hf := oin c26 hf
          refine r_iconst (v := 0) 208 C dL_proposers_207 rfl (by decide) ?_
          have hf := Option.some.inj hf
          subst hf
          exact r_zret C hr hk0 false rfl dL_proposers_208
        · have hf := oip c26 hf
          refine r_iload 194 C 4 dL_proposers_192 rfl rfl ?_
          refine r_if_le 209 197 C dL_proposers_194 rfl rfl (fun c27 => ?_) (fun c27 => ?_)
          · have hf := oip c27 hf
            refine r_sub [(0, .ref (G.2.1 0)), (1, .int v1), (2, .int v2), (3, .int v3), (4, .int x20), (5, .int v5), (6, .int x12), (8, .int x14), (9, .int (bI (!(decide ((x15 + 3) < v5)))))] [5, 6, 7, 8, 0, 9, 4, 2, 1] rfl ?_
            exact t_L_proposers_J209 C hr hk0 v1 v2 v3 x20 v5 x12 x14 (bI (!(decide ((x15 + 3) < v5)))) g hk ih hf
          · have hf := oin c27 hf
            refine r_iload 199 C 1 dL_proposers_197 rfl rfl ?_
            refine r_if_eq 207 202 C dL_proposers_199 rfl rfl (fun c42 => ?_) (fun c42 => ?_)
            · have hf := obf c42 hf
              refine r_iconst (v := 0) 208 C dL_proposers_207 rfl (by decide) ?_
              have hf := Option.some.inj hf
              subst hf
              exact r_zret C hr hk0 false rfl dL_proposers_208
            · have hf := obt c42 hf
              refine r_iload 204 C 2 dL_proposers_202 rfl rfl ?_
              refine r_if_eq 209 207 C dL_proposers_204 rfl rfl (fun c43 => ?_) (fun c43 => ?_)
              · have hf := oip c43 hf
                refine r_sub [(0, .ref (G.2.1 0)), (1, .int v1), (2, .int v2), (3, .int v3), (4, .int x20), (5, .int v5), (6, .int x12), (8, .int x14), (9, .int (bI (!(decide ((x15 + 3) < v5)))))] [5, 6, 7, 8, 0, 9, 4, 2, 1] rfl ?_
                exact t_L_proposers_J209 C hr hk0 v1 v2 v3 x20 v5 x12 x14 (bI (!(decide ((x15 + 3) < v5)))) g hk ih hf
              · have hf := oin c43 hf
                refine r_iconst (v := 0) 208 C dL_proposers_207 rfl (by decide) ?_
                have hf := Option.some.inj hf
                subst hf
                exact r_zret C hr hk0 false rfl dL_proposers_208
set_option maxRecDepth 100000 in
set_option maxHeartbeats 4000000 in
theorem t_L_proposers_J49 {p : Program} {l : Launch} {e : Env} {s : State} {m : MethodId} {args : Array Value} {below : List Frame} {meth : Method} {c : Code} {G : GG} {A : Nat → Prop} (C : KX p s m args c cL_proposers 10 RL wsL_proposers G shC A) (hr : meth.sig.returnType = (some .boolean)) (hk0 : meth.locks = false)  (v1 : Int32) (v2 : Int32) (v3 : Int32) (v4 : Int32) (g : Mem) {res : Bool} {k : Option Bool} {r : Int32 → Option Bool} (hk : k  = some res → JJ p l e rm_L_proposers s m args below meth c 10 G shC A (MQ below (k_Qi G shC A (bI res) g) args s 0 0 A) 311 [(0, .ref (G.2.1 0))] [] g) (hr2 : ∀ (v1 : Int32), r v1 = some res → JJ p l e rm_L_proposers s m args below meth c 10 G shC A (MQ below (k_Qi G shC A (bI res) g) args s 0 0 A) 2 [(0, .ref (G.2.1 0)), (1, .int v1)] [] g) (hf : f_L_proposers_J49 k r v1 v2 v3 v4 g = some res) : JJ p l e rm_L_proposers s m args below meth c 10 G shC A (MQ below (k_Qi G shC A (bI res) g) args s 0 0 A) 49 [(0, .ref (G.2.1 0)), (1, .int v1), (2, .int v2), (3, .int v3), (4, .int v4)] [] g := by
  rw [f_L_proposers_J49] at hf
  refine r_iconst (v := 0) 50 C dL_proposers_49 rfl (by decide) ?_
  refine r_istore 52 C [(5, .int 0), (0, .ref (G.2.1 0)), (1, .int v1), (2, .int v2), (3, .int v3), (4, .int v4)] dL_proposers_50 rfl rfl (by decide) rfl ?_
  refine r_sub [(0, .ref (G.2.1 0)), (1, .int v1), (2, .int v2), (3, .int v3), (4, .int v4), (5, .int 0)] [1, 2, 3, 4, 5, 0] rfl ?_
  refine t_L_proposers_L52 C hr hk0 v1 v2 v3 v4 g (fun hf => ?_) fuel0 _ hf
  refine r_iconst (v := 1) 89 C dL_proposers_88 rfl (by decide) ?_
  refine r_istore 91 C [(5, .int 1), (0, .ref (G.2.1 0)), (1, .int v1), (2, .int v2), (3, .int v3), (4, .int v4)] dL_proposers_89 rfl rfl (by decide) rfl ?_
  refine r_sub [(0, .ref (G.2.1 0)), (1, .int v1), (2, .int v2), (3, .int v3), (4, .int v4), (5, .int 1)] [1, 2, 3, 4, 5, 0] rfl ?_
  refine t_L_proposers_L91 C hr hk0 v1 v2 v3 g (fun x44 hf => ?_) fuel0 _ _ hf
  refine r_aload_n 293 C 0 dL_proposers_292 rfl rfl ?_
  refine r_iload_n 294 C 1 dL_proposers_293 rfl rfl ?_
  refine r_iconst (v := 3) 295 C dL_proposers_294 rfl (by decide) ?_
  obtain ⟨x45, hx45, hf⟩ := ob hf
  refine r_Vi (As := [.int v1, .int 3]) 298 C shC_0 rfl (c_X4_proposer l G A v1 3 g _ hx45) (cwV 2 C.1.2.2.2.2 gL_proposers_X4_proposer rfl rfl rfl hd_X4_proposer ⟨Nat.le_of_ble_eq_true rfl, Nat.le_of_ble_eq_true rfl⟩) rfl rfl (Nat.le_of_ble_eq_true rfl) dL_proposers_295 rfl ?_
  refine r_iload 300 C 2 dL_proposers_298 rfl rfl ?_
  refine r_icmp_eq 305 303 C dL_proposers_300 rfl rfl (fun c46 => ?_) (fun c46 => ?_)
  · have hf := oip c46 hf
    obtain ⟨x47, hx47, hf⟩ := ol hf
    refine r_iinc 308 C 1 x47 [(1, .int x47), (0, .ref (G.2.1 0)), (4, .int x44)] dL_proposers_305 rfl rfl hx47.symm (by decide) rfl ?_
    refine r_goto 2 C dL_proposers_308 rfl ?_
    refine r_sub [(0, .ref (G.2.1 0)), (1, .int x47)] [1, 0] rfl ?_
    exact hr2 _ hf
  · have hf := oin c46 hf
    refine r_iconst (v := 0) 304 C dL_proposers_303 rfl (by decide) ?_
    have hf := Option.some.inj hf
    subst hf
    exact r_zret C hr hk0 false rfl dL_proposers_304
set_option maxRecDepth 100000 in
set_option maxHeartbeats 4000000 in
theorem t_L_proposers_J39 {p : Program} {l : Launch} {e : Env} {s : State} {m : MethodId} {args : Array Value} {below : List Frame} {meth : Method} {c : Code} {G : GG} {A : Nat → Prop} (C : KX p s m args c cL_proposers 10 RL wsL_proposers G shC A) (hr : meth.sig.returnType = (some .boolean)) (hk0 : meth.locks = false)  (v1 : Int32) (v2 : Int32) (v3 : Int32) (v4 : Int32) (g : Mem) {res : Bool} {k : Option Bool} {r : Int32 → Option Bool} (hk : k  = some res → JJ p l e rm_L_proposers s m args below meth c 10 G shC A (MQ below (k_Qi G shC A (bI res) g) args s 0 0 A) 311 [(0, .ref (G.2.1 0))] [] g) (hr2 : ∀ (v1 : Int32), r v1 = some res → JJ p l e rm_L_proposers s m args below meth c 10 G shC A (MQ below (k_Qi G shC A (bI res) g) args s 0 0 A) 2 [(0, .ref (G.2.1 0)), (1, .int v1)] [] g) (hf : f_L_proposers_J39 k r v1 v2 v3 v4 g = some res) : JJ p l e rm_L_proposers s m args below meth c 10 G shC A (MQ below (k_Qi G shC A (bI res) g) args s 0 0 A) 39 [(0, .ref (G.2.1 0)), (1, .int v1), (2, .int v2), (3, .int v3), (4, .int v4)] [] g := by
  rw [f_L_proposers_J39] at hf
  refine r_iload_n 40 C 2 dL_proposers_39 rfl rfl ?_
  refine r_if_ne 49 43 C dL_proposers_40 rfl rfl (fun c5 => ?_) (fun c5 => ?_)
  · have hf := oin c5 hf
    refine r_sub [(0, .ref (G.2.1 0)), (1, .int v1), (2, .int v2), (3, .int v3), (4, .int v4)] [0, 1, 2, 3, 4] rfl ?_
    exact t_L_proposers_J49 C hr hk0 v1 v2 v3 v4 g hk hr2 hf
  · have hf := oip c5 hf
    refine r_iload_n 44 C 3 dL_proposers_43 rfl rfl ?_
    refine r_if_eq 49 47 C dL_proposers_44 rfl rfl (fun c48 => ?_) (fun c48 => ?_)
    · have hf := oip c48 hf
      refine r_sub [(0, .ref (G.2.1 0)), (1, .int v1), (2, .int v2), (3, .int v3), (4, .int v4)] [0, 1, 2, 3, 4] rfl ?_
      exact t_L_proposers_J49 C hr hk0 v1 v2 v3 v4 g hk hr2 hf
    · have hf := oin c48 hf
      refine r_iconst (v := 0) 48 C dL_proposers_47 rfl (by decide) ?_
      have hf := Option.some.inj hf
      subst hf
      exact r_zret C hr hk0 false rfl dL_proposers_48
set_option maxRecDepth 100000 in
set_option maxHeartbeats 4000000 in
theorem t_L_proposers_L2 {p : Program} {l : Launch} {e : Env} {s : State} {m : MethodId} {args : Array Value} {below : List Frame} {meth : Method} {c : Code} {G : GG} {A : Nat → Prop} (C : KX p s m args c cL_proposers 10 RL wsL_proposers G shC A) (hr : meth.sig.returnType = (some .boolean)) (hk0 : meth.locks = false)  (g : Mem) {res : Bool} {k : Option Bool} (hk : k = some res → JJ p l e rm_L_proposers s m args below meth c 10 G shC A (MQ below (k_Qi G shC A (bI res) g) args s 0 0 A) 311 [(0, .ref (G.2.1 0))] [] g) : ∀ (n : Nat) (v1 : Int32), f_L_proposers_L2 k g n v1 = some res → JJ p l e rm_L_proposers s m args below meth c 10 G shC A (MQ below (k_Qi G shC A (bI res) g) args s 0 0 A) 2 [(0, .ref (G.2.1 0)), (1, .int v1)] [] g := by
  intro n
  induction n with
  | zero =>
    intro v1 hf
    rw [f_L_proposers_L2] at hf
    cases hf
  | succ n ih =>
    intro v1 hf
    rw [f_L_proposers_L2] at hf
    refine r_iload_n 3 C 1 dL_proposers_2 rfl rfl ?_
    refine r_iconst (v := 3) 4 C dL_proposers_3 rfl (by decide) ?_
    refine r_icmp_ge 311 7 C dL_proposers_4 rfl rfl (fun c1 => ?_) (fun c1 => ?_)
    · have hf := oip c1 hf
      refine r_sub [(0, .ref (G.2.1 0))] [0] rfl ?_
      exact hk  hf
    · have hf := oin c1 hf
      refine r_aload_n 8 C 0 dL_proposers_7 rfl rfl ?_
      refine r_iload_n 9 C 1 dL_proposers_8 rfl rfl ?_
      refine r_iconst (v := 0) 10 C dL_proposers_9 rfl (by decide) ?_
      obtain ⟨x2, hx2, hf⟩ := ob hf
      refine r_Vi (As := [.int v1, .int 0]) 13 C shC_0 rfl (c_X4_proposer l G A v1 0 g _ hx2) (cwV 2 C.1.2.2.2.2 gL_proposers_X4_proposer rfl rfl rfl hd_X4_proposer ⟨Nat.le_of_ble_eq_true rfl, Nat.le_of_ble_eq_true rfl⟩) rfl rfl (Nat.le_of_ble_eq_true rfl) dL_proposers_10 rfl ?_
      refine r_istore_n 14 C [(2, .int x2), (0, .ref (G.2.1 0)), (1, .int v1)] dL_proposers_13 rfl rfl (by decide) rfl ?_
      refine r_aload_n 15 C 1 dL_proposers_14 rfl rfl ?_
      refine r_iload_n 16 C 2 dL_proposers_15 rfl rfl ?_
      refine r_iconst (v := 2) 17 C dL_proposers_16 rfl (by decide) ?_
      obtain ⟨x3, hx3, hf⟩ := ob hf
      refine r_Vi (As := [.int v1, .int 2]) 20 C shC_0 rfl (c_X4_proposer l G A v1 2 g _ hx3) (cwV 2 C.1.2.2.2.2 gL_proposers_X4_proposer rfl rfl rfl hd_X4_proposer ⟨Nat.le_of_ble_eq_true rfl, Nat.le_of_ble_eq_true rfl⟩) rfl rfl (Nat.le_of_ble_eq_true rfl) dL_proposers_17 rfl ?_
      refine r_istore_n 21 C [(3, .int x3), (2, .int x2), (0, .ref (G.2.1 0)), (1, .int v1)] dL_proposers_20 rfl rfl (by decide) rfl ?_
      refine r_iconst (v := 0) 22 C dL_proposers_21 rfl (by decide) ?_
      refine r_istore 24 C [(4, .int 0), (3, .int x3), (2, .int x2), (0, .ref (G.2.1 0)), (1, .int v1)] dL_proposers_22 rfl rfl (by decide) rfl ?_
      refine r_iload_n 25 C 2 dL_proposers_24 rfl rfl ?_
      refine r_if_le 39 28 C dL_proposers_25 rfl rfl (fun c4 => ?_) (fun c4 => ?_)
      · have hf := oip c4 hf
        refine r_sub [(0, .ref (G.2.1 0)), (1, .int v1), (2, .int x2), (3, .int x3), (4, .int 0)] [3, 4, 2, 1, 0] rfl ?_
        exact t_L_proposers_J39 C hr hk0 v1 x2 x3 0 g hk ih hf
      · have hf := oin c4 hf
        refine r_iload_n 29 C 2 dL_proposers_28 rfl rfl ?_
        refine r_iconst (v := 3) 30 C dL_proposers_29 rfl (by decide) ?_
        refine r_irem 31 C dL_proposers_30 rfl (by decide) ?_
        refine r_iload_n 32 C 4 dL_proposers_31 rfl rfl ?_
        refine r_iconst (v := 1) 33 C dL_proposers_32 rfl (by decide) ?_
        refine r_iadd 34 C dL_proposers_33 rfl ?_
        refine r_iconst (v := 3) 35 C dL_proposers_34 rfl (by decide) ?_
        refine r_irem 36 C dL_proposers_35 rfl (by decide) ?_
        refine r_icmp_ne 47 39 C dL_proposers_36 rfl rfl (fun c49 => ?_) (fun c49 => ?_)
        · have hf := oin c49 hf
          refine r_iconst (v := 0) 48 C dL_proposers_47 rfl (by decide) ?_
          have hf := Option.some.inj hf
          subst hf
          exact r_zret C hr hk0 false rfl dL_proposers_48
        · have hf := oip c49 hf
          refine r_sub [(0, .ref (G.2.1 0)), (1, .int v1), (2, .int x2), (3, .int x3), (4, .int 0)] [3, 4, 2, 1, 0] rfl ?_
          exact t_L_proposers_J39 C hr hk0 v1 x2 x3 0 g hk ih hf
set_option maxRecDepth 100000 in
set_option maxHeartbeats 4000000 in
theorem c_L_proposers (l : Launch) (G : GG) (A : Nat → Prop)   (g : Mem) (res : Bool) (hf : f_L_proposers  g = some res) : k_Mi l yL_proposers wsL_proposers rm_L_proposers G shC A [.ref (G.2.1 0)] g (bI res) g := by
  refine k_ofi (cc := cL_proposers) (nL := 10) (own := RL) (by decide +kernel) rfl rfl (by simp [lg_sl, Value.category]) ⟨rfl, rfl⟩ [(0, .ref (G.2.1 0))] rfl ?_
  intro p e s m args below meth c C hr hk0
  rw [f_L_proposers] at hf
  refine r_iconst (v := 0) 1 C dL_proposers_0 rfl (by decide) ?_
  refine r_istore_n 2 C [(1, .int 0), (0, .ref (G.2.1 0))] dL_proposers_1 rfl rfl (by decide) rfl ?_
  refine r_sub [(0, .ref (G.2.1 0)), (1, .int 0)] [1, 0] rfl ?_
  refine t_L_proposers_L2 C hr hk0 g (fun hf => ?_) fuel0 _ hf
  refine r_aload_n 312 C 0 dL_proposers_311 rfl rfl ?_
  refine r_iconst (v := 3) 313 C dL_proposers_312 rfl (by decide) ?_
  refine r_iconst (v := 0) 314 C dL_proposers_313 rfl (by decide) ?_
  obtain ⟨x50, hx50, hf⟩ := ob hf
  refine r_Vi (As := [.int 3, .int 0]) 317 C shC_0 rfl (c_X4_proposer l G A 3 0 g _ hx50) (cwV 2 C.1.2.2.2.2 gL_proposers_X4_proposer rfl rfl rfl hd_X4_proposer ⟨Nat.le_of_ble_eq_true rfl, Nat.le_of_ble_eq_true rfl⟩) rfl rfl (Nat.le_of_ble_eq_true rfl) dL_proposers_314 rfl ?_
  refine r_iconst (v := (-1)) 318 C dL_proposers_317 rfl (by decide) ?_
  refine r_icmp_ne 336 321 C dL_proposers_318 rfl rfl (fun c51 => ?_) (fun c51 => ?_)
  · have hf := oin c51 hf
    refine r_iconst (v := 0) 337 C dL_proposers_336 rfl (by decide) ?_
    have hf := Option.some.inj hf
    subst hf
    exact r_zret C hr hk0 false rfl dL_proposers_337
  · have hf := oip c51 hf
    refine r_aload_n 322 C 0 dL_proposers_321 rfl rfl ?_
    refine r_iconst (v := 0) 323 C dL_proposers_322 rfl (by decide) ?_
    refine r_iconst (v := 4) 324 C dL_proposers_323 rfl (by decide) ?_
    obtain ⟨x52, hx52, hf⟩ := ob hf
    refine r_Vi (As := [.int 0, .int 4]) 327 C shC_0 rfl (c_X4_proposer l G A 0 4 g _ hx52) (cwV 2 C.1.2.2.2.2 gL_proposers_X4_proposer rfl rfl rfl hd_X4_proposer ⟨Nat.le_of_ble_eq_true rfl, Nat.le_of_ble_eq_true rfl⟩) rfl rfl (Nat.le_of_ble_eq_true rfl) dL_proposers_324 rfl ?_
    refine r_bipush (v := (-2)) 329 C dL_proposers_327 rfl (by decide) ?_
    refine r_icmp_ne 336 332 C dL_proposers_329 rfl rfl (fun c53 => ?_) (fun c53 => ?_)
    · have hf := oin c53 hf
      refine r_iconst (v := 0) 337 C dL_proposers_336 rfl (by decide) ?_
      have hf := Option.some.inj hf
      subst hf
      exact r_zret C hr hk0 false rfl dL_proposers_337
    · have hf := oip c53 hf
      refine r_iconst (v := 1) 333 C dL_proposers_332 rfl (by decide) ?_
      refine r_goto 337 C dL_proposers_333 rfl ?_
      have hf := Option.some.inj hf
      subst hf
      exact r_zret C hr hk0 true rfl dL_proposers_337
