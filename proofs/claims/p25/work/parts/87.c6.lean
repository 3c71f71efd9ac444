def rm_L_others : Room := { frames := 5, cells := 0, slots := 0, locals := 125 }
theorem hd_L_others : yL_others.cls ≠ "java/lang/invoke/MethodHandle" ∧ yL_others.cls ≠ "java/lang/invoke/VarHandle" ∧ (parseMethodDescriptor yL_others.desc).map (fun d => d.parameters.length) = some 6 := by decide +kernel
set_option maxRecDepth 100000 in
set_option maxHeartbeats 4000000 in
theorem t_L_others_L131 {p : Program} {l : Launch} {e : Env} {s : State} {m : MethodId} {args : Array Value} {below : List Frame} {meth : Method} {c : Code} {G : GG} {A : Nat → Prop} (C : KX p s m args c cL_others 11 RL wsL_others G shC A) (hr : meth.sig.returnType = (some .boolean)) (hk0 : meth.locks = false) (a2 : Int32) (a3 : Int32) (a4 : Int32) (a5 : Int32) (a6 : Int32)  (v3 : Int32) (v6 : Int32) (v7 : Int32) (v9 : Int32) (g : Mem) {res : Bool × Mem} {k : Int32 → Option (Bool × Mem)} (hk : ∀ (v8 : Int32), k v8 = some res → JJ p l e rm_L_others s m args below meth c 11 G shC A (MQ below (k_Qi G shC A (bI res.1) res.2) args s 0 0 A) 165 [(0, .ref (G.2.1 0)), (3, .int v3), (6, .int v6), (7, .int v7), (8, .int v8), (9, .int v9)] [] g) : ∀ (n : Nat) (v8 : Int32) (v10 : Int32), f_L_others_L131 k v3 v6 v7 v9 g n v8 v10 = some res → JJ p l e rm_L_others s m args below meth c 11 G shC A (MQ below (k_Qi G shC A (bI res.1) res.2) args s 0 0 A) 131 [(0, .ref (G.2.1 0)), (3, .int v3), (6, .int v6), (7, .int v7), (8, .int v8), (9, .int v9), (10, .int v10)] [] g := by
  intro n
  induction n with
  | zero =>
    intro v8 v10 hf
    rw [f_L_others_L131] at hf
    cases hf
  | succ n ih =>
    intro v8 v10 hf
    rw [f_L_others_L131] at hf
    refine r_iload 133 C 6 dL_others_131 rfl rfl ?_
    refine r_iload_n 134 C 1 dL_others_133 rfl rfl ?_
    refine r_icmp_gt 165 137 C dL_others_134 rfl rfl (fun c28 => ?_) (fun c28 => ?_)
    · have hf := oip c28 hf
      refine r_sub [(0, .ref (G.2.1 0)), (3, .int v3), (6, .int v6), (7, .int v7), (8, .int v8), (9, .int v9)] [0, 1, 2, 3, 4, 5] rfl ?_
      exact hk _ hf
    · have hf := oin c28 hf
      refine r_iload 139 C 4 dL_others_137 rfl rfl ?_
      refine r_aload_n 140 C 0 dL_others_139 rfl rfl ?_
      refine r_iload 142 C 5 dL_others_140 rfl rfl ?_
      refine r_iload 144 C 6 dL_others_142 rfl rfl ?_
      refine r_iconst (v := 0) 145 C dL_others_144 rfl (by decide) ?_
      obtain ⟨x29, hx29, hf⟩ := ob hf
      refine r_Vi (As := [.int v9, .int v10, .int 0]) 148 C shC_0 rfl (c_X4_voted l G A v9 v10 0 g _ hx29) (cwV 3 C.1.2.2.2.2 gL_others_X4_voted rfl rfl rfl hd_X4_voted ⟨Nat.le_of_ble_eq_true rfl, Nat.le_of_ble_eq_true rfl⟩) rfl rfl (Nat.le_of_ble_eq_true rfl) dL_others_145 rfl ?_
      suffices kk31 : JJ p l e rm_L_others s m args below meth c 11 G shC A (MQ below (k_Qi G shC A (bI res.1) res.2) args s 0 0 A) 156 [(0, .ref (G.2.1 0)), (3, .int v3), (6, .int v6), (7, .int v7), (8, .int v8), (9, .int v9), (10, .int v10)] [.int (bI (!(decide (x29 ≤ 0)))), .int v8] g by
        refine r_if_le 155 151 C dL_others_148 rfl rfl (fun c30 => ?_) (fun c30 => ?_)
        · refine r_iconst (v := 0) 156 C dL_others_155 rfl (by decide) ?_
          rw [decide_eq_true c30] at kk31
          exact kk31
        · refine r_iconst (v := 1) 152 C dL_others_151 rfl (by decide) ?_
          refine r_goto 156 C dL_others_152 rfl ?_
          rw [decide_eq_false c30] at kk31
          exact kk31
      refine r_iadd 157 C dL_others_156 rfl ?_
      obtain ⟨x32, hx32, hf⟩ := ol hf
      refine r_istore 159 C [(8, .int x32), (0, .ref (G.2.1 0)), (3, .int v3), (6, .int v6), (7, .int v7), (9, .int v9), (10, .int v10)] dL_others_157 rfl hx32 (by decide) rfl ?_
      obtain ⟨x33, hx33, hf⟩ := ol hf
      refine r_iinc 162 C 6 x33 [(10, .int x33), (8, .int x32), (0, .ref (G.2.1 0)), (3, .int v3), (6, .int v6), (7, .int v7), (9, .int v9)] dL_others_159 rfl rfl hx33.symm (by decide) rfl ?_
      refine r_goto 131 C dL_others_162 rfl ?_
      refine r_sub [(0, .ref (G.2.1 0)), (3, .int v3), (6, .int v6), (7, .int v7), (8, .int x32), (9, .int v9), (10, .int x33)] [2, 3, 4, 5, 1, 6, 0] rfl ?_
      exact ih _ _ hf
set_option maxRecDepth 100000 in
set_option maxHeartbeats 4000000 in
theorem t_L_others_L121 {p : Program} {l : Launch} {e : Env} {s : State} {m : MethodId} {args : Array Value} {below : List Frame} {meth : Method} {c : Code} {G : GG} {A : Nat → Prop} (C : KX p s m args c cL_others 11 RL wsL_others G shC A) (hr : meth.sig.returnType = (some .boolean)) (hk0 : meth.locks = false) (a2 : Int32) (a3 : Int32) (a4 : Int32) (a5 : Int32) (a6 : Int32)  (v3 : Int32) (v6 : Int32) (v7 : Int32) (g : Mem) {res : Bool × Mem} {k : Int32 → Option (Bool × Mem)} (hk : ∀ (v8 : Int32), k v8 = some res → JJ p l e rm_L_others s m args below meth c 11 G shC A (MQ below (k_Qi G shC A (bI res.1) res.2) args s 0 0 A) 171 [(0, .ref (G.2.1 0)), (3, .int v3), (6, .int v6), (7, .int v7), (8, .int v8)] [] g) : ∀ (n : Nat) (v8 : Int32) (v9 : Int32), f_L_others_L121 k v3 v6 v7 g n v8 v9 = some res → JJ p l e rm_L_others s m args below meth c 11 G shC A (MQ below (k_Qi G shC A (bI res.1) res.2) args s 0 0 A) 121 [(0, .ref (G.2.1 0)), (3, .int v3), (6, .int v6), (7, .int v7), (8, .int v8), (9, .int v9)] [] g := by
  intro n
  induction n with
  | zero =>
    intro v8 v9 hf
    rw [f_L_others_L121] at hf
    cases hf
  | succ n ih =>
    intro v8 v9 hf
    rw [f_L_others_L121] at hf
    refine r_iload 123 C 5 dL_others_121 rfl rfl ?_
    refine r_bipush (v := 6) 125 C dL_others_123 rfl (by decide) ?_
    refine r_icmp_ge 171 128 C dL_others_125 rfl rfl (fun c27 => ?_) (fun c27 => ?_)
    · have hf := oip c27 hf
      refine r_sub [(0, .ref (G.2.1 0)), (3, .int v3), (6, .int v6), (7, .int v7), (8, .int v8)] [0, 1, 2, 3, 4] rfl ?_
      exact hk _ hf
    · have hf := oin c27 hf
      refine r_iconst (v := 1) 129 C dL_others_128 rfl (by decide) ?_
      refine r_istore 131 C [(10, .int 1), (0, .ref (G.2.1 0)), (3, .int v3), (6, .int v6), (7, .int v7), (8, .int v8), (9, .int v9)] dL_others_129 rfl rfl (by decide) rfl ?_
      refine r_sub [(0, .ref (G.2.1 0)), (3, .int v3), (6, .int v6), (7, .int v7), (8, .int v8), (9, .int v9), (10, .int 1)] [1, 2, 3, 4, 5, 6, 0] rfl ?_
      refine t_L_others_L131 C hr hk0 a2 a3 a4 a5 a6 v3 v6 v7 v9 g (fun x34 hf => ?_) fuel0 _ _ hf
      obtain ⟨x35, hx35, hf⟩ := ol hf
      refine r_iinc 168 C 5 x35 [(9, .int x35), (0, .ref (G.2.1 0)), (3, .int v3), (6, .int v6), (7, .int v7), (8, .int x34)] dL_others_165 rfl rfl hx35.symm (by decide) rfl ?_
      refine r_goto 121 C dL_others_168 rfl ?_
      refine r_sub [(0, .ref (G.2.1 0)), (3, .int v3), (6, .int v6), (7, .int v7), (8, .int x34), (9, .int x35)] [1, 2, 3, 4, 5, 0] rfl ?_
      exact ih _ _ hf
set_option maxRecDepth 100000 in
set_option maxHeartbeats 4000000 in
theorem t_L_others_J200 {p : Program} {l : Launch} {e : Env} {s : State} {m : MethodId} {args : Array Value} {below : List Frame} {meth : Method} {c : Code} {G : GG} {A : Nat → Prop} (C : KX p s m args c cL_others 11 RL wsL_others G shC A) (hr : meth.sig.returnType = (some .boolean)) (hk0 : meth.locks = false) (a2 : Int32) (a3 : Int32) (a4 : Int32) (a5 : Int32) (a6 : Int32)  (s0 : Int32) (s1 : Int32) (g : Mem) {res : Bool × Mem} (hf : f_L_others_J200 s0 s1 g = some res) : JJ p l e rm_L_others s m args below meth c 11 G shC A (MQ below (k_Qi G shC A (bI res.1) res.2) args s 0 0 A) 200 [(0, .ref (G.2.1 0))] [.int s0, .int s1] g := by
  rw [f_L_others_J200] at hf
  refine r_icmp_ne 217 203 C dL_others_200 rfl rfl (fun c41 => ?_) (fun c41 => ?_)
  · have hf := oin c41 hf
    refine r_iconst (v := 0) 218 C dL_others_217 rfl (by decide) ?_
    have hf := Option.some.inj hf
    subst hf
    exact r_zret C hr hk0 false rfl dL_others_218
  · have hf := oip c41 hf
    refine r_aload_n 204 C 0 dL_others_203 rfl rfl ?_
    refine r_bipush (v := 17) 206 C dL_others_204 rfl (by decide) ?_
    obtain ⟨x42, g43, hx42, hf⟩ := ob2 hf
    refine r_Vi (As := [.int 17]) 209 C shC_0 rfl (c_X4_trim l G A 17 g _ hx42) (cwV 1 C.1.2.2.2.2 gL_others_X4_trim rfl rfl rfl hd_X4_trim ⟨Nat.le_of_ble_eq_true rfl, Nat.le_of_ble_eq_true rfl⟩) rfl rfl (Nat.le_of_ble_eq_true rfl) dL_others_206 rfl ?_
    refine r_iconst (v := (-1)) 210 C dL_others_209 rfl (by decide) ?_
    refine r_icmp_ne 217 213 C dL_others_210 rfl rfl (fun c44 => ?_) (fun c44 => ?_)
    · have hf := oin c44 hf
      refine r_iconst (v := 0) 218 C dL_others_217 rfl (by decide) ?_
      have hf := Option.some.inj hf
      subst hf
      exact r_zret C hr hk0 false rfl dL_others_218
    · have hf := oip c44 hf
      refine r_iconst (v := 1) 214 C dL_others_213 rfl (by decide) ?_
      refine r_goto 218 C dL_others_214 rfl ?_
      have hf := Option.some.inj hf
      subst hf
      exact r_zret C hr hk0 true rfl dL_others_218
set_option maxRecDepth 100000 in
set_option maxHeartbeats 4000000 in
theorem t_L_others_J64 {p : Program} {l : Launch} {e : Env} {s : State} {m : MethodId} {args : Array Value} {below : List Frame} {meth : Method} {c : Code} {G : GG} {A : Nat → Prop} (C : KX p s m args c cL_others 11 RL wsL_others G shC A) (hr : meth.sig.returnType = (some .boolean)) (hk0 : meth.locks = false) (a2 : Int32) (a3 : Int32) (a4 : Int32) (a5 : Int32) (a6 : Int32)  (v2 : Int32) (v6 : Int32) (s0 : Int32) (s1 : Int32) (g : Mem) {res : Bool × Mem} (hf : f_L_others_J64 v2 v6 s0 s1 g = some res) : JJ p l e rm_L_others s m args below meth c 11 G shC A (MQ below (k_Qi G shC A (bI res.1) res.2) args s 0 0 A) 64 [(0, .ref (G.2.1 0)), (2, .int v2), (6, .int v6)] [.int s0, .int s1] g := by
  rw [f_L_others_J64] at hf
  refine r_icmp_ne 93 67 C dL_others_64 rfl rfl (fun c55 => ?_) (fun c55 => ?_)
  · have hf := oin c55 hf
    refine r_iconst (v := 0) 94 C dL_others_93 rfl (by decide) ?_
    have hf := Option.some.inj hf
    subst hf
    exact r_zret C hr hk0 false rfl dL_others_94
  · have hf := oip c55 hf
    refine r_aload_n 68 C 0 dL_others_67 rfl rfl ?_
    refine r_iconst (v := 4) 69 C dL_others_68 rfl (by decide) ?_
    obtain ⟨x56, hx56, hf⟩ := ob hf
    refine r_Vi (As := [.int 4]) 72 C shC_0 rfl (c_X4_count l G A 4 g _ hx56) (cwV 1 C.1.2.2.2.2 gL_others_X4_count rfl rfl rfl hd_X4_count ⟨Nat.le_of_ble_eq_true rfl, Nat.le_of_ble_eq_true rfl⟩) rfl rfl (Nat.le_of_ble_eq_true rfl) dL_others_69 rfl ?_
    refine r_iload_n 73 C 1 dL_others_72 rfl rfl ?_
    refine r_ishr 74 C dL_others_73 rfl ?_
    refine r_iconst (v := 1) 75 C dL_others_74 rfl (by decide) ?_
    refine r_iand 76 C dL_others_75 rfl ?_
    refine r_iload 78 C 2 dL_others_76 rfl rfl ?_
    suffices kk58 : JJ p l e rm_L_others s m args below meth c 11 G shC A (MQ below (k_Qi G shC A (bI res.1) res.2) args s 0 0 A) 86 [(0, .ref (G.2.1 0)), (2, .int v2), (6, .int v6)] [.int (bI (!(decide (v6 = 0)))), .int ((x56 >>> (v2 &&& 31)) &&& 1)] g by
      refine r_if_eq 85 81 C dL_others_78 rfl rfl (fun c57 => ?_) (fun c57 => ?_)
      · refine r_iconst (v := 0) 86 C dL_others_85 rfl (by decide) ?_
        rw [decide_eq_true c57] at kk58
        exact kk58
      · refine r_iconst (v := 1) 82 C dL_others_81 rfl (by decide) ?_
        refine r_goto 86 C dL_others_82 rfl ?_
        rw [decide_eq_false c57] at kk58
        exact kk58
    refine r_icmp_ne 93 89 C dL_others_86 rfl rfl (fun c59 => ?_) (fun c59 => ?_)
    · have hf := oin c59 hf
      refine r_iconst (v := 0) 94 C dL_others_93 rfl (by decide) ?_
      have hf := Option.some.inj hf
      subst hf
      exact r_zret C hr hk0 false rfl dL_others_94
    · have hf := oip c59 hf
      refine r_iconst (v := 1) 90 C dL_others_89 rfl (by decide) ?_
      refine r_goto 94 C dL_others_90 rfl ?_
      have hf := Option.some.inj hf
      subst hf
      exact r_zret C hr hk0 true rfl dL_others_94
set_option maxRecDepth 100000 in
set_option maxHeartbeats 4000000 in
theorem c_L_others (l : Launch) (G : GG) (A : Nat → Prop) (a2 : Int32) (a3 : Int32) (a4 : Int32) (a5 : Int32) (a6 : Int32)  (g : Mem) (res : Bool × Mem) (hf : f_L_others a2 a3 a4 a5 a6 g = some res) : k_Mi l yL_others wsL_others rm_L_others G shC A [.ref (G.2.1 0), .int a2, .int a3, .int a4, .int a5, .int a6] g (bI res.1) res.2 := by
  refine k_ofi (cc := cL_others) (nL := 11) (own := RL) (by decide +kernel) rfl rfl (by simp [lg_sl, Value.category]) ⟨rfl, rfl⟩ [(0, .ref (G.2.1 0)), (1, .int a2), (2, .int a3), (3, .int a4), (4, .int a5), (5, .int a6)] rfl ?_
  intro p e s m args below meth c C hr hk0
  rw [f_L_others] at hf
  refine r_iload_n 1 C 1 dL_others_0 rfl rfl ?_
  refine r_bipush (v := 10) 3 C dL_others_1 rfl (by decide) ?_
  refine r_icmp_ne 95 6 C dL_others_3 rfl rfl (fun c1 => ?_) (fun c1 => ?_)
  · have hf := oin c1 hf
    refine r_iload_n 96 C 1 dL_others_95 rfl rfl ?_
    refine r_bipush (v := 11) 98 C dL_others_96 rfl (by decide) ?_
    refine r_icmp_ne 219 101 C dL_others_98 rfl rfl (fun c2 => ?_) (fun c2 => ?_)
    · have hf := oin c2 hf
      refine r_iconst (v := 1) 220 C dL_others_219 rfl (by decide) ?_
      refine r_iload 222 C 4 dL_others_220 rfl rfl ?_
      refine r_bipush (v := 63) 224 C dL_others_222 rfl (by decide) ?_
      obtain ⟨x3, hx3, hf⟩ := ob hf
      refine r_Si (As := [.int a5, .int 63]) 227 C (c_L_low l G A a5 63 g _ hx3) (va_cwS 2 C.1.2.2.2.2 gL_others_L_low rfl rfl rfl hd_L_low ⟨Nat.le_of_ble_eq_true rfl, Nat.le_of_ble_eq_true rfl⟩) rfl rfl (Nat.le_of_ble_eq_true rfl) dL_others_224 rfl ?_
      refine r_iadd 228 C dL_others_227 rfl ?_
      obtain ⟨x4, hx4, hf⟩ := ol hf
      refine r_istore 230 C [(6, .int x4), (0, .ref (G.2.1 0)), (1, .int a2), (2, .int a3), (3, .int a4), (4, .int a5), (5, .int a6)] dL_others_228 rfl hx4 (by decide) rfl ?_
      refine r_iconst (v := 1) 231 C dL_others_230 rfl (by decide) ?_
      refine r_iload 233 C 6 dL_others_231 rfl rfl ?_
      refine r_bipush (v := 6) 235 C dL_others_233 rfl (by decide) ?_
      obtain ⟨x5, hx5, hf⟩ := ob hf
      refine r_Si (As := [.int a6, .int 6]) 238 C (c_L_low l G A a6 6 g _ hx5) (va_cwS 2 C.1.2.2.2.2 gL_others_L_low rfl rfl rfl hd_L_low ⟨Nat.le_of_ble_eq_true rfl, Nat.le_of_ble_eq_true rfl⟩) rfl rfl (Nat.le_of_ble_eq_true rfl) dL_others_235 rfl ?_
      refine r_iadd 239 C dL_others_238 rfl ?_
      obtain ⟨x6, hx6, hf⟩ := ol hf
      refine r_istore 241 C [(7, .int x6), (6, .int x4), (0, .ref (G.2.1 0)), (1, .int a2), (2, .int a3), (3, .int a4), (4, .int a5), (5, .int a6)] dL_others_239 rfl hx6 (by decide) rfl ?_
      refine r_iconst (v := 1) 242 C dL_others_241 rfl (by decide) ?_
      refine r_iload 244 C 7 dL_others_242 rfl rfl ?_
      refine r_iconst (v := 3) 245 C dL_others_244 rfl (by decide) ?_
      refine r_ishr 246 C dL_others_245 rfl ?_
      refine r_bipush (v := 6) 248 C dL_others_246 rfl (by decide) ?_
      obtain ⟨x7, hx7, hf⟩ := ob hf
      refine r_Si (As := [.int (a6 >>> (3 &&& 31)), .int 6]) 251 C (c_L_low l G A (a6 >>> (3 &&& 31)) 6 g _ hx7) (va_cwS 2 C.1.2.2.2.2 gL_others_L_low rfl rfl rfl hd_L_low ⟨Nat.le_of_ble_eq_true rfl, Nat.le_of_ble_eq_true rfl⟩) rfl rfl (Nat.le_of_ble_eq_true rfl) dL_others_248 rfl ?_
      refine r_iadd 252 C dL_others_251 rfl ?_
      obtain ⟨x8, hx8, hf⟩ := ol hf
      refine r_istore 254 C [(8, .int x8), (7, .int x6), (6, .int x4), (0, .ref (G.2.1 0)), (1, .int a2), (2, .int a3), (3, .int a4), (4, .int a5), (5, .int a6)] dL_others_252 rfl hx8 (by decide) rfl ?_
      refine r_aload_n 255 C 3 dL_others_254 rfl rfl ?_
      refine r_iload 257 C 2 dL_others_255 rfl rfl ?_
      refine r_iload 259 C 1 dL_others_257 rfl rfl ?_
      refine r_iload 261 C 0 dL_others_259 rfl rfl ?_
      refine r_iconst (v := 0) 262 C dL_others_261 rfl (by decide) ?_
      obtain ⟨x9, hx9, hf⟩ := ob hf
      refine r_Vi (As := [.int x4, .int x6, .int x8, .int 0]) 265 C shC_0 rfl (c_X4_witness l G A x4 x6 x8 0 g _ hx9) (cwV 4 C.1.2.2.2.2 gL_others_X4_witness rfl rfl rfl hd_X4_witness ⟨Nat.le_of_ble_eq_true rfl, Nat.le_of_ble_eq_true rfl⟩) rfl rfl (Nat.le_of_ble_eq_true rfl) dL_others_262 rfl ?_
      refine r_istore 267 C [(9, .int x9), (8, .int x8), (7, .int x6), (6, .int x4), (0, .ref (G.2.1 0)), (1, .int a2), (2, .int a3), (3, .int a4), (4, .int a5), (5, .int a6)] dL_others_265 rfl rfl (by decide) rfl ?_
      refine r_aload_n 268 C 4 dL_others_267 rfl rfl ?_
      refine r_iload 270 C 3 dL_others_268 rfl rfl ?_
      refine r_iload 272 C 2 dL_others_270 rfl rfl ?_
      refine r_iload 274 C 1 dL_others_272 rfl rfl ?_
      refine r_iconst (v := 1) 275 C dL_others_274 rfl (by decide) ?_
      obtain ⟨x10, hx10, hf⟩ := ob hf
      refine r_Vi (As := [.int x4, .int x6, .int x8, .int 1]) 278 C shC_0 rfl (c_X4_witness l G A x4 x6 x8 1 g _ hx10) (cwV 4 C.1.2.2.2.2 gL_others_X4_witness rfl rfl rfl hd_X4_witness ⟨Nat.le_of_ble_eq_true rfl, Nat.le_of_ble_eq_true rfl⟩) rfl rfl (Nat.le_of_ble_eq_true rfl) dL_others_275 rfl ?_
      refine r_istore 280 C [(10, .int x10), (9, .int x9), (8, .int x8), (7, .int x6), (6, .int x4), (0, .ref (G.2.1 0)), (1, .int a2), (2, .int a3), (3, .int a4), (4, .int a5), (5, .int a6)] dL_others_278 rfl rfl (by decide) rfl ?_
      refine r_iload 282 C 3 dL_others_280 rfl rfl ?_
      refine r_iload 284 C 2 dL_others_282 rfl rfl ?_
      refine r_iadd 285 C dL_others_284 rfl ?_
      refine r_iload 287 C 4 dL_others_285 rfl rfl ?_
      obtain ⟨x11, hx11, hf⟩ := ob hf
      refine r_Si (As := [.int x4]) 290 C (c_L_bits l G A x4 g _ hx11) (va_cwS 1 C.1.2.2.2.2 gL_others_L_bits rfl rfl rfl hd_L_bits ⟨Nat.le_of_ble_eq_true rfl, Nat.le_of_ble_eq_true rfl⟩) rfl rfl (Nat.le_of_ble_eq_true rfl) dL_others_287 rfl ?_
      refine r_icmp_le 327 293 C dL_others_290 rfl rfl (fun c12 => ?_) (fun c12 => ?_)
      · have hf := oip c12 hf
        refine r_iload 329 C 1 dL_others_327 rfl rfl ?_
        refine r_if_le 382 332 C dL_others_329 rfl rfl (fun c13 => ?_) (fun c13 => ?_)
        · have hf := oip c13 hf
          refine r_iconst (v := 0) 383 C dL_others_382 rfl (by decide) ?_
          have hf := Option.some.inj hf
          subst hf
          exact r_zret C hr hk0 false rfl dL_others_383
        · have hf := oin c13 hf
          refine r_iload 334 C 0 dL_others_332 rfl rfl ?_
          refine r_if_le 382 337 C dL_others_334 rfl rfl (fun c14 => ?_) (fun c14 => ?_)
          · have hf := oip c14 hf
            refine r_iconst (v := 0) 383 C dL_others_382 rfl (by decide) ?_
            have hf := Option.some.inj hf
            subst hf
            exact r_zret C hr hk0 false rfl dL_others_383
          · have hf := oin c14 hf
            refine r_iload 339 C 1 dL_others_337 rfl rfl ?_
            refine r_iload 341 C 0 dL_others_339 rfl rfl ?_
            refine r_iand 342 C dL_others_341 rfl ?_
            refine r_if_ne 382 345 C dL_others_342 rfl rfl (fun c15 => ?_) (fun c15 => ?_)
            · have hf := oin c15 hf
              refine r_iconst (v := 0) 383 C dL_others_382 rfl (by decide) ?_
              have hf := Option.some.inj hf
              subst hf
              exact r_zret C hr hk0 false rfl dL_others_383
            · have hf := oip c15 hf
              refine r_iload 347 C 1 dL_others_345 rfl rfl ?_
              refine r_iload 349 C 0 dL_others_347 rfl rfl ?_
              refine r_ior 350 C dL_others_349 rfl ?_
              refine r_iload 352 C 4 dL_others_350 rfl rfl ?_
              refine r_iconst (v := (-1)) 353 C dL_others_352 rfl (by decide) ?_
              refine r_ixor 354 C dL_others_353 rfl ?_
              refine r_iand 355 C dL_others_354 rfl ?_
              refine r_if_ne 382 358 C dL_others_355 rfl rfl (fun c16 => ?_) (fun c16 => ?_)
              · have hf := oin c16 hf
                refine r_iconst (v := 0) 383 C dL_others_382 rfl (by decide) ?_
                have hf := Option.some.inj hf
                subst hf
                exact r_zret C hr hk0 false rfl dL_others_383
              · have hf := oip c16 hf
                refine r_iload 360 C 1 dL_others_358 rfl rfl ?_
                obtain ⟨x17, hx17, hf⟩ := ob hf
                refine r_Si (As := [.int x9]) 363 C (c_L_bits l G A x9 g _ hx17) (va_cwS 1 C.1.2.2.2.2 gL_others_L_bits rfl rfl rfl hd_L_bits ⟨Nat.le_of_ble_eq_true rfl, Nat.le_of_ble_eq_true rfl⟩) rfl rfl (Nat.le_of_ble_eq_true rfl) dL_others_360 rfl ?_
                refine r_iload 365 C 3 dL_others_363 rfl rfl ?_
                refine r_icmp_ne 382 368 C dL_others_365 rfl rfl (fun c18 => ?_) (fun c18 => ?_)
                · have hf := oin c18 hf
                  refine r_iconst (v := 0) 383 C dL_others_382 rfl (by decide) ?_
                  have hf := Option.some.inj hf
                  subst hf
                  exact r_zret C hr hk0 false rfl dL_others_383
                · have hf := oip c18 hf
                  refine r_iload 370 C 0 dL_others_368 rfl rfl ?_
                  obtain ⟨x19, hx19, hf⟩ := ob hf
                  refine r_Si (As := [.int x10]) 373 C (c_L_bits l G A x10 g _ hx19) (va_cwS 1 C.1.2.2.2.2 gL_others_L_bits rfl rfl rfl hd_L_bits ⟨Nat.le_of_ble_eq_true rfl, Nat.le_of_ble_eq_true rfl⟩) rfl rfl (Nat.le_of_ble_eq_true rfl) dL_others_370 rfl ?_
                  refine r_iload 375 C 2 dL_others_373 rfl rfl ?_
                  refine r_icmp_ne 382 378 C dL_others_375 rfl rfl (fun c20 => ?_) (fun c20 => ?_)
                  · have hf := oin c20 hf
                    refine r_iconst (v := 0) 383 C dL_others_382 rfl (by decide) ?_
                    have hf := Option.some.inj hf
                    subst hf
                    exact r_zret C hr hk0 false rfl dL_others_383
                  · have hf := oip c20 hf
                    refine r_iconst (v := 1) 379 C dL_others_378 rfl (by decide) ?_
                    refine r_goto 383 C dL_others_379 rfl ?_
                    have hf := Option.some.inj hf
                    subst hf
                    exact r_zret C hr hk0 true rfl dL_others_383
      · have hf := oin c12 hf
        refine r_iload 295 C 1 dL_others_293 rfl rfl ?_
        refine r_bipush (v := (-5)) 297 C dL_others_295 rfl (by decide) ?_
        refine r_icmp_ne 325 300 C dL_others_297 rfl rfl (fun c21 => ?_) (fun c21 => ?_)
        · have hf := oin c21 hf
          refine r_iconst (v := 0) 326 C dL_others_325 rfl (by decide) ?_
          have hf := Option.some.inj hf
          subst hf
          exact r_zret C hr hk0 false rfl dL_others_326
        · have hf := oip c21 hf
          refine r_iload 302 C 0 dL_others_300 rfl rfl ?_
          refine r_bipush (v := (-5)) 304 C dL_others_302 rfl (by decide) ?_
          refine r_icmp_ne 325 307 C dL_others_304 rfl rfl (fun c22 => ?_) (fun c22 => ?_)
          · have hf := oin c22 hf
            refine r_iconst (v := 0) 326 C dL_others_325 rfl (by decide) ?_
            have hf := Option.some.inj hf
            subst hf
            exact r_zret C hr hk0 false rfl dL_others_326
          · have hf := oip c22 hf
            refine r_aload_n 308 C 5 dL_others_307 rfl rfl ?_
            refine r_bipush (v := 64) 310 C dL_others_308 rfl (by decide) ?_
            refine r_iconst (v := 1) 311 C dL_others_310 rfl (by decide) ?_
            refine r_iconst (v := 1) 312 C dL_others_311 rfl (by decide) ?_
            refine r_iconst (v := 0) 313 C dL_others_312 rfl (by decide) ?_
            obtain ⟨x23, hx23, hf⟩ := ob hf
            refine r_Vi (As := [.int 64, .int 1, .int 1, .int 0]) 316 C shC_0 rfl (c_X4_witness l G A 64 1 1 0 g _ hx23) (cwV 4 C.1.2.2.2.2 gL_others_X4_witness rfl rfl rfl hd_X4_witness ⟨Nat.le_of_ble_eq_true rfl, Nat.le_of_ble_eq_true rfl⟩) rfl rfl (Nat.le_of_ble_eq_true rfl) dL_others_313 rfl ?_
            refine r_bipush (v := (-2)) 318 C dL_others_316 rfl (by decide) ?_
            refine r_icmp_ne 325 321 C dL_others_318 rfl rfl (fun c24 => ?_) (fun c24 => ?_)
            · have hf := oin c24 hf
              refine r_iconst (v := 0) 326 C dL_others_325 rfl (by decide) ?_
              have hf := Option.some.inj hf
              subst hf
              exact r_zret C hr hk0 false rfl dL_others_326
            · have hf := oip c24 hf
              refine r_iconst (v := 1) 322 C dL_others_321 rfl (by decide) ?_
              refine r_goto 326 C dL_others_322 rfl ?_
              have hf := Option.some.inj hf
              subst hf
              exact r_zret C hr hk0 true rfl dL_others_326
    · have hf := oip c2 hf
      refine r_aload_n 102 C 0 dL_others_101 rfl rfl ?_
      refine r_iconst (v := 0) 103 C dL_others_102 rfl (by decide) ?_
      obtain ⟨x25, hx25, hf⟩ := ob hf
      refine r_Vi (As := [.int 0]) 106 C shC_0 rfl (c_X4_count l G A 0 g _ hx25) (cwV 1 C.1.2.2.2.2 gL_others_X4_count rfl rfl rfl hd_X4_count ⟨Nat.le_of_ble_eq_true rfl, Nat.le_of_ble_eq_true rfl⟩) rfl rfl (Nat.le_of_ble_eq_true rfl) dL_others_103 rfl ?_
      refine r_istore 108 C [(6, .int x25), (0, .ref (G.2.1 0)), (1, .int a2), (2, .int a3), (3, .int a4), (4, .int a5), (5, .int a6)] dL_others_106 rfl rfl (by decide) rfl ?_
      refine r_aload_n 109 C 1 dL_others_108 rfl rfl ?_
      refine r_iconst (v := 2) 110 C dL_others_109 rfl (by decide) ?_
      obtain ⟨x26, hx26, hf⟩ := ob hf
      refine r_Vi (As := [.int 2]) 113 C shC_0 rfl (c_X4_count l G A 2 g _ hx26) (cwV 1 C.1.2.2.2.2 gL_others_X4_count rfl rfl rfl hd_X4_count ⟨Nat.le_of_ble_eq_true rfl, Nat.le_of_ble_eq_true rfl⟩) rfl rfl (Nat.le_of_ble_eq_true rfl) dL_others_110 rfl ?_
      refine r_istore 115 C [(7, .int x26), (6, .int x25), (0, .ref (G.2.1 0)), (1, .int a2), (2, .int a3), (3, .int a4), (4, .int a5), (5, .int a6)] dL_others_113 rfl rfl (by decide) rfl ?_
      refine r_iconst (v := 0) 116 C dL_others_115 rfl (by decide) ?_
      refine r_istore 118 C [(8, .int 0), (7, .int x26), (6, .int x25), (0, .ref (G.2.1 0)), (1, .int a2), (2, .int a3), (3, .int a4), (4, .int a5), (5, .int a6)] dL_others_116 rfl rfl (by decide) rfl ?_
      refine r_iconst (v := 0) 119 C dL_others_118 rfl (by decide) ?_
      refine r_istore 121 C [(9, .int 0), (8, .int 0), (7, .int x26), (6, .int x25), (0, .ref (G.2.1 0)), (1, .int a2), (2, .int a3), (3, .int a4), (4, .int a5), (5, .int a6)] dL_others_119 rfl rfl (by decide) rfl ?_
      refine r_sub [(0, .ref (G.2.1 0)), (3, .int a4), (6, .int x25), (7, .int x26), (8, .int 0), (9, .int 0)] [4, 7, 3, 2, 1, 0] rfl ?_
      refine t_L_others_L121 C hr hk0 a2 a3 a4 a5 a6 a4 x25 x26 g (fun x36 hf => ?_) fuel0 _ _ hf
      refine r_aload_n 172 C 0 dL_others_171 rfl rfl ?_
      refine r_iload_n 173 C 1 dL_others_172 rfl rfl ?_
      obtain ⟨x37, g38, hx37, hf⟩ := ob2 hf
      refine r_Vi (As := [.int a4]) 176 C shC_0 rfl (c_X4_trim l G A a4 g _ hx37) (cwV 1 C.1.2.2.2.2 gL_others_X4_trim rfl rfl rfl hd_X4_trim ⟨Nat.le_of_ble_eq_true rfl, Nat.le_of_ble_eq_true rfl⟩) rfl rfl (Nat.le_of_ble_eq_true rfl) dL_others_173 rfl ?_
      refine r_iload_n 177 C 1 dL_others_176 rfl rfl ?_
      refine r_iload 179 C 2 dL_others_177 rfl rfl ?_
      refine r_icmp_le 187 182 C dL_others_179 rfl rfl (fun c39 => ?_) (fun c39 => ?_)
      · have hf := oip c39 hf
        refine r_iload_n 188 C 1 dL_others_187 rfl rfl ?_
        refine r_iload 190 C 3 dL_others_188 rfl rfl ?_
        refine r_icmp_gt 198 193 C dL_others_190 rfl rfl (fun c40 => ?_) (fun c40 => ?_)
        · have hf := oip c40 hf
          refine r_iload 200 C 4 dL_others_198 rfl rfl ?_
          refine r_sub [(0, .ref (G.2.1 0))] [0] rfl ?_
          exact t_L_others_J200 C hr hk0 a2 a3 a4 a5 a6 x36 x37 g38 hf
        · have hf := oin c40 hf
          refine r_bipush (v := (-5)) 195 C dL_others_193 rfl (by decide) ?_
          refine r_goto 200 C dL_others_195 rfl ?_
          refine r_sub [(0, .ref (G.2.1 0))] [0] rfl ?_
          exact t_L_others_J200 C hr hk0 a2 a3 a4 a5 a6 (-5) x37 g38 hf
      · have hf := oin c39 hf
        refine r_bipush (v := (-4)) 184 C dL_others_182 rfl (by decide) ?_
        refine r_goto 200 C dL_others_184 rfl ?_
        refine r_sub [(0, .ref (G.2.1 0))] [0] rfl ?_
        exact t_L_others_J200 C hr hk0 a2 a3 a4 a5 a6 (-4) x37 g38 hf
  · have hf := oip c1 hf
    refine r_iload 8 C 5 dL_others_6 rfl rfl ?_
    refine r_iconst (v := 3) 9 C dL_others_8 rfl (by decide) ?_
    refine r_iand 10 C dL_others_9 rfl ?_
    suffices kk46 : JJ p l e rm_L_others s m args below meth c 11 G shC A (MQ below (k_Qi G shC A (bI res.1) res.2) args s 0 0 A) 18 [(0, .ref (G.2.1 0)), (1, .int a2), (2, .int a3), (3, .int a4), (4, .int a5), (5, .int a6)] [.int (bI (!(decide ((a6 &&& 3) ≤ 0))))] g by
      refine r_if_le 17 13 C dL_others_10 rfl rfl (fun c45 => ?_) (fun c45 => ?_)
      · refine r_iconst (v := 0) 18 C dL_others_17 rfl (by decide) ?_
        rw [decide_eq_true c45] at kk46
        exact kk46
      · refine r_iconst (v := 1) 14 C dL_others_13 rfl (by decide) ?_
        refine r_goto 18 C dL_others_14 rfl ?_
        rw [decide_eq_false c45] at kk46
        exact kk46
    refine r_istore 20 C [(6, .int (bI (!(decide ((a6 &&& 3) ≤ 0))))), (0, .ref (G.2.1 0)), (1, .int a2), (2, .int a3), (3, .int a4), (4, .int a5), (5, .int a6)] dL_others_18 rfl rfl (by decide) rfl ?_
    refine r_aload_n 21 C 1 dL_others_20 rfl rfl ?_
    refine r_iload_n 22 C 3 dL_others_21 rfl rfl ?_
    refine r_iconst (v := 0) 23 C dL_others_22 rfl (by decide) ?_
    obtain ⟨x47, hx47, hf⟩ := ob hf
    refine r_Vi (As := [.int a3, .int 0]) 26 C shC_0 rfl (c_X4_acceptor l G A a3 0 g _ hx47) (cwV 2 C.1.2.2.2.2 gL_others_X4_acceptor rfl rfl rfl hd_X4_acceptor ⟨Nat.le_of_ble_eq_true rfl, Nat.le_of_ble_eq_true rfl⟩) rfl rfl (Nat.le_of_ble_eq_true rfl) dL_others_23 rfl ?_
    refine r_iconst (v := 1) 27 C dL_others_26 rfl (by decide) ?_
    suffices kk49 : JJ p l e rm_L_others s m args below meth c 11 G shC A (MQ below (k_Qi G shC A (bI res.1) res.2) args s 0 0 A) 35 [(6, .int (bI (!(decide ((a6 &&& 3) ≤ 0))))), (0, .ref (G.2.1 0)), (1, .int a2), (2, .int a3), (3, .int a4), (4, .int a5), (5, .int a6)] [.int (bI (decide (x47 = 1)))] g by
      refine r_icmp_ne 34 30 C dL_others_27 rfl rfl (fun c48 => ?_) (fun c48 => ?_)
      · refine r_iconst (v := 0) 35 C dL_others_34 rfl (by decide) ?_
        rw [decide_eq_false c48] at kk49
        exact kk49
      · refine r_iconst (v := 1) 31 C dL_others_30 rfl (by decide) ?_
        refine r_goto 35 C dL_others_31 rfl ?_
        rw [decide_eq_true c48] at kk49
        exact kk49
    refine r_istore 37 C [(7, .int (bI (decide (x47 = 1)))), (6, .int (bI (!(decide ((a6 &&& 3) ≤ 0))))), (0, .ref (G.2.1 0)), (1, .int a2), (2, .int a3), (3, .int a4), (4, .int a5), (5, .int a6)] dL_others_35 rfl rfl (by decide) rfl ?_
    refine r_aload_n 38 C 2 dL_others_37 rfl rfl ?_
    refine r_iload_n 39 C 4 dL_others_38 rfl rfl ?_
    refine r_iload 41 C 1 dL_others_39 rfl rfl ?_
    obtain ⟨x50, g51, hx50, hf⟩ := ob2 hf
    refine r_Vi (As := [.int a3, .int (bI (!(decide ((a6 &&& 3) ≤ 0))))]) 44 C shC_0 rfl (c_X4_setUp l G A a3 ((!(decide ((a6 &&& 3) ≤ 0)))) g _ hx50) (cwV 2 C.1.2.2.2.2 gL_others_X4_setUp rfl rfl rfl hd_X4_setUp ⟨Nat.le_of_ble_eq_true rfl, Nat.le_of_ble_eq_true rfl⟩) rfl rfl (Nat.le_of_ble_eq_true rfl) dL_others_41 rfl ?_
    refine r_iload 46 C 0 dL_others_44 rfl rfl ?_
    refine r_iload 48 C 1 dL_others_46 rfl rfl ?_
    refine r_icmp_ne 56 51 C dL_others_48 rfl rfl (fun c52 => ?_) (fun c52 => ?_)
    · have hf := oin c52 hf
      refine r_aload_n 57 C 2 dL_others_56 rfl rfl ?_
      refine r_iconst (v := 4) 58 C dL_others_57 rfl (by decide) ?_
      obtain ⟨x53, hx53, hf⟩ := ob hf
      refine r_Vi (As := [.int 4]) 61 C shC_0 rfl (c_X4_count l G A 4 g51 _ hx53) (cwV 1 C.1.2.2.2.2 gL_others_X4_count rfl rfl rfl hd_X4_count ⟨Nat.le_of_ble_eq_true rfl, Nat.le_of_ble_eq_true rfl⟩) rfl rfl (Nat.le_of_ble_eq_true rfl) dL_others_58 rfl ?_
      obtain ⟨x54, hx54, hf⟩ := ob hf
      refine r_Si (As := [.int x53]) 64 C (c_L_bits l G A x53 g51 _ hx54) (va_cwS 1 C.1.2.2.2.2 gL_others_L_bits rfl rfl rfl hd_L_bits ⟨Nat.le_of_ble_eq_true rfl, Nat.le_of_ble_eq_true rfl⟩) rfl rfl (Nat.le_of_ble_eq_true rfl) dL_others_61 rfl ?_
      refine r_sub [(0, .ref (G.2.1 0)), (2, .int a3), (6, .int (bI (!(decide ((a6 &&& 3) ≤ 0)))))] [2, 4, 1] rfl ?_
      exact t_L_others_J64 C hr hk0 a2 a3 a4 a5 a6 a3 (bI (!(decide ((a6 &&& 3) ≤ 0)))) x54 x50 g51 hf
    · have hf := oip c52 hf
      refine r_bipush (v := (-5)) 53 C dL_others_51 rfl (by decide) ?_
      refine r_goto 64 C dL_others_53 rfl ?_
      refine r_sub [(0, .ref (G.2.1 0)), (2, .int a3), (6, .int (bI (!(decide ((a6 &&& 3) ≤ 0)))))] [2, 4, 1] rfl ?_
      exact t_L_others_J64 C hr hk0 a2 a3 a4 a5 a6 a3 (bI (!(decide ((a6 &&& 3) ≤ 0)))) (-5) x50 g51 hf
