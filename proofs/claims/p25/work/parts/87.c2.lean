def rm_L_digest : Room := { frames := 5, cells := 0, slots := 0, locals := 109 }
theorem hd_L_digest : yL_digest.cls ≠ "java/lang/invoke/MethodHandle" ∧ yL_digest.cls ≠ "java/lang/invoke/VarHandle" ∧ (parseMethodDescriptor yL_digest.desc).map (fun d => d.parameters.length) = some 1 := by decide +kernel
set_option maxRecDepth 100000 in
set_option maxHeartbeats 4000000 in
theorem t_L_digest_L6 {p : Program} {l : Launch} {e : Env} {s : State} {m : MethodId} {args : Array Value} {below : List Frame} {meth : Method} {c : Code} {G : GG} {A : Nat → Prop} (C : KX p s m args c cL_digest 5 RL wsL_digest G shC A) (hr : meth.sig.returnType = (some .long)) (hk0 : meth.locks = false)  (g : Mem) {res : Int64} {k : Int64 → Option Int64} (hk : ∀ (v1 : Int64), k v1 = some res → JJ p l e rm_L_digest s m args below meth c 5 G shC A (MQ below (k_Ql G shC A res g) args s 0 0 A) 31 [(0, .ref (G.2.1 0)), (1, .long v1)] [] g) : ∀ (n : Nat) (v1 : Int64) (v3 : Int32), f_L_digest_L6 k g n v1 v3 = some res → JJ p l e rm_L_digest s m args below meth c 5 G shC A (MQ below (k_Ql G shC A res g) args s 0 0 A) 6 [(0, .ref (G.2.1 0)), (1, .long v1), (3, .int v3)] [] g := by
  intro n
  induction n with
  | zero =>
    intro v1 v3 hf
    rw [f_L_digest_L6] at hf
    cases hf
  | succ n ih =>
    intro v1 v3 hf
    rw [f_L_digest_L6] at hf
    refine r_iload_n 7 C 2 dL_digest_6 rfl rfl ?_
    refine r_bipush (v := 9) 9 C dL_digest_7 rfl (by decide) ?_
    refine r_icmp_ge 31 12 C dL_digest_9 rfl rfl (fun c1 => ?_) (fun c1 => ?_)
    · have hf := oip c1 hf
      refine r_sub [(0, .ref (G.2.1 0)), (1, .long v1)] [0, 1] rfl ?_
      exact hk _ hf
    · have hf := oin c1 hf
      refine r_ldc2 (v := 31) 15 C dL_digest_12 rfl (by decide +kernel) ?_
      refine r_lload_n 16 C 1 dL_digest_15 rfl rfl ?_
      refine r_lmul 17 C dL_digest_16 rfl ?_
      refine r_aload_n 18 C 0 dL_digest_17 rfl rfl ?_
      refine r_iload_n 19 C 2 dL_digest_18 rfl rfl ?_
      obtain ⟨x2, hx2, hf⟩ := ob hf
      refine r_Vi (As := [.int v3]) 22 C shC_0 rfl (c_X4_count l G A v3 g _ hx2) (cwV 1 C.1.2.2.2.2 gL_digest_X4_count rfl rfl rfl hd_X4_count ⟨Nat.le_of_ble_eq_true rfl, Nat.le_of_ble_eq_true rfl⟩) rfl rfl (Nat.le_of_ble_eq_true rfl) dL_digest_19 rfl ?_
      refine r_i2l 23 C dL_digest_22 rfl ?_
      refine r_ladd 24 C dL_digest_23 rfl ?_
      obtain ⟨x3, hx3, hf⟩ := ol hf
      refine r_lstore_n 25 C [(1, .long x3), (0, .ref (G.2.1 0)), (3, .int v3)] dL_digest_24 rfl hx3 (by decide) rfl ?_
      obtain ⟨x4, hx4, hf⟩ := ol hf
      refine r_iinc 28 C 2 x4 [(3, .int x4), (1, .long x3), (0, .ref (G.2.1 0))] dL_digest_25 rfl rfl hx4.symm (by decide) rfl ?_
      refine r_goto 6 C dL_digest_28 rfl ?_
      refine r_sub [(0, .ref (G.2.1 0)), (1, .long x3), (3, .int x4)] [2, 1, 0] rfl ?_
      exact ih _ _ hf
set_option maxRecDepth 100000 in
set_option maxHeartbeats 4000000 in
theorem t_L_digest_L56 {p : Program} {l : Launch} {e : Env} {s : State} {m : MethodId} {args : Array Value} {below : List Frame} {meth : Method} {c : Code} {G : GG} {A : Nat → Prop} (C : KX p s m args c cL_digest 5 RL wsL_digest G shC A) (hr : meth.sig.returnType = (some .long)) (hk0 : meth.locks = false)  (v3 : Int32) (g : Mem) {res : Int64} {k : Int64 → Option Int64} (hk : ∀ (v1 : Int64), k v1 = some res → JJ p l e rm_L_digest s m args below meth c 5 G shC A (MQ below (k_Ql G shC A res g) args s 0 0 A) 99 [(0, .ref (G.2.1 0)), (1, .long v1), (3, .int v3)] [] g) : ∀ (n : Nat) (v1 : Int64) (v4 : Int32), f_L_digest_L56 k v3 g n v1 v4 = some res → JJ p l e rm_L_digest s m args below meth c 5 G shC A (MQ below (k_Ql G shC A res g) args s 0 0 A) 56 [(0, .ref (G.2.1 0)), (1, .long v1), (3, .int v3), (4, .int v4)] [] g := by
  intro n
  induction n with
  | zero =>
    intro v1 v4 hf
    rw [f_L_digest_L56] at hf
    cases hf
  | succ n ih =>
    intro v1 v4 hf
    rw [f_L_digest_L56] at hf
    refine r_iload 58 C 3 dL_digest_56 rfl rfl ?_
    refine r_bipush (v := 8) 60 C dL_digest_58 rfl (by decide) ?_
    refine r_icmp_ge 99 63 C dL_digest_60 rfl rfl (fun c9 => ?_) (fun c9 => ?_)
    · have hf := oip c9 hf
      refine r_sub [(0, .ref (G.2.1 0)), (1, .long v1), (3, .int v3)] [0, 1, 2] rfl ?_
      exact hk _ hf
    · have hf := oin c9 hf
      refine r_ldc2 (v := 31) 66 C dL_digest_63 rfl (by decide +kernel) ?_
      refine r_lload_n 67 C 1 dL_digest_66 rfl rfl ?_
      refine r_lmul 68 C dL_digest_67 rfl ?_
      refine r_ldc2 (v := 7) 71 C dL_digest_68 rfl (by decide +kernel) ?_
      refine r_aload_n 72 C 0 dL_digest_71 rfl rfl ?_
      refine r_iload_n 73 C 2 dL_digest_72 rfl rfl ?_
      refine r_iload 75 C 3 dL_digest_73 rfl rfl ?_
      refine r_iconst (v := 0) 76 C dL_digest_75 rfl (by decide) ?_
      obtain ⟨x10, hx10, hf⟩ := ob hf
      refine r_Vi (As := [.int v3, .int v4, .int 0]) 79 C shC_0 rfl (c_X4_voted l G A v3 v4 0 g _ hx10) (cwV 3 C.1.2.2.2.2 gL_digest_X4_voted rfl rfl rfl hd_X4_voted ⟨Nat.le_of_ble_eq_true rfl, Nat.le_of_ble_eq_true rfl⟩) rfl rfl (Nat.le_of_ble_eq_true rfl) dL_digest_76 rfl ?_
      refine r_i2l 80 C dL_digest_79 rfl ?_
      refine r_lmul 81 C dL_digest_80 rfl ?_
      refine r_ladd 82 C dL_digest_81 rfl ?_
      refine r_aload_n 83 C 0 dL_digest_82 rfl rfl ?_
      refine r_iload_n 84 C 2 dL_digest_83 rfl rfl ?_
      refine r_iload 86 C 3 dL_digest_84 rfl rfl ?_
      refine r_iconst (v := 1) 87 C dL_digest_86 rfl (by decide) ?_
      obtain ⟨x11, hx11, hf⟩ := ob hf
      refine r_Vi (As := [.int v3, .int v4, .int 1]) 90 C shC_0 rfl (c_X4_voted l G A v3 v4 1 g _ hx11) (cwV 3 C.1.2.2.2.2 gL_digest_X4_voted rfl rfl rfl hd_X4_voted ⟨Nat.le_of_ble_eq_true rfl, Nat.le_of_ble_eq_true rfl⟩) rfl rfl (Nat.le_of_ble_eq_true rfl) dL_digest_87 rfl ?_
      refine r_i2l 91 C dL_digest_90 rfl ?_
      refine r_ladd 92 C dL_digest_91 rfl ?_
      obtain ⟨x12, hx12, hf⟩ := ol hf
      refine r_lstore_n 93 C [(1, .long x12), (0, .ref (G.2.1 0)), (3, .int v3), (4, .int v4)] dL_digest_92 rfl hx12 (by decide) rfl ?_
      obtain ⟨x13, hx13, hf⟩ := ol hf
      refine r_iinc 96 C 3 x13 [(4, .int x13), (1, .long x12), (0, .ref (G.2.1 0)), (3, .int v3)] dL_digest_93 rfl rfl hx13.symm (by decide) rfl ?_
      refine r_goto 56 C dL_digest_96 rfl ?_
      refine r_sub [(0, .ref (G.2.1 0)), (1, .long x12), (3, .int v3), (4, .int x13)] [2, 1, 3, 0] rfl ?_
      exact ih _ _ hf
set_option maxRecDepth 100000 in
set_option maxHeartbeats 4000000 in
theorem t_L_digest_L33 {p : Program} {l : Launch} {e : Env} {s : State} {m : MethodId} {args : Array Value} {below : List Frame} {meth : Method} {c : Code} {G : GG} {A : Nat → Prop} (C : KX p s m args c cL_digest 5 RL wsL_digest G shC A) (hr : meth.sig.returnType = (some .long)) (hk0 : meth.locks = false)  (g : Mem) {res : Int64} {k : Int64 → Option Int64} (hk : ∀ (v1 : Int64), k v1 = some res → JJ p l e rm_L_digest s m args below meth c 5 G shC A (MQ below (k_Ql G shC A res g) args s 0 0 A) 105 [(0, .ref (G.2.1 0)), (1, .long v1)] [] g) : ∀ (n : Nat) (v1 : Int64) (v3 : Int32), f_L_digest_L33 k g n v1 v3 = some res → JJ p l e rm_L_digest s m args below meth c 5 G shC A (MQ below (k_Ql G shC A res g) args s 0 0 A) 33 [(0, .ref (G.2.1 0)), (1, .long v1), (3, .int v3)] [] g := by
  intro n
  induction n with
  | zero =>
    intro v1 v3 hf
    rw [f_L_digest_L33] at hf
    cases hf
  | succ n ih =>
    intro v1 v3 hf
    rw [f_L_digest_L33] at hf
    refine r_iload_n 34 C 2 dL_digest_33 rfl rfl ?_
    refine r_bipush (v := 6) 36 C dL_digest_34 rfl (by decide) ?_
    refine r_icmp_ge 105 39 C dL_digest_36 rfl rfl (fun c6 => ?_) (fun c6 => ?_)
    · have hf := oip c6 hf
      refine r_sub [(0, .ref (G.2.1 0)), (1, .long v1)] [0, 1] rfl ?_
      exact hk _ hf
    · have hf := oin c6 hf
      refine r_ldc2 (v := 31) 42 C dL_digest_39 rfl (by decide +kernel) ?_
      refine r_lload_n 43 C 1 dL_digest_42 rfl rfl ?_
      refine r_lmul 44 C dL_digest_43 rfl ?_
      refine r_aload_n 45 C 0 dL_digest_44 rfl rfl ?_
      refine r_iload_n 46 C 2 dL_digest_45 rfl rfl ?_
      refine r_iconst (v := 1) 47 C dL_digest_46 rfl (by decide) ?_
      obtain ⟨x7, hx7, hf⟩ := ob hf
      refine r_Vi (As := [.int v3, .int 1]) 50 C shC_0 rfl (c_X4_acceptor l G A v3 1 g _ hx7) (cwV 2 C.1.2.2.2.2 gL_digest_X4_acceptor rfl rfl rfl hd_X4_acceptor ⟨Nat.le_of_ble_eq_true rfl, Nat.le_of_ble_eq_true rfl⟩) rfl rfl (Nat.le_of_ble_eq_true rfl) dL_digest_47 rfl ?_
      refine r_i2l 51 C dL_digest_50 rfl ?_
      refine r_ladd 52 C dL_digest_51 rfl ?_
      obtain ⟨x8, hx8, hf⟩ := ol hf
      refine r_lstore_n 53 C [(1, .long x8), (0, .ref (G.2.1 0)), (3, .int v3)] dL_digest_52 rfl hx8 (by decide) rfl ?_
      refine r_iconst (v := 1) 54 C dL_digest_53 rfl (by decide) ?_
      refine r_istore 56 C [(4, .int 1), (1, .long x8), (0, .ref (G.2.1 0)), (3, .int v3)] dL_digest_54 rfl rfl (by decide) rfl ?_
      refine r_sub [(0, .ref (G.2.1 0)), (1, .long x8), (3, .int v3), (4, .int 1)] [2, 1, 3, 0] rfl ?_
      refine t_L_digest_L56 C hr hk0 v3 g (fun x14 hf => ?_) fuel0 _ _ hf
      obtain ⟨x15, hx15, hf⟩ := ol hf
      refine r_iinc 102 C 2 x15 [(3, .int x15), (0, .ref (G.2.1 0)), (1, .long x14)] dL_digest_99 rfl rfl hx15.symm (by decide) rfl ?_
      refine r_goto 33 C dL_digest_102 rfl ?_
      refine r_sub [(0, .ref (G.2.1 0)), (1, .long x14), (3, .int x15)] [1, 2, 0] rfl ?_
      exact ih _ _ hf
set_option maxRecDepth 100000 in
set_option maxHeartbeats 4000000 in
theorem t_L_digest_L115 {p : Program} {l : Launch} {e : Env} {s : State} {m : MethodId} {args : Array Value} {below : List Frame} {meth : Method} {c : Code} {G : GG} {A : Nat → Prop} (C : KX p s m args c cL_digest 5 RL wsL_digest G shC A) (hr : meth.sig.returnType = (some .long)) (hk0 : meth.locks = false)  (v3 : Int32) (g : Mem) {res : Int64} {k : Int64 → Option Int64} (hk : ∀ (v1 : Int64), k v1 = some res → JJ p l e rm_L_digest s m args below meth c 5 G shC A (MQ below (k_Ql G shC A res g) args s 0 0 A) 142 [(0, .ref (G.2.1 0)), (1, .long v1), (3, .int v3)] [] g) : ∀ (n : Nat) (v1 : Int64) (v4 : Int32), f_L_digest_L115 k v3 g n v1 v4 = some res → JJ p l e rm_L_digest s m args below meth c 5 G shC A (MQ below (k_Ql G shC A res g) args s 0 0 A) 115 [(0, .ref (G.2.1 0)), (1, .long v1), (3, .int v3), (4, .int v4)] [] g := by
  intro n
  induction n with
  | zero =>
    intro v1 v4 hf
    rw [f_L_digest_L115] at hf
    cases hf
  | succ n ih =>
    intro v1 v4 hf
    rw [f_L_digest_L115] at hf
    refine r_iload 117 C 3 dL_digest_115 rfl rfl ?_
    refine r_iconst (v := 4) 118 C dL_digest_117 rfl (by decide) ?_
    refine r_icmp_ge 142 121 C dL_digest_118 rfl rfl (fun c18 => ?_) (fun c18 => ?_)
    · have hf := oip c18 hf
      refine r_sub [(0, .ref (G.2.1 0)), (1, .long v1), (3, .int v3)] [0, 1, 2] rfl ?_
      exact hk _ hf
    · have hf := oin c18 hf
      refine r_ldc2 (v := 31) 124 C dL_digest_121 rfl (by decide +kernel) ?_
      refine r_lload_n 125 C 1 dL_digest_124 rfl rfl ?_
      refine r_lmul 126 C dL_digest_125 rfl ?_
      refine r_aload_n 127 C 0 dL_digest_126 rfl rfl ?_
      refine r_iload_n 128 C 2 dL_digest_127 rfl rfl ?_
      refine r_iload 130 C 3 dL_digest_128 rfl rfl ?_
      obtain ⟨x19, hx19, hf⟩ := ob hf
      refine r_Vi (As := [.int v3, .int v4]) 133 C shC_0 rfl (c_X4_proposer l G A v3 v4 g _ hx19) (cwV 2 C.1.2.2.2.2 gL_digest_X4_proposer rfl rfl rfl hd_X4_proposer ⟨Nat.le_of_ble_eq_true rfl, Nat.le_of_ble_eq_true rfl⟩) rfl rfl (Nat.le_of_ble_eq_true rfl) dL_digest_130 rfl ?_
      refine r_i2l 134 C dL_digest_133 rfl ?_
      refine r_ladd 135 C dL_digest_134 rfl ?_
      obtain ⟨x20, hx20, hf⟩ := ol hf
      refine r_lstore_n 136 C [(1, .long x20), (0, .ref (G.2.1 0)), (3, .int v3), (4, .int v4)] dL_digest_135 rfl hx20 (by decide) rfl ?_
      obtain ⟨x21, hx21, hf⟩ := ol hf
      refine r_iinc 139 C 3 x21 [(4, .int x21), (1, .long x20), (0, .ref (G.2.1 0)), (3, .int v3)] dL_digest_136 rfl rfl hx21.symm (by decide) rfl ?_
      refine r_goto 115 C dL_digest_139 rfl ?_
      refine r_sub [(0, .ref (G.2.1 0)), (1, .long x20), (3, .int v3), (4, .int x21)] [2, 1, 3, 0] rfl ?_
      exact ih _ _ hf
set_option maxRecDepth 100000 in
set_option maxHeartbeats 4000000 in
theorem t_L_digest_L145 {p : Program} {l : Launch} {e : Env} {s : State} {m : MethodId} {args : Array Value} {below : List Frame} {meth : Method} {c : Code} {G : GG} {A : Nat → Prop} (C : KX p s m args c cL_digest 5 RL wsL_digest G shC A) (hr : meth.sig.returnType = (some .long)) (hk0 : meth.locks = false)  (v3 : Int32) (g : Mem) {res : Int64} {k : Int64 → Option Int64} (hk : ∀ (v1 : Int64), k v1 = some res → JJ p l e rm_L_digest s m args below meth c 5 G shC A (MQ below (k_Ql G shC A res g) args s 0 0 A) 188 [(0, .ref (G.2.1 0)), (1, .long v1), (3, .int v3)] [] g) : ∀ (n : Nat) (v1 : Int64) (v4 : Int32), f_L_digest_L145 k v3 g n v1 v4 = some res → JJ p l e rm_L_digest s m args below meth c 5 G shC A (MQ below (k_Ql G shC A res g) args s 0 0 A) 145 [(0, .ref (G.2.1 0)), (1, .long v1), (3, .int v3), (4, .int v4)] [] g := by
  intro n
  induction n with
  | zero =>
    intro v1 v4 hf
    rw [f_L_digest_L145] at hf
    cases hf
  | succ n ih =>
    intro v1 v4 hf
    rw [f_L_digest_L145] at hf
    refine r_iload 147 C 3 dL_digest_145 rfl rfl ?_
    refine r_bipush (v := 8) 149 C dL_digest_147 rfl (by decide) ?_
    refine r_icmp_ge 188 152 C dL_digest_149 rfl rfl (fun c23 => ?_) (fun c23 => ?_)
    · have hf := oip c23 hf
      refine r_sub [(0, .ref (G.2.1 0)), (1, .long v1), (3, .int v3)] [0, 1, 2] rfl ?_
      exact hk _ hf
    · have hf := oin c23 hf
      refine r_ldc2 (v := 31) 155 C dL_digest_152 rfl (by decide +kernel) ?_
      refine r_lload_n 156 C 1 dL_digest_155 rfl rfl ?_
      refine r_lmul 157 C dL_digest_156 rfl ?_
      refine r_ldc2 (v := 7) 160 C dL_digest_157 rfl (by decide +kernel) ?_
      refine r_aload_n 161 C 0 dL_digest_160 rfl rfl ?_
      refine r_iload_n 162 C 2 dL_digest_161 rfl rfl ?_
      refine r_iload 164 C 3 dL_digest_162 rfl rfl ?_
      refine r_iconst (v := 0) 165 C dL_digest_164 rfl (by decide) ?_
      obtain ⟨x24, hx24, hf⟩ := ob hf
      refine r_Vi (As := [.int v3, .int v4, .int 0]) 168 C shC_0 rfl (c_X4_proposed l G A v3 v4 0 g _ hx24) (cwV 3 C.1.2.2.2.2 gL_digest_X4_proposed rfl rfl rfl hd_X4_proposed ⟨Nat.le_of_ble_eq_true rfl, Nat.le_of_ble_eq_true rfl⟩) rfl rfl (Nat.le_of_ble_eq_true rfl) dL_digest_165 rfl ?_
      refine r_i2l 169 C dL_digest_168 rfl ?_
      refine r_lmul 170 C dL_digest_169 rfl ?_
      refine r_ladd 171 C dL_digest_170 rfl ?_
      refine r_aload_n 172 C 0 dL_digest_171 rfl rfl ?_
      refine r_iload_n 173 C 2 dL_digest_172 rfl rfl ?_
      refine r_iload 175 C 3 dL_digest_173 rfl rfl ?_
      refine r_iconst (v := 1) 176 C dL_digest_175 rfl (by decide) ?_
      obtain ⟨x25, hx25, hf⟩ := ob hf
      refine r_Vi (As := [.int v3, .int v4, .int 1]) 179 C shC_0 rfl (c_X4_proposed l G A v3 v4 1 g _ hx25) (cwV 3 C.1.2.2.2.2 gL_digest_X4_proposed rfl rfl rfl hd_X4_proposed ⟨Nat.le_of_ble_eq_true rfl, Nat.le_of_ble_eq_true rfl⟩) rfl rfl (Nat.le_of_ble_eq_true rfl) dL_digest_176 rfl ?_
      refine r_i2l 180 C dL_digest_179 rfl ?_
      refine r_ladd 181 C dL_digest_180 rfl ?_
      obtain ⟨x26, hx26, hf⟩ := ol hf
      refine r_lstore_n 182 C [(1, .long x26), (0, .ref (G.2.1 0)), (3, .int v3), (4, .int v4)] dL_digest_181 rfl hx26 (by decide) rfl ?_
      obtain ⟨x27, hx27, hf⟩ := ol hf
      refine r_iinc 185 C 3 x27 [(4, .int x27), (1, .long x26), (0, .ref (G.2.1 0)), (3, .int v3)] dL_digest_182 rfl rfl hx27.symm (by decide) rfl ?_
      refine r_goto 145 C dL_digest_185 rfl ?_
      refine r_sub [(0, .ref (G.2.1 0)), (1, .long x26), (3, .int v3), (4, .int x27)] [2, 1, 3, 0] rfl ?_
      exact ih _ _ hf
set_option maxRecDepth 100000 in
set_option maxHeartbeats 4000000 in
theorem t_L_digest_L107 {p : Program} {l : Launch} {e : Env} {s : State} {m : MethodId} {args : Array Value} {below : List Frame} {meth : Method} {c : Code} {G : GG} {A : Nat → Prop} (C : KX p s m args c cL_digest 5 RL wsL_digest G shC A) (hr : meth.sig.returnType = (some .long)) (hk0 : meth.locks = false)  (g : Mem) {res : Int64} {k : Int64 → Option Int64} (hk : ∀ (v1 : Int64), k v1 = some res → JJ p l e rm_L_digest s m args below meth c 5 G shC A (MQ below (k_Ql G shC A res g) args s 0 0 A) 194 [(0, .ref (G.2.1 0)), (1, .long v1)] [] g) : ∀ (n : Nat) (v1 : Int64) (v3 : Int32), f_L_digest_L107 k g n v1 v3 = some res → JJ p l e rm_L_digest s m args below meth c 5 G shC A (MQ below (k_Ql G shC A res g) args s 0 0 A) 107 [(0, .ref (G.2.1 0)), (1, .long v1), (3, .int v3)] [] g := by
  intro n
  induction n with
  | zero =>
    intro v1 v3 hf
    rw [f_L_digest_L107] at hf
    cases hf
  | succ n ih =>
    intro v1 v3 hf
    rw [f_L_digest_L107] at hf
    refine r_iload_n 108 C 2 dL_digest_107 rfl rfl ?_
    refine r_iconst (v := 3) 109 C dL_digest_108 rfl (by decide) ?_
    refine r_icmp_ge 194 112 C dL_digest_109 rfl rfl (fun c17 => ?_) (fun c17 => ?_)
    · have hf := oip c17 hf
      refine r_sub [(0, .ref (G.2.1 0)), (1, .long v1)] [0, 1] rfl ?_
      exact hk _ hf
    · have hf := oin c17 hf
      refine r_iconst (v := 0) 113 C dL_digest_112 rfl (by decide) ?_
      refine r_istore 115 C [(4, .int 0), (0, .ref (G.2.1 0)), (1, .long v1), (3, .int v3)] dL_digest_113 rfl rfl (by decide) rfl ?_
      refine r_sub [(0, .ref (G.2.1 0)), (1, .long v1), (3, .int v3), (4, .int 0)] [1, 2, 3, 0] rfl ?_
      refine t_L_digest_L115 C hr hk0 v3 g (fun x22 hf => ?_) fuel0 _ _ hf
      refine r_iconst (v := 1) 143 C dL_digest_142 rfl (by decide) ?_
      refine r_istore 145 C [(4, .int 1), (0, .ref (G.2.1 0)), (1, .long x22), (3, .int v3)] dL_digest_143 rfl rfl (by decide) rfl ?_
      refine r_sub [(0, .ref (G.2.1 0)), (1, .long x22), (3, .int v3), (4, .int 1)] [1, 2, 3, 0] rfl ?_
      refine t_L_digest_L145 C hr hk0 v3 g (fun x28 hf => ?_) fuel0 _ _ hf
      obtain ⟨x29, hx29, hf⟩ := ol hf
      refine r_iinc 191 C 2 x29 [(3, .int x29), (0, .ref (G.2.1 0)), (1, .long x28)] dL_digest_188 rfl rfl hx29.symm (by decide) rfl ?_
      refine r_goto 107 C dL_digest_191 rfl ?_
      refine r_sub [(0, .ref (G.2.1 0)), (1, .long x28), (3, .int x29)] [1, 2, 0] rfl ?_
      exact ih _ _ hf
set_option maxRecDepth 100000 in
set_option maxHeartbeats 4000000 in
theorem t_L_digest_L196 {p : Program} {l : Launch} {e : Env} {s : State} {m : MethodId} {args : Array Value} {below : List Frame} {meth : Method} {c : Code} {G : GG} {A : Nat → Prop} (C : KX p s m args c cL_digest 5 RL wsL_digest G shC A) (hr : meth.sig.returnType = (some .long)) (hk0 : meth.locks = false)  (g : Mem) {res : Int64} {k : Int64 → Option Int64} (hk : ∀ (v1 : Int64), k v1 = some res → JJ p l e rm_L_digest s m args below meth c 5 G shC A (MQ below (k_Ql G shC A res g) args s 0 0 A) 234 [(1, .long v1)] [] g) : ∀ (n : Nat) (v1 : Int64) (v3 : Int32), f_L_digest_L196 k g n v1 v3 = some res → JJ p l e rm_L_digest s m args below meth c 5 G shC A (MQ below (k_Ql G shC A res g) args s 0 0 A) 196 [(0, .ref (G.2.1 0)), (1, .long v1), (3, .int v3)] [] g := by
  intro n
  induction n with
  | zero =>
    intro v1 v3 hf
    rw [f_L_digest_L196] at hf
    cases hf
  | succ n ih =>
    intro v1 v3 hf
    rw [f_L_digest_L196] at hf
    refine r_iload_n 197 C 2 dL_digest_196 rfl rfl ?_
    refine r_bipush (v := 17) 199 C dL_digest_197 rfl (by decide) ?_
    refine r_icmp_ge 234 202 C dL_digest_199 rfl rfl (fun c31 => ?_) (fun c31 => ?_)
    · have hf := oip c31 hf
      refine r_sub [(1, .long v1)] [1] rfl ?_
      exact hk _ hf
    · have hf := oin c31 hf
      refine r_ldc2 (v := 31) 205 C dL_digest_202 rfl (by decide +kernel) ?_
      refine r_lload_n 206 C 1 dL_digest_205 rfl rfl ?_
      refine r_lmul 207 C dL_digest_206 rfl ?_
      refine r_ldc2 (v := 7) 210 C dL_digest_207 rfl (by decide +kernel) ?_
      refine r_aload_n 211 C 0 dL_digest_210 rfl rfl ?_
      refine r_iload_n 212 C 2 dL_digest_211 rfl rfl ?_
      refine r_iconst (v := 0) 213 C dL_digest_212 rfl (by decide) ?_
      obtain ⟨x32, hx32, hf⟩ := ob hf
      refine r_Vi (As := [.int v3, .int 0]) 216 C shC_0 rfl (c_X4_slot l G A v3 0 g _ hx32) (cwV 2 C.1.2.2.2.2 gL_digest_X4_slot rfl rfl rfl hd_X4_slot ⟨Nat.le_of_ble_eq_true rfl, Nat.le_of_ble_eq_true rfl⟩) rfl rfl (Nat.le_of_ble_eq_true rfl) dL_digest_213 rfl ?_
      refine r_i2l 217 C dL_digest_216 rfl ?_
      refine r_lmul 218 C dL_digest_217 rfl ?_
      refine r_ladd 219 C dL_digest_218 rfl ?_
      refine r_aload_n 220 C 0 dL_digest_219 rfl rfl ?_
      refine r_iload_n 221 C 2 dL_digest_220 rfl rfl ?_
      refine r_iconst (v := 1) 222 C dL_digest_221 rfl (by decide) ?_
      obtain ⟨x33, hx33, hf⟩ := ob hf
      refine r_Vi (As := [.int v3, .int 1]) 225 C shC_0 rfl (c_X4_slot l G A v3 1 g _ hx33) (cwV 2 C.1.2.2.2.2 gL_digest_X4_slot rfl rfl rfl hd_X4_slot ⟨Nat.le_of_ble_eq_true rfl, Nat.le_of_ble_eq_true rfl⟩) rfl rfl (Nat.le_of_ble_eq_true rfl) dL_digest_222 rfl ?_
      refine r_i2l 226 C dL_digest_225 rfl ?_
      refine r_ladd 227 C dL_digest_226 rfl ?_
      obtain ⟨x34, hx34, hf⟩ := ol hf
      refine r_lstore_n 228 C [(1, .long x34), (0, .ref (G.2.1 0)), (3, .int v3)] dL_digest_227 rfl hx34 (by decide) rfl ?_
      obtain ⟨x35, hx35, hf⟩ := ol hf
      refine r_iinc 231 C 2 x35 [(3, .int x35), (1, .long x34), (0, .ref (G.2.1 0))] dL_digest_228 rfl rfl hx35.symm (by decide) rfl ?_
      refine r_goto 196 C dL_digest_231 rfl ?_
      refine r_sub [(0, .ref (G.2.1 0)), (1, .long x34), (3, .int x35)] [2, 1, 0] rfl ?_
      exact ih _ _ hf
set_option maxRecDepth 100000 in
set_option maxHeartbeats 4000000 in
theorem c_L_digest (l : Launch) (G : GG) (A : Nat → Prop)   (g : Mem) (res : Int64) (hf : f_L_digest  g = some res) : k_Ml l yL_digest wsL_digest rm_L_digest G shC A [.ref (G.2.1 0)] g res g := by
  refine k_ofl (cc := cL_digest) (nL := 5) (own := RL) (by decide +kernel) rfl rfl (by simp [lg_sl, Value.category]) ⟨rfl, rfl⟩ [(0, .ref (G.2.1 0))] rfl ?_
  intro p e s m args below meth c C hr hk0
  rw [f_L_digest] at hf
  refine r_ldc2 (v := 163) 3 C dL_digest_0 rfl (by decide +kernel) ?_
  refine r_lstore_n 4 C [(1, .long 163), (0, .ref (G.2.1 0))] dL_digest_3 rfl rfl (by decide) rfl ?_
  refine r_iconst (v := 0) 5 C dL_digest_4 rfl (by decide) ?_
  refine r_istore_n 6 C [(3, .int 0), (1, .long 163), (0, .ref (G.2.1 0))] dL_digest_5 rfl rfl (by decide) rfl ?_
  refine r_sub [(0, .ref (G.2.1 0)), (1, .long 163), (3, .int 0)] [2, 1, 0] rfl ?_
  refine t_L_digest_L6 C hr hk0 g (fun x5 hf => ?_) fuel0 _ _ hf
  refine r_iconst (v := 0) 32 C dL_digest_31 rfl (by decide) ?_
  refine r_istore_n 33 C [(3, .int 0), (0, .ref (G.2.1 0)), (1, .long x5)] dL_digest_32 rfl rfl (by decide) rfl ?_
  refine r_sub [(0, .ref (G.2.1 0)), (1, .long x5), (3, .int 0)] [1, 2, 0] rfl ?_
  refine t_L_digest_L33 C hr hk0 g (fun x16 hf => ?_) fuel0 _ _ hf
  refine r_iconst (v := 0) 106 C dL_digest_105 rfl (by decide) ?_
  refine r_istore_n 107 C [(3, .int 0), (0, .ref (G.2.1 0)), (1, .long x16)] dL_digest_106 rfl rfl (by decide) rfl ?_
  refine r_sub [(0, .ref (G.2.1 0)), (1, .long x16), (3, .int 0)] [1, 2, 0] rfl ?_
  refine t_L_digest_L107 C hr hk0 g (fun x30 hf => ?_) fuel0 _ _ hf
  refine r_iconst (v := 1) 195 C dL_digest_194 rfl (by decide) ?_
  refine r_istore_n 196 C [(3, .int 1), (0, .ref (G.2.1 0)), (1, .long x30)] dL_digest_195 rfl rfl (by decide) rfl ?_
  refine r_sub [(0, .ref (G.2.1 0)), (1, .long x30), (3, .int 1)] [1, 2, 0] rfl ?_
  refine t_L_digest_L196 C hr hk0 g (fun x36 hf => ?_) fuel0 _ _ hf
  refine r_lload_n 235 C 0 dL_digest_234 rfl rfl ?_
  have hf := Option.some.inj hf
  subst hf
  exact r_lret C hr hk0 dL_digest_235
