def rm_L_performs : Room := { frames := 8, cells := 0, slots := 0, locals := 210 }
theorem hd_L_performs : yL_performs.cls ≠ "java/lang/invoke/MethodHandle" ∧ yL_performs.cls ≠ "java/lang/invoke/VarHandle" ∧ (parseMethodDescriptor yL_performs.desc).map (fun d => d.parameters.length) = some 3 := by decide +kernel
set_option maxRecDepth 100000 in
set_option maxHeartbeats 4000000 in
theorem t_L_performs_J173 {p : Program} {l : Launch} {e : Env} {s : State} {m : MethodId} {args : Array Value} {below : List Frame} {meth : Method} {c : Code} {G : GG} {A : Nat → Prop} (C : KX p s m args c cL_performs 10 RL wsL_performs G shC A) (hr : meth.sig.returnType = (some .boolean)) (hk0 : meth.locks = false) (a2 : Int32) (a3 : Int32)  (v7 : Int64) (g : Mem) {res : Bool × Mem} (hf : f_L_performs_J173 v7 g = some res) : JJ p l e rm_L_performs s m args below meth c 10 G shC A (MQ below (k_Qi G shC A (bI res.1) res.2) args s 0 0 A) 173 [(0, .ref (G.2.1 0)), (7, .long v7)] [] g := by
  rw [f_L_performs_J173] at hf
  refine r_aload_n 174 C 0 dL_performs_173 rfl rfl ?_
  obtain ⟨x24, hx24, hf⟩ := ob hf
  refine r_Sl (As := [.ref (G.2.1 0)]) 177 C (c_L_digest l G A g _ hx24) (va_cwS 1 C.1.2.2.2.2 gL_performs_L_digest rfl rfl rfl hd_L_digest ⟨Nat.le_of_ble_eq_true rfl, Nat.le_of_ble_eq_true rfl⟩) rfl rfl (Nat.le_of_ble_eq_true rfl) dL_performs_174 rfl ?_
  refine r_lload 179 C 1 dL_performs_177 rfl rfl ?_
  refine r_lcmp 180 C dL_performs_179 rfl ?_
  refine r_if_ne 197 183 C dL_performs_180 rfl rfl (fun c25 => ?_) (fun c25 => ?_)
  · have hf := oin c25 hf
    refine r_iconst (v := 0) 198 C dL_performs_197 rfl (by decide) ?_
    have hf := Option.some.inj hf
    subst hf
    exact r_zret C hr hk0 false rfl dL_performs_198
  · have hf := oip c25 hf
    refine r_aload_n 184 C 0 dL_performs_183 rfl rfl ?_
    refine r_iconst (v := 3) 185 C dL_performs_184 rfl (by decide) ?_
    refine r_Vi (As := [.int 3]) 188 C shC_0 rfl (c_X4_refusal l G A 3 g _ rfl) (cwV 1 C.1.2.2.2.2 gL_performs_X4_refusal rfl rfl rfl hd_X4_refusal ⟨Nat.le_of_ble_eq_true rfl, Nat.le_of_ble_eq_true rfl⟩) rfl rfl (Nat.le_of_ble_eq_true rfl) dL_performs_185 rfl ?_
    refine r_bipush (v := (-2)) 190 C dL_performs_188 rfl (by decide) ?_
    refine r_icmp_ne 197 193 C dL_performs_190 rfl rfl (fun c26 => ?_) (fun c26 => ?_)
    · have hf := oin c26 hf
      refine r_iconst (v := 0) 198 C dL_performs_197 rfl (by decide) ?_
      have hf := Option.some.inj hf
      subst hf
      exact r_zret C hr hk0 false rfl dL_performs_198
    · have hf := oip c26 hf
      refine r_iconst (v := 1) 194 C dL_performs_193 rfl (by decide) ?_
      refine r_goto 198 C dL_performs_194 rfl ?_
      have hf := Option.some.inj hf
      subst hf
      exact r_zret C hr hk0 true rfl dL_performs_198
set_option maxRecDepth 100000 in
set_option maxHeartbeats 4000000 in
theorem t_L_performs_J65 {p : Program} {l : Launch} {e : Env} {s : State} {m : MethodId} {args : Array Value} {below : List Frame} {meth : Method} {c : Code} {G : GG} {A : Nat → Prop} (C : KX p s m args c cL_performs 10 RL wsL_performs G shC A) (hr : meth.sig.returnType = (some .boolean)) (hk0 : meth.locks = false) (a2 : Int32) (a3 : Int32)  (v1 : Int32) (v2 : Int32) (s0 : Int32) (g : Mem) {res : Bool × Mem} (hf : f_L_performs_J65 v1 v2 s0 g = some res) : JJ p l e rm_L_performs s m args below meth c 10 G shC A (MQ below (k_Qi G shC A (bI res.1) res.2) args s 0 0 A) 65 [(0, .ref (G.2.1 0)), (1, .int v1), (2, .int v2)] [.int s0] g := by
  rw [f_L_performs_J65] at hf
  refine r_istore 67 C [(4, .int s0), (0, .ref (G.2.1 0)), (1, .int v1), (2, .int v2)] dL_performs_65 rfl rfl (by decide) rfl ?_
  refine r_aload_n 68 C 1 dL_performs_67 rfl rfl ?_
  refine r_bipush (v := 9) 70 C dL_performs_68 rfl (by decide) ?_
  obtain ⟨x13, hx13, hf⟩ := ob hf
  refine r_Vi (As := [.int 9]) 73 C shC_0 rfl (c_X4_count l G A 9 g _ hx13) (cwV 1 C.1.2.2.2.2 gL_performs_X4_count rfl rfl rfl hd_X4_count ⟨Nat.le_of_ble_eq_true rfl, Nat.le_of_ble_eq_true rfl⟩) rfl rfl (Nat.le_of_ble_eq_true rfl) dL_performs_70 rfl ?_
  refine r_istore 75 C [(5, .int x13), (4, .int s0), (0, .ref (G.2.1 0)), (1, .int v1), (2, .int v2)] dL_performs_73 rfl rfl (by decide) rfl ?_
  refine r_aload_n 76 C 2 dL_performs_75 rfl rfl ?_
  obtain ⟨x14, g15, hx14, hf⟩ := ob2 hf
  refine r_Vi (As := []) 79 C shC_0 rfl (c_X4_perform l G A g _ hx14) (cwV 0 C.1.2.2.2.2 gL_performs_X4_perform rfl rfl rfl hd_X4_perform ⟨Nat.le_of_ble_eq_true rfl, Nat.le_of_ble_eq_true rfl⟩) rfl rfl (Nat.le_of_ble_eq_true rfl) dL_performs_76 rfl ?_
  refine r_istore 81 C [(6, .int x14), (5, .int x13), (4, .int s0), (0, .ref (G.2.1 0)), (1, .int v1), (2, .int v2)] dL_performs_79 rfl rfl (by decide) rfl ?_
  refine r_iload 83 C 2 dL_performs_81 rfl rfl ?_
  refine r_if_ne 136 86 C dL_performs_83 rfl rfl (fun c16 => ?_) (fun c16 => ?_)
  · have hf := oin c16 hf
    refine r_aload_n 137 C 3 dL_performs_136 rfl rfl ?_
    obtain ⟨x17, hx17, hf⟩ := ob hf
    refine r_Sl (As := [.ref (G.2.1 0)]) 140 C (c_L_digest l G A g15 _ hx17) (va_cwS 1 C.1.2.2.2.2 gL_performs_L_digest rfl rfl rfl hd_L_digest ⟨Nat.le_of_ble_eq_true rfl, Nat.le_of_ble_eq_true rfl⟩) rfl rfl (Nat.le_of_ble_eq_true rfl) dL_performs_137 rfl ?_
    refine r_lstore 142 C [(7, .long x17), (6, .int x14), (5, .int x13), (4, .int s0), (0, .ref (G.2.1 0)), (1, .int v1), (2, .int v2)] dL_performs_140 rfl rfl (by decide) rfl ?_
    refine r_aload_n 143 C 4 dL_performs_142 rfl rfl ?_
    obtain ⟨x18, g19, hx18, hf⟩ := ob2 hf
    refine r_Vi (As := []) 146 C shC_0 rfl (c_X4_undo l G A g15 _ hx18) (cwV 0 C.1.2.2.2.2 gL_performs_X4_undo rfl rfl rfl hd_X4_undo ⟨Nat.le_of_ble_eq_true rfl, Nat.le_of_ble_eq_true rfl⟩) rfl rfl (Nat.le_of_ble_eq_true rfl) dL_performs_143 rfl ?_
    refine r_pop 147 C dL_performs_146 rfl rfl ?_
    refine r_aload_n 148 C 4 dL_performs_147 rfl rfl ?_
    refine r_iload_n 149 C 5 dL_performs_148 rfl rfl ?_
    refine r_iload_n 150 C 6 dL_performs_149 rfl rfl ?_
    obtain ⟨x20, g21, hx20, hf⟩ := ob2 hf
    refine r_Vi (As := [.int v1, .int v2]) 153 C shC_0 rfl (c_X4_promise l G A v1 v2 g19 _ hx20) (cwV 2 C.1.2.2.2.2 gL_performs_X4_promise rfl rfl rfl hd_X4_promise ⟨Nat.le_of_ble_eq_true rfl, Nat.le_of_ble_eq_true rfl⟩) rfl rfl (Nat.le_of_ble_eq_true rfl) dL_performs_150 rfl ?_
    refine r_istore 155 C [(9, .int x20), (7, .long x17), (6, .int x14), (5, .int x13), (4, .int s0), (0, .ref (G.2.1 0)), (1, .int v1), (2, .int v2)] dL_performs_153 rfl rfl (by decide) rfl ?_
    refine r_iload 157 C 2 dL_performs_155 rfl rfl ?_
    refine r_iconst (v := 1) 158 C dL_performs_157 rfl (by decide) ?_
    refine r_icmp_ne 197 161 C dL_performs_158 rfl rfl (fun c22 => ?_) (fun c22 => ?_)
    · have hf := oin c22 hf
      refine r_iconst (v := 0) 198 C dL_performs_197 rfl (by decide) ?_
      have hf := Option.some.inj hf
      subst hf
      exact r_zret C hr hk0 false rfl dL_performs_198
    · have hf := oip c22 hf
      refine r_iload 163 C 0 dL_performs_161 rfl rfl ?_
      refine r_bipush (v := (-5)) 165 C dL_performs_163 rfl (by decide) ?_
      refine r_icmp_eq 173 168 C dL_performs_165 rfl rfl (fun c23 => ?_) (fun c23 => ?_)
      · have hf := oip c23 hf
        refine r_sub [(0, .ref (G.2.1 0)), (7, .long x17)] [5, 1] rfl ?_
        exact t_L_performs_J173 C hr hk0 a2 a3 x17 g21 hf
      · have hf := oin c23 hf
        refine r_iload 170 C 0 dL_performs_168 rfl rfl ?_
        refine r_if_lt 197 173 C dL_performs_170 rfl rfl (fun c27 => ?_) (fun c27 => ?_)
        · have hf := oip c27 hf
          refine r_iconst (v := 0) 198 C dL_performs_197 rfl (by decide) ?_
          have hf := Option.some.inj hf
          subst hf
          exact r_zret C hr hk0 false rfl dL_performs_198
        · have hf := oin c27 hf
          refine r_sub [(0, .ref (G.2.1 0)), (7, .long x17)] [5, 1] rfl ?_
          exact t_L_performs_J173 C hr hk0 a2 a3 x17 g21 hf
  · have hf := oip c16 hf
    refine r_iload 88 C 0 dL_performs_86 rfl rfl ?_
    refine r_bipush (v := (-4)) 90 C dL_performs_88 rfl (by decide) ?_
    refine r_icmp_ne 134 93 C dL_performs_90 rfl rfl (fun c28 => ?_) (fun c28 => ?_)
    · have hf := oin c28 hf
      refine r_iconst (v := 0) 135 C dL_performs_134 rfl (by decide) ?_
      have hf := Option.some.inj hf
      subst hf
      exact r_zret C hr hk0 false rfl dL_performs_135
    · have hf := oip c28 hf
      refine r_aload_n 94 C 3 dL_performs_93 rfl rfl ?_
      refine r_iconst (v := 0) 95 C dL_performs_94 rfl (by decide) ?_
      refine r_Vi (As := [.int 0]) 98 C shC_0 rfl (c_X4_refusal l G A 0 g15 _ rfl) (cwV 1 C.1.2.2.2.2 gL_performs_X4_refusal rfl rfl rfl hd_X4_refusal ⟨Nat.le_of_ble_eq_true rfl, Nat.le_of_ble_eq_true rfl⟩) rfl rfl (Nat.le_of_ble_eq_true rfl) dL_performs_95 rfl ?_
      refine r_if_ne 134 101 C dL_performs_98 rfl rfl (fun c29 => ?_) (fun c29 => ?_)
      · have hf := oin c29 hf
        refine r_iconst (v := 0) 135 C dL_performs_134 rfl (by decide) ?_
        have hf := Option.some.inj hf
        subst hf
        exact r_zret C hr hk0 false rfl dL_performs_135
      · have hf := oip c29 hf
        refine r_aload_n 102 C 3 dL_performs_101 rfl rfl ?_
        refine r_iconst (v := 1) 103 C dL_performs_102 rfl (by decide) ?_
        refine r_Vi (As := [.int 1]) 106 C shC_0 rfl (c_X4_refusal l G A 1 g15 _ rfl) (cwV 1 C.1.2.2.2.2 gL_performs_X4_refusal rfl rfl rfl hd_X4_refusal ⟨Nat.le_of_ble_eq_true rfl, Nat.le_of_ble_eq_true rfl⟩) rfl rfl (Nat.le_of_ble_eq_true rfl) dL_performs_103 rfl ?_
        refine r_bipush (v := (-4)) 108 C dL_performs_106 rfl (by decide) ?_
        refine r_icmp_ne 134 111 C dL_performs_108 rfl rfl (fun c30 => ?_) (fun c30 => ?_)
        · have hf := oin c30 hf
          refine r_iconst (v := 0) 135 C dL_performs_134 rfl (by decide) ?_
          have hf := Option.some.inj hf
          subst hf
          exact r_zret C hr hk0 false rfl dL_performs_135
        · have hf := oip c30 hf
          refine r_aload_n 112 C 3 dL_performs_111 rfl rfl ?_
          refine r_iconst (v := 2) 113 C dL_performs_112 rfl (by decide) ?_
          refine r_Vi (As := [.int 2]) 116 C shC_0 rfl (c_X4_refusal l G A 2 g15 _ rfl) (cwV 1 C.1.2.2.2.2 gL_performs_X4_refusal rfl rfl rfl hd_X4_refusal ⟨Nat.le_of_ble_eq_true rfl, Nat.le_of_ble_eq_true rfl⟩) rfl rfl (Nat.le_of_ble_eq_true rfl) dL_performs_113 rfl ?_
          refine r_if_ne 134 119 C dL_performs_116 rfl rfl (fun c31 => ?_) (fun c31 => ?_)
          · have hf := oin c31 hf
            refine r_iconst (v := 0) 135 C dL_performs_134 rfl (by decide) ?_
            have hf := Option.some.inj hf
            subst hf
            exact r_zret C hr hk0 false rfl dL_performs_135
          · have hf := oip c31 hf
            refine r_aload_n 120 C 3 dL_performs_119 rfl rfl ?_
            refine r_bipush (v := 9) 122 C dL_performs_120 rfl (by decide) ?_
            obtain ⟨x32, hx32, hf⟩ := ob hf
            refine r_Vi (As := [.int 9]) 125 C shC_0 rfl (c_X4_count l G A 9 g15 _ hx32) (cwV 1 C.1.2.2.2.2 gL_performs_X4_count rfl rfl rfl hd_X4_count ⟨Nat.le_of_ble_eq_true rfl, Nat.le_of_ble_eq_true rfl⟩) rfl rfl (Nat.le_of_ble_eq_true rfl) dL_performs_122 rfl ?_
            refine r_iload 127 C 1 dL_performs_125 rfl rfl ?_
            refine r_icmp_ne 134 130 C dL_performs_127 rfl rfl (fun c33 => ?_) (fun c33 => ?_)
            · have hf := oin c33 hf
              refine r_iconst (v := 0) 135 C dL_performs_134 rfl (by decide) ?_
              have hf := Option.some.inj hf
              subst hf
              exact r_zret C hr hk0 false rfl dL_performs_135
            · have hf := oip c33 hf
              refine r_iconst (v := 1) 131 C dL_performs_130 rfl (by decide) ?_
              refine r_goto 135 C dL_performs_131 rfl ?_
              have hf := Option.some.inj hf
              subst hf
              exact r_zret C hr hk0 true rfl dL_performs_135
set_option maxRecDepth 100000 in
set_option maxHeartbeats 4000000 in
theorem t_L_performs_J64 {p : Program} {l : Launch} {e : Env} {s : State} {m : MethodId} {args : Array Value} {below : List Frame} {meth : Method} {c : Code} {G : GG} {A : Nat → Prop} (C : KX p s m args c cL_performs 10 RL wsL_performs G shC A) (hr : meth.sig.returnType = (some .boolean)) (hk0 : meth.locks = false) (a2 : Int32) (a3 : Int32)  (v1 : Int32) (v2 : Int32) (g : Mem) {res : Bool × Mem} (hf : f_L_performs_J64 v1 v2 g = some res) : JJ p l e rm_L_performs s m args below meth c 10 G shC A (MQ below (k_Qi G shC A (bI res.1) res.2) args s 0 0 A) 64 [(0, .ref (G.2.1 0)), (1, .int v1), (2, .int v2)] [] g := by
  rw [f_L_performs_J64] at hf
  refine r_iconst (v := 0) 65 C dL_performs_64 rfl (by decide) ?_
  refine r_sub [(0, .ref (G.2.1 0)), (1, .int v1), (2, .int v2)] [0, 1, 2] rfl ?_
  exact t_L_performs_J65 C hr hk0 a2 a3 v1 v2 0 g hf
set_option maxRecDepth 100000 in
set_option maxHeartbeats 4000000 in
theorem c_L_performs (l : Launch) (G : GG) (A : Nat → Prop) (a2 : Int32) (a3 : Int32)  (g : Mem) (res : Bool × Mem) (hf : f_L_performs a2 a3 g = some res) : k_Mi l yL_performs wsL_performs rm_L_performs G shC A [.ref (G.2.1 0), .int a2, .int a3] g (bI res.1) res.2 := by
  refine k_ofi (cc := cL_performs) (nL := 10) (own := RL) (by decide +kernel) rfl rfl (by simp [lg_sl, Value.category]) ⟨rfl, rfl⟩ [(0, .ref (G.2.1 0)), (1, .int a2), (2, .int a3)] rfl ?_
  intro p e s m args below meth c C hr hk0
  rw [f_L_performs] at hf
  refine r_aload_n 1 C 0 dL_performs_0 rfl rfl ?_
  obtain ⟨x1, g2, hx1, hf⟩ := ob2 hf
  refine r_Vi (As := []) 4 C shC_0 rfl (c_X4_clearText l G A g _ hx1) (cwV 0 C.1.2.2.2.2 gL_performs_X4_clearText rfl rfl rfl hd_X4_clearText ⟨Nat.le_of_ble_eq_true rfl, Nat.le_of_ble_eq_true rfl⟩) rfl rfl (Nat.le_of_ble_eq_true rfl) dL_performs_1 rfl ?_
  refine r_pop 5 C dL_performs_4 rfl rfl ?_
  refine r_aload_n 6 C 0 dL_performs_5 rfl rfl ?_
  refine r_bipush (v := 121) 8 C dL_performs_6 rfl (by decide) ?_
  obtain ⟨x3, g4, hx3, hf⟩ := ob2 hf
  refine r_Vi (As := [.int 121]) 11 C shC_0 rfl (c_X4_type l G A 121 g2 _ hx3) (cwV 1 C.1.2.2.2.2 gL_performs_X4_type rfl rfl rfl hd_X4_type ⟨Nat.le_of_ble_eq_true rfl, Nat.le_of_ble_eq_true rfl⟩) rfl rfl (Nat.le_of_ble_eq_true rfl) dL_performs_8 rfl ?_
  refine r_pop 12 C dL_performs_11 rfl rfl ?_
  refine r_aload_n 13 C 0 dL_performs_12 rfl rfl ?_
  refine r_bipush (v := 48) 15 C dL_performs_13 rfl (by decide) ?_
  refine r_iload_n 16 C 1 dL_performs_15 rfl rfl ?_
  refine r_iadd 17 C dL_performs_16 rfl ?_
  refine r_i2c 18 C dL_performs_17 rfl ?_
  obtain ⟨x5, g6, hx5, hf⟩ := ob2 hf
  refine r_Vi (As := [.int (((48 + a2).toUInt32 % 65536).toInt32)]) 21 C shC_0 rfl (c_X4_type l G A (((48 + a2).toUInt32 % 65536).toInt32) g4 _ hx5) (cwV 1 C.1.2.2.2.2 gL_performs_X4_type rfl rfl rfl hd_X4_type ⟨Nat.le_of_ble_eq_true rfl, Nat.le_of_ble_eq_true rfl⟩) rfl rfl (Nat.le_of_ble_eq_true rfl) dL_performs_18 rfl ?_
  refine r_pop 22 C dL_performs_21 rfl rfl ?_
  refine r_aload_n 23 C 0 dL_performs_22 rfl rfl ?_
  refine r_bipush (v := 44) 25 C dL_performs_23 rfl (by decide) ?_
  obtain ⟨x7, g8, hx7, hf⟩ := ob2 hf
  refine r_Vi (As := [.int 44]) 28 C shC_0 rfl (c_X4_type l G A 44 g6 _ hx7) (cwV 1 C.1.2.2.2.2 gL_performs_X4_type rfl rfl rfl hd_X4_type ⟨Nat.le_of_ble_eq_true rfl, Nat.le_of_ble_eq_true rfl⟩) rfl rfl (Nat.le_of_ble_eq_true rfl) dL_performs_25 rfl ?_
  refine r_pop 29 C dL_performs_28 rfl rfl ?_
  refine r_aload_n 30 C 0 dL_performs_29 rfl rfl ?_
  refine r_bipush (v := 48) 32 C dL_performs_30 rfl (by decide) ?_
  refine r_iload_n 33 C 2 dL_performs_32 rfl rfl ?_
  refine r_iadd 34 C dL_performs_33 rfl ?_
  refine r_i2c 35 C dL_performs_34 rfl ?_
  obtain ⟨x9, g10, hx9, hf⟩ := ob2 hf
  refine r_Vi (As := [.int (((48 + a3).toUInt32 % 65536).toInt32)]) 38 C shC_0 rfl (c_X4_type l G A (((48 + a3).toUInt32 % 65536).toInt32) g8 _ hx9) (cwV 1 C.1.2.2.2.2 gL_performs_X4_type rfl rfl rfl hd_X4_type ⟨Nat.le_of_ble_eq_true rfl, Nat.le_of_ble_eq_true rfl⟩) rfl rfl (Nat.le_of_ble_eq_true rfl) dL_performs_35 rfl ?_
  refine r_pop 39 C dL_performs_38 rfl rfl ?_
  refine r_aload_n 40 C 0 dL_performs_39 rfl rfl ?_
  refine r_iload_n 41 C 1 dL_performs_40 rfl rfl ?_
  refine r_iconst (v := 0) 42 C dL_performs_41 rfl (by decide) ?_
  obtain ⟨x11, hx11, hf⟩ := ob hf
  refine r_Vi (As := [.int a2, .int 0]) 45 C shC_0 rfl (c_X4_proposer l G A a2 0 g10 _ hx11) (cwV 2 C.1.2.2.2.2 gL_performs_X4_proposer rfl rfl rfl hd_X4_proposer ⟨Nat.le_of_ble_eq_true rfl, Nat.le_of_ble_eq_true rfl⟩) rfl rfl (Nat.le_of_ble_eq_true rfl) dL_performs_42 rfl ?_
  refine r_istore_n 46 C [(3, .int x11), (0, .ref (G.2.1 0)), (1, .int a2), (2, .int a3)] dL_performs_45 rfl rfl (by decide) rfl ?_
  refine r_iload_n 47 C 0 dL_performs_46 rfl rfl ?_
  refine r_if_le 64 50 C dL_performs_47 rfl rfl (fun c12 => ?_) (fun c12 => ?_)
  · have hf := oip c12 hf
    refine r_sub [(0, .ref (G.2.1 0)), (1, .int a2), (2, .int a3)] [1, 2, 3] rfl ?_
    exact t_L_performs_J64 C hr hk0 a2 a3 a2 a3 g10 hf
  · have hf := oin c12 hf
    refine r_aload_n 51 C 1 dL_performs_50 rfl rfl ?_
    refine r_iload_n 52 C 3 dL_performs_51 rfl rfl ?_
    refine r_iconst (v := 0) 53 C dL_performs_52 rfl (by decide) ?_
    obtain ⟨x34, hx34, hf⟩ := ob hf
    refine r_Vi (As := [.int a3, .int 0]) 56 C shC_0 rfl (c_X4_acceptor l G A a3 0 g10 _ hx34) (cwV 2 C.1.2.2.2.2 gL_performs_X4_acceptor rfl rfl rfl hd_X4_acceptor ⟨Nat.le_of_ble_eq_true rfl, Nat.le_of_ble_eq_true rfl⟩) rfl rfl (Nat.le_of_ble_eq_true rfl) dL_performs_53 rfl ?_
    refine r_iconst (v := 1) 57 C dL_performs_56 rfl (by decide) ?_
    refine r_icmp_ne 64 60 C dL_performs_57 rfl rfl (fun c35 => ?_) (fun c35 => ?_)
    · have hf := oin c35 hf
      refine r_sub [(0, .ref (G.2.1 0)), (1, .int a2), (2, .int a3)] [1, 2, 3] rfl ?_
      exact t_L_performs_J64 C hr hk0 a2 a3 a2 a3 g10 hf
    · have hf := oip c35 hf
      refine r_iconst (v := 1) 61 C dL_performs_60 rfl (by decide) ?_
      refine r_goto 65 C dL_performs_61 rfl ?_
      refine r_sub [(0, .ref (G.2.1 0)), (1, .int a2), (2, .int a3)] [1, 2, 3] rfl ?_
      exact t_L_performs_J65 C hr hk0 a2 a3 a2 a3 1 g10 hf
