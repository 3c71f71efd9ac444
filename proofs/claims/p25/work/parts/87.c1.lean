def rm_L_bits : Room := { frames := 0, cells := 0, slots := 0, locals := 0 }
theorem hd_L_bits : yL_bits.cls ≠ "java/lang/invoke/MethodHandle" ∧ yL_bits.cls ≠ "java/lang/invoke/VarHandle" ∧ (parseMethodDescriptor yL_bits.desc).map (fun d => d.parameters.length) = some 1 := by decide +kernel
set_option maxRecDepth 100000 in
set_option maxHeartbeats 4000000 in
theorem t_L_bits_L4 {p : Program} {l : Launch} {e : Env} {s : State} {m : MethodId} {args : Array Value} {below : List Frame} {meth : Method} {c : Code} {G : GG} {A : Nat → Prop} (C : KX p s m args c cL_bits 3 RL wsL_bits G shC A) (hr : meth.sig.returnType = (some .int)) (hk0 : meth.locks = false) (a1 : Int32)  (v0 : Int32) (g : Mem) {res : Int32} {k : Int32 → Option Int32} (hk : ∀ (v1 : Int32), k v1 = some res → JJ p l e rm_L_bits s m args below meth c 3 G shC A (MQ below (k_Qi G shC A res g) args s 0 0 A) 24 [(1, .int v1)] [] g) : ∀ (n : Nat) (v1 : Int32) (v2 : Int32), f_L_bits_L4 k v0 n v1 v2 = some res → JJ p l e rm_L_bits s m args below meth c 3 G shC A (MQ below (k_Qi G shC A res g) args s 0 0 A) 4 [(0, .int v0), (1, .int v1), (2, .int v2)] [] g := by
  intro n
  induction n with
  | zero =>
    intro v1 v2 hf
    rw [f_L_bits_L4] at hf
    cases hf
  | succ n ih =>
    intro v1 v2 hf
    rw [f_L_bits_L4] at hf
    refine r_iload_n 5 C 2 dL_bits_4 rfl rfl ?_
    refine r_bipush (v := 6) 7 C dL_bits_5 rfl (by decide) ?_
    refine r_icmp_ge 24 10 C dL_bits_7 rfl rfl (fun c1 => ?_) (fun c1 => ?_)
    · have hf := oip c1 hf
      refine r_sub [(1, .int v1)] [1] rfl ?_
      exact hk _ hf
    · have hf := oin c1 hf
      refine r_iload_n 11 C 1 dL_bits_10 rfl rfl ?_
      refine r_iload_n 12 C 0 dL_bits_11 rfl rfl ?_
      refine r_iload_n 13 C 2 dL_bits_12 rfl rfl ?_
      refine r_ishr 14 C dL_bits_13 rfl ?_
      refine r_iconst (v := 1) 15 C dL_bits_14 rfl (by decide) ?_
      refine r_iand 16 C dL_bits_15 rfl ?_
      refine r_iadd 17 C dL_bits_16 rfl ?_
      obtain ⟨x2, hx2, hf⟩ := ol hf
      refine r_istore_n 18 C [(1, .int x2), (0, .int v0), (2, .int v2)] dL_bits_17 rfl hx2 (by decide) rfl ?_
      obtain ⟨x3, hx3, hf⟩ := ol hf
      refine r_iinc 21 C 2 x3 [(2, .int x3), (1, .int x2), (0, .int v0)] dL_bits_18 rfl rfl hx3.symm (by decide) rfl ?_
      refine r_goto 4 C dL_bits_21 rfl ?_
      refine r_sub [(0, .int v0), (1, .int x2), (2, .int x3)] [2, 1, 0] rfl ?_
      exact ih _ _ hf
set_option maxRecDepth 100000 in
set_option maxHeartbeats 4000000 in
theorem c_L_bits (l : Launch) (G : GG) (A : Nat → Prop) (a1 : Int32)  (g : Mem) (res : Int32) (hf : f_L_bits a1 = some res) : k_Mi l yL_bits wsL_bits rm_L_bits G shC A [.int a1] g res g := by
  refine k_ofi (cc := cL_bits) (nL := 3) (own := RL) (by decide +kernel) rfl rfl (by simp [lg_sl, Value.category]) ⟨rfl, rfl⟩ [(0, .int a1)] rfl ?_
  intro p e s m args below meth c C hr hk0
  rw [f_L_bits] at hf
  refine r_iconst (v := 0) 1 C dL_bits_0 rfl (by decide) ?_
  refine r_istore_n 2 C [(1, .int 0), (0, .int a1)] dL_bits_1 rfl rfl (by decide) rfl ?_
  refine r_iconst (v := 0) 3 C dL_bits_2 rfl (by decide) ?_
  refine r_istore_n 4 C [(2, .int 0), (1, .int 0), (0, .int a1)] dL_bits_3 rfl rfl (by decide) rfl ?_
  refine r_sub [(0, .int a1), (1, .int 0), (2, .int 0)] [2, 1, 0] rfl ?_
  refine t_L_bits_L4 C hr hk0 a1 a1 g (fun x4 hf => ?_) fuel0 _ _ hf
  refine r_iload_n 25 C 0 dL_bits_24 rfl rfl ?_
  have hf := Option.some.inj hf
  subst hf
  exact r_iret C hr hk0 dL_bits_25
