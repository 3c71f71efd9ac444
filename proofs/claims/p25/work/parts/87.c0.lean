def rm_L_low : Room := { frames := 0, cells := 0, slots := 0, locals := 0 }
theorem hd_L_low : yL_low.cls ≠ "java/lang/invoke/MethodHandle" ∧ yL_low.cls ≠ "java/lang/invoke/VarHandle" ∧ (parseMethodDescriptor yL_low.desc).map (fun d => d.parameters.length) = some 2 := by decide +kernel
set_option maxRecDepth 100000 in
set_option maxHeartbeats 4000000 in
theorem c_L_low (l : Launch) (G : GG) (A : Nat → Prop) (a1 : Int32) (a2 : Int32)  (g : Mem) (res : Int32) (hf : f_L_low a1 a2 = some res) : k_Mi l yL_low wsL_low rm_L_low G shC A [.int a1, .int a2] g res g := by
  refine k_ofi (cc := cL_low) (nL := 2) (own := RL) (by decide +kernel) rfl rfl (by simp [lg_sl, Value.category]) ⟨rfl, rfl⟩ [(0, .int a1), (1, .int a2)] rfl ?_
  intro p e s m args below meth c C hr hk0
  rw [f_L_low] at hf
  refine r_iload_n 1 C 0 dL_low_0 rfl rfl ?_
  refine r_ldc (v := 2147483647) 3 C dL_low_1 rfl (by decide +kernel) ?_
  refine r_iand 4 C dL_low_3 rfl ?_
  refine r_iload_n 5 C 1 dL_low_4 rfl rfl ?_
  by_cases c1 : a2 = 0
  · have hf := oip c1 hf
    cases hf
  have hf := oin c1 hf
  refine r_irem 6 C dL_low_5 rfl c1 ?_
  have hf := Option.some.inj hf
  subst hf
  exact r_iret C hr hk0 dL_low_6
