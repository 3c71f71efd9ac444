def rm_X5_in : Room := { frames := 0, cells := 0, slots := 0, locals := 0 }
theorem hd_X5_in : yX5_in.cls ≠ "java/lang/invoke/MethodHandle" ∧ yX5_in.cls ≠ "java/lang/invoke/VarHandle" ∧ (parseMethodDescriptor yX5_in.desc).map (fun d => d.parameters.length) = some 3 := by decide +kernel
set_option maxRecDepth 100000 in
set_option maxHeartbeats 4000000 in
theorem c_X5_in (l : Launch) (G : GG) (A : Nat → Prop) (a1 : Int32) (a2 : Int32) (a3 : Int32)  (g : Mem) (res : Bool) (hf : f_X5_in a1 a2 a3 = res) : k_Mi l yX5_in wsX5_in rm_X5_in G shM A [.int a1, .int a2, .int a3] g (bI res) g := by
  refine k_ofi (cc := cX5_in) (nL := 3) (own := RX5) (by decide +kernel) rfl rfl (by simp [lg_sl, Value.category]) ⟨rfl, rfl⟩ [(0, .int a1), (1, .int a2), (2, .int a3)] rfl ?_
  intro p e s m args below meth c C hr hk0
  rw [f_X5_in] at hf
  refine r_iload_n 1 C 0 dX5_in_0 rfl rfl ?_
  refine r_iload_n 2 C 1 dX5_in_1 rfl rfl ?_
  refine r_icmp_lt 14 5 C dX5_in_2 rfl rfl (fun c1 => ?_) (fun c1 => ?_)
  · have hf := oip c1 hf
    refine r_iconst (v := 0) 15 C dX5_in_14 rfl (by decide) ?_
    subst hf
    exact r_zret C hr hk0 false rfl dX5_in_15
  · have hf := oin c1 hf
    refine r_iload_n 6 C 0 dX5_in_5 rfl rfl ?_
    refine r_iload_n 7 C 2 dX5_in_6 rfl rfl ?_
    refine r_icmp_gt 14 10 C dX5_in_7 rfl rfl (fun c2 => ?_) (fun c2 => ?_)
    · have hf := oip c2 hf
      refine r_iconst (v := 0) 15 C dX5_in_14 rfl (by decide) ?_
      subst hf
      exact r_zret C hr hk0 false rfl dX5_in_15
    · have hf := oin c2 hf
      refine r_iconst (v := 1) 11 C dX5_in_10 rfl (by decide) ?_
      refine r_goto 15 C dX5_in_11 rfl ?_
      subst hf
      exact r_zret C hr hk0 true rfl dX5_in_15
def rm_X5_noAcceptor : Room := { frames := 1, cells := 0, slots := 0, locals := 22 }
theorem hd_X5_noAcceptor : yX5_noAcceptor.cls ≠ "java/lang/invoke/MethodHandle" ∧ yX5_noAcceptor.cls ≠ "java/lang/invoke/VarHandle" ∧ (parseMethodDescriptor yX5_noAcceptor.desc).map (fun d => d.parameters.length) = some 1 := by decide +kernel
set_option maxRecDepth 100000 in
set_option maxHeartbeats 4000000 in
theorem c_X5_noAcceptor (l : Launch) (G : GG) (A : Nat → Prop) (a1 : Int32)  (g : Mem) (res : Bool) (hf : f_X5_noAcceptor a1 = res) : k_Mi l yX5_noAcceptor wsX5_noAcceptor rm_X5_noAcceptor G shM A [.int a1] g (bI res) g := by
  refine k_ofi (cc := cX5_noAcceptor) (nL := 1) (own := RX5) (by decide +kernel) rfl rfl (by simp [lg_sl, Value.category]) ⟨rfl, rfl⟩ [(0, .int a1)] rfl ?_
  intro p e s m args below meth c C hr hk0
  rw [f_X5_noAcceptor] at hf
  refine r_iload_n 1 C 0 dX5_noAcceptor_0 rfl rfl ?_
  refine r_iconst (v := 0) 2 C dX5_noAcceptor_1 rfl (by decide) ?_
  refine r_iconst (v := 5) 3 C dX5_noAcceptor_2 rfl (by decide) ?_
  refine r_Si (As := [.int a1, .int 0, .int 5]) 6 C (c_X5_in l G A a1 0 5 g _ rfl) (va_cwS 3 C.1.2.2.2.2 gX5_noAcceptor_X5_in rfl rfl rfl hd_X5_in ⟨Nat.le_of_ble_eq_true rfl, Nat.le_of_ble_eq_true rfl⟩) rfl rfl (Nat.le_of_ble_eq_true rfl) dX5_noAcceptor_3 rfl ?_
  refine r_if_ne 13 9 C dX5_noAcceptor_6 rfl rfl (fun c1 => ?_) (fun c1 => ?_)
  · have hf := obt c1 hf
    refine r_iconst (v := 0) 14 C dX5_noAcceptor_13 rfl (by decide) ?_
    subst hf
    exact r_zret C hr hk0 false rfl dX5_noAcceptor_14
  · have hf := obf c1 hf
    refine r_iconst (v := 1) 10 C dX5_noAcceptor_9 rfl (by decide) ?_
    refine r_goto 14 C dX5_noAcceptor_10 rfl ?_
    subst hf
    exact r_zret C hr hk0 true rfl dX5_noAcceptor_14
def rm_X5_noProposer : Room := { frames := 1, cells := 0, slots := 0, locals := 22 }
theorem hd_X5_noProposer : yX5_noProposer.cls ≠ "java/lang/invoke/MethodHandle" ∧ yX5_noProposer.cls ≠ "java/lang/invoke/VarHandle" ∧ (parseMethodDescriptor yX5_noProposer.desc).map (fun d => d.parameters.length) = some 1 := by decide +kernel
set_option maxRecDepth 100000 in
set_option maxHeartbeats 4000000 in
theorem c_X5_noProposer (l : Launch) (G : GG) (A : Nat → Prop) (a1 : Int32)  (g : Mem) (res : Bool) (hf : f_X5_noProposer a1 = res) : k_Mi l yX5_noProposer wsX5_noProposer rm_X5_noProposer G shM A [.int a1] g (bI res) g := by
  refine k_ofi (cc := cX5_noProposer) (nL := 1) (own := RX5) (by decide +kernel) rfl rfl (by simp [lg_sl, Value.category]) ⟨rfl, rfl⟩ [(0, .int a1)] rfl ?_
  intro p e s m args below meth c C hr hk0
  rw [f_X5_noProposer] at hf
  refine r_iload_n 1 C 0 dX5_noProposer_0 rfl rfl ?_
  refine r_iconst (v := 0) 2 C dX5_noProposer_1 rfl (by decide) ?_
  refine r_iconst (v := 2) 3 C dX5_noProposer_2 rfl (by decide) ?_
  refine r_Si (As := [.int a1, .int 0, .int 2]) 6 C (c_X5_in l G A a1 0 2 g _ rfl) (va_cwS 3 C.1.2.2.2.2 gX5_noProposer_X5_in rfl rfl rfl hd_X5_in ⟨Nat.le_of_ble_eq_true rfl, Nat.le_of_ble_eq_true rfl⟩) rfl rfl (Nat.le_of_ble_eq_true rfl) dX5_noProposer_3 rfl ?_
  refine r_if_ne 13 9 C dX5_noProposer_6 rfl rfl (fun c1 => ?_) (fun c1 => ?_)
  · have hf := obt c1 hf
    refine r_iconst (v := 0) 14 C dX5_noProposer_13 rfl (by decide) ?_
    subst hf
    exact r_zret C hr hk0 false rfl dX5_noProposer_14
  · have hf := obf c1 hf
    refine r_iconst (v := 1) 10 C dX5_noProposer_9 rfl (by decide) ?_
    refine r_goto 14 C dX5_noProposer_10 rfl ?_
    subst hf
    exact r_zret C hr hk0 true rfl dX5_noProposer_14
def rm_X5_noSlot : Room := { frames := 1, cells := 0, slots := 0, locals := 22 }
theorem hd_X5_noSlot : yX5_noSlot.cls ≠ "java/lang/invoke/MethodHandle" ∧ yX5_noSlot.cls ≠ "java/lang/invoke/VarHandle" ∧ (parseMethodDescriptor yX5_noSlot.desc).map (fun d => d.parameters.length) = some 1 := by decide +kernel
set_option maxRecDepth 100000 in
set_option maxHeartbeats 4000000 in
theorem c_X5_noSlot (l : Launch) (G : GG) (A : Nat → Prop) (a1 : Int32)  (g : Mem) (res : Bool) (hf : f_X5_noSlot a1 = res) : k_Mi l yX5_noSlot wsX5_noSlot rm_X5_noSlot G shM A [.int a1] g (bI res) g := by
  refine k_ofi (cc := cX5_noSlot) (nL := 1) (own := RX5) (by decide +kernel) rfl rfl (by simp [lg_sl, Value.category]) ⟨rfl, rfl⟩ [(0, .int a1)] rfl ?_
  intro p e s m args below meth c C hr hk0
  rw [f_X5_noSlot] at hf
  refine r_iload_n 1 C 0 dX5_noSlot_0 rfl rfl ?_
  refine r_iconst (v := 1) 2 C dX5_noSlot_1 rfl (by decide) ?_
  refine r_bipush (v := 16) 4 C dX5_noSlot_2 rfl (by decide) ?_
  refine r_Si (As := [.int a1, .int 1, .int 16]) 7 C (c_X5_in l G A a1 1 16 g _ rfl) (va_cwS 3 C.1.2.2.2.2 gX5_noSlot_X5_in rfl rfl rfl hd_X5_in ⟨Nat.le_of_ble_eq_true rfl, Nat.le_of_ble_eq_true rfl⟩) rfl rfl (Nat.le_of_ble_eq_true rfl) dX5_noSlot_4 rfl ?_
  refine r_if_ne 14 10 C dX5_noSlot_7 rfl rfl (fun c1 => ?_) (fun c1 => ?_)
  · have hf := obt c1 hf
    refine r_iconst (v := 0) 15 C dX5_noSlot_14 rfl (by decide) ?_
    subst hf
    exact r_zret C hr hk0 false rfl dX5_noSlot_15
  · have hf := obf c1 hf
    refine r_iconst (v := 1) 11 C dX5_noSlot_10 rfl (by decide) ?_
    refine r_goto 15 C dX5_noSlot_11 rfl ?_
    subst hf
    exact r_zret C hr hk0 true rfl dX5_noSlot_15
def rm_X5_isIn : Room := { frames := 0, cells := 0, slots := 0, locals := 0 }
theorem hd_X5_isIn : yX5_isIn.cls ≠ "java/lang/invoke/MethodHandle" ∧ yX5_isIn.cls ≠ "java/lang/invoke/VarHandle" ∧ (parseMethodDescriptor yX5_isIn.desc).map (fun d => d.parameters.length) = some 2 := by decide +kernel
set_option maxRecDepth 100000 in
set_option maxHeartbeats 4000000 in
theorem c_X5_isIn (l : Launch) (G : GG) (A : Nat → Prop) (a1 : Int32) (a2 : Int32)  (g : Mem) (res : Bool) (hf : f_X5_isIn a1 a2 = res) : k_Mi l yX5_isIn wsX5_isIn rm_X5_isIn G shM A [.int a1, .int a2] g (bI res) g := by
  refine k_ofi (cc := cX5_isIn) (nL := 2) (own := RX5) (by decide +kernel) rfl rfl (by simp [lg_sl, Value.category]) ⟨rfl, rfl⟩ [(0, .int a1), (1, .int a2)] rfl ?_
  intro p e s m args below meth c C hr hk0
  rw [f_X5_isIn] at hf
  refine r_iload_n 1 C 0 dX5_isIn_0 rfl rfl ?_
  refine r_iload_n 2 C 1 dX5_isIn_1 rfl rfl ?_
  refine r_ishr 3 C dX5_isIn_2 rfl ?_
  refine r_iconst (v := 1) 4 C dX5_isIn_3 rfl (by decide) ?_
  refine r_iand 5 C dX5_isIn_4 rfl ?_
  refine r_iconst (v := 1) 6 C dX5_isIn_5 rfl (by decide) ?_
  refine r_icmp_ne 13 9 C dX5_isIn_6 rfl rfl (fun c1 => ?_) (fun c1 => ?_)
  · have hf := oin c1 hf
    refine r_iconst (v := 0) 14 C dX5_isIn_13 rfl (by decide) ?_
    subst hf
    exact r_zret C hr hk0 false rfl dX5_isIn_14
  · have hf := oip c1 hf
    refine r_iconst (v := 1) 10 C dX5_isIn_9 rfl (by decide) ?_
    refine r_goto 14 C dX5_isIn_10 rfl ?_
    subst hf
    exact r_zret C hr hk0 true rfl dX5_isIn_14
def rm_X5_bits : Room := { frames := 0, cells := 0, slots := 0, locals := 0 }
theorem hd_X5_bits : yX5_bits.cls ≠ "java/lang/invoke/MethodHandle" ∧ yX5_bits.cls ≠ "java/lang/invoke/VarHandle" ∧ (parseMethodDescriptor yX5_bits.desc).map (fun d => d.parameters.length) = some 1 := by decide +kernel
set_option maxRecDepth 100000 in
set_option maxHeartbeats 4000000 in
theorem t_X5_bits_L4 {p : Program} {l : Launch} {e : Env} {s : State} {m : MethodId} {args : Array Value} {below : List Frame} {meth : Method} {c : Code} {G : GG} {A : Nat → Prop} (C : KX p s m args c cX5_bits 3 RX5 wsX5_bits G shM A) (hr : meth.sig.returnType = (some .int)) (hk0 : meth.locks = false) (a1 : Int32)  (v0 : Int32) (g : Mem) {res : Int32} {k : Int32 → Option Int32} (hk : ∀ (v1 : Int32), k v1 = some res → JJ p l e rm_X5_bits s m args below meth c 3 G shM A (MQ below (k_Qi G shM A res g) args s 0 0 A) 24 [(1, .int v1)] [] g) : ∀ (n : Nat) (v1 : Int32) (v2 : Int32), f_X5_bits_L4 k v0 n v1 v2 = some res → JJ p l e rm_X5_bits s m args below meth c 3 G shM A (MQ below (k_Qi G shM A res g) args s 0 0 A) 4 [(0, .int v0), (1, .int v1), (2, .int v2)] [] g := by
  intro n
  induction n with
  | zero =>
    intro v1 v2 hf
    rw [f_X5_bits_L4] at hf
    cases hf
  | succ n ih =>
    intro v1 v2 hf
    rw [f_X5_bits_L4] at hf
    refine r_iload_n 5 C 2 dX5_bits_4 rfl rfl ?_
    refine r_bipush (v := 6) 7 C dX5_bits_5 rfl (by decide) ?_
    refine r_icmp_ge 24 10 C dX5_bits_7 rfl rfl (fun c1 => ?_) (fun c1 => ?_)
    · have hf := oip c1 hf
      refine r_sub [(1, .int v1)] [1] rfl ?_
      exact hk _ hf
    · have hf := oin c1 hf
      refine r_iload_n 11 C 1 dX5_bits_10 rfl rfl ?_
      refine r_iload_n 12 C 0 dX5_bits_11 rfl rfl ?_
      refine r_iload_n 13 C 2 dX5_bits_12 rfl rfl ?_
      refine r_ishr 14 C dX5_bits_13 rfl ?_
      refine r_iconst (v := 1) 15 C dX5_bits_14 rfl (by decide) ?_
      refine r_iand 16 C dX5_bits_15 rfl ?_
      refine r_iadd 17 C dX5_bits_16 rfl ?_
      obtain ⟨x2, hx2, hf⟩ := ol hf
      refine r_istore_n 18 C [(1, .int x2), (0, .int v0), (2, .int v2)] dX5_bits_17 rfl hx2 (by decide) rfl ?_
      obtain ⟨x3, hx3, hf⟩ := ol hf
      refine r_iinc 21 C 2 x3 [(2, .int x3), (1, .int x2), (0, .int v0)] dX5_bits_18 rfl rfl hx3.symm (by decide) rfl ?_
      refine r_goto 4 C dX5_bits_21 rfl ?_
      refine r_sub [(0, .int v0), (1, .int x2), (2, .int x3)] [2, 1, 0] rfl ?_
      exact ih _ _ hf
set_option maxRecDepth 100000 in
set_option maxHeartbeats 4000000 in
theorem c_X5_bits (l : Launch) (G : GG) (A : Nat → Prop) (a1 : Int32)  (g : Mem) (res : Int32) (hf : f_X5_bits a1 = some res) : k_Mi l yX5_bits wsX5_bits rm_X5_bits G shM A [.int a1] g res g := by
  refine k_ofi (cc := cX5_bits) (nL := 3) (own := RX5) (by decide +kernel) rfl rfl (by simp [lg_sl, Value.category]) ⟨rfl, rfl⟩ [(0, .int a1)] rfl ?_
  intro p e s m args below meth c C hr hk0
  rw [f_X5_bits] at hf
  refine r_iconst (v := 0) 1 C dX5_bits_0 rfl (by decide) ?_
  refine r_istore_n 2 C [(1, .int 0), (0, .int a1)] dX5_bits_1 rfl rfl (by decide) rfl ?_
  refine r_iconst (v := 0) 3 C dX5_bits_2 rfl (by decide) ?_
  refine r_istore_n 4 C [(2, .int 0), (1, .int 0), (0, .int a1)] dX5_bits_3 rfl rfl (by decide) rfl ?_
  refine r_sub [(0, .int a1), (1, .int 0), (2, .int 0)] [2, 1, 0] rfl ?_
  refine t_X5_bits_L4 C hr hk0 a1 a1 g (fun x4 hf => ?_) fuel0 _ _ hf
  refine r_iload_n 25 C 0 dX5_bits_24 rfl rfl ?_
  have hf := Option.some.inj hf
  subst hf
  exact r_iret C hr hk0 dX5_bits_25
def rm_X5_voteAt : Room := { frames := 0, cells := 0, slots := 0, locals := 0 }
theorem hd_X5_voteAt : yX5_voteAt.cls ≠ "java/lang/invoke/MethodHandle" ∧ yX5_voteAt.cls ≠ "java/lang/invoke/VarHandle" ∧ (parseMethodDescriptor yX5_voteAt.desc).map (fun d => d.parameters.length) = some 2 := by decide +kernel
set_option maxRecDepth 100000 in
set_option maxHeartbeats 4000000 in
theorem c_X5_voteAt (l : Launch) (G : GG) (A : Nat → Prop) (a1 : Int32) (a2 : Int32)  (g : Mem) (res : Int32) (hf : f_X5_voteAt a1 a2 = res) : k_Mi l yX5_voteAt wsX5_voteAt rm_X5_voteAt G shM A [.int a1, .int a2] g res g := by
  refine k_ofi (cc := cX5_voteAt) (nL := 2) (own := RX5) (by decide +kernel) rfl rfl (by simp [lg_sl, Value.category]) ⟨rfl, rfl⟩ [(0, .int a1), (1, .int a2)] rfl ?_
  intro p e s m args below meth c C hr hk0
  rw [f_X5_voteAt] at hf
  refine r_bipush (v := 12) 2 C dX5_voteAt_0 rfl (by decide) ?_
  refine r_iconst (v := 2) 3 C dX5_voteAt_2 rfl (by decide) ?_
  refine r_bipush (v := 16) 5 C dX5_voteAt_3 rfl (by decide) ?_
  refine r_iload_n 6 C 0 dX5_voteAt_5 rfl rfl ?_
  refine r_imul 7 C dX5_voteAt_6 rfl ?_
  refine r_iload_n 8 C 1 dX5_voteAt_7 rfl rfl ?_
  refine r_iadd 9 C dX5_voteAt_8 rfl ?_
  refine r_iconst (v := 1) 10 C dX5_voteAt_9 rfl (by decide) ?_
  refine r_isub 11 C dX5_voteAt_10 rfl ?_
  refine r_imul 12 C dX5_voteAt_11 rfl ?_
  refine r_iadd 13 C dX5_voteAt_12 rfl ?_
  subst hf
  exact r_iret C hr hk0 dX5_voteAt_13
def rm_X5_toldAt : Room := { frames := 0, cells := 0, slots := 0, locals := 0 }
theorem hd_X5_toldAt : yX5_toldAt.cls ≠ "java/lang/invoke/MethodHandle" ∧ yX5_toldAt.cls ≠ "java/lang/invoke/VarHandle" ∧ (parseMethodDescriptor yX5_toldAt.desc).map (fun d => d.parameters.length) = some 3 := by decide +kernel
set_option maxRecDepth 100000 in
set_option maxHeartbeats 4000000 in
theorem c_X5_toldAt (l : Launch) (G : GG) (A : Nat → Prop) (a1 : Int32) (a2 : Int32) (a3 : Int32)  (g : Mem) (res : Int32) (hf : f_X5_toldAt a1 a2 a3 = res) : k_Mi l yX5_toldAt wsX5_toldAt rm_X5_toldAt G shM A [.int a1, .int a2, .int a3] g res g := by
  refine k_ofi (cc := cX5_toldAt) (nL := 3) (own := RX5) (by decide +kernel) rfl rfl (by simp [lg_sl, Value.category]) ⟨rfl, rfl⟩ [(0, .int a1), (1, .int a2), (2, .int a3)] rfl ?_
  intro p e s m args below meth c C hr hk0
  rw [f_X5_toldAt] at hf
  refine r_sipush (v := 213) 3 C dX5_toldAt_0 rfl (by decide) ?_
  refine r_iconst (v := 2) 4 C dX5_toldAt_3 rfl (by decide) ?_
  refine r_bipush (v := 16) 6 C dX5_toldAt_4 rfl (by decide) ?_
  refine r_bipush (v := 6) 8 C dX5_toldAt_6 rfl (by decide) ?_
  refine r_iload_n 9 C 0 dX5_toldAt_8 rfl rfl ?_
  refine r_imul 10 C dX5_toldAt_9 rfl ?_
  refine r_iload_n 11 C 1 dX5_toldAt_10 rfl rfl ?_
  refine r_iadd 12 C dX5_toldAt_11 rfl ?_
  refine r_imul 13 C dX5_toldAt_12 rfl ?_
  refine r_iload_n 14 C 2 dX5_toldAt_13 rfl rfl ?_
  refine r_iadd 15 C dX5_toldAt_14 rfl ?_
  refine r_iconst (v := 1) 16 C dX5_toldAt_15 rfl (by decide) ?_
  refine r_isub 17 C dX5_toldAt_16 rfl ?_
  refine r_imul 18 C dX5_toldAt_17 rfl ?_
  refine r_iadd 19 C dX5_toldAt_18 rfl ?_
  subst hf
  exact r_iret C hr hk0 dX5_toldAt_19
def rm_X5_proposedAt : Room := { frames := 0, cells := 0, slots := 0, locals := 0 }
theorem hd_X5_proposedAt : yX5_proposedAt.cls ≠ "java/lang/invoke/MethodHandle" ∧ yX5_proposedAt.cls ≠ "java/lang/invoke/VarHandle" ∧ (parseMethodDescriptor yX5_proposedAt.desc).map (fun d => d.parameters.length) = some 2 := by decide +kernel
set_option maxRecDepth 100000 in
set_option maxHeartbeats 4000000 in
theorem c_X5_proposedAt (l : Launch) (G : GG) (A : Nat → Prop) (a1 : Int32) (a2 : Int32)  (g : Mem) (res : Int32) (hf : f_X5_proposedAt a1 a2 = res) : k_Mi l yX5_proposedAt wsX5_proposedAt rm_X5_proposedAt G shM A [.int a1, .int a2] g res g := by
  refine k_ofi (cc := cX5_proposedAt) (nL := 2) (own := RX5) (by decide +kernel) rfl rfl (by simp [lg_sl, Value.category]) ⟨rfl, rfl⟩ [(0, .int a1), (1, .int a2)] rfl ?_
  intro p e s m args below meth c C hr hk0
  rw [f_X5_proposedAt] at hf
  refine r_sipush (v := 789) 3 C dX5_proposedAt_0 rfl (by decide) ?_
  refine r_bipush (v := 16) 5 C dX5_proposedAt_3 rfl (by decide) ?_
  refine r_iload_n 6 C 0 dX5_proposedAt_5 rfl rfl ?_
  refine r_imul 7 C dX5_proposedAt_6 rfl ?_
  refine r_iadd 8 C dX5_proposedAt_7 rfl ?_
  refine r_iload_n 9 C 1 dX5_proposedAt_8 rfl rfl ?_
  refine r_iadd 10 C dX5_proposedAt_9 rfl ?_
  refine r_iconst (v := 1) 11 C dX5_proposedAt_10 rfl (by decide) ?_
  refine r_isub 12 C dX5_proposedAt_11 rfl ?_
  subst hf
  exact r_iret C hr hk0 dX5_proposedAt_12
theorem in_X5_chosen_X5 : ∀ w ∈ wsX50, w ∈ wsX5_chosen := by decide +kernel
def rm_X5_chosen : Room := { frames := 0, cells := 0, slots := 0, locals := 0 }
theorem hd_X5_chosen : yX5_chosen.cls = RX5 ∧ yX5_chosen.cls ≠ "java/lang/invoke/MethodHandle" ∧ yX5_chosen.cls ≠ "java/lang/invoke/VarHandle" ∧ (parseMethodDescriptor yX5_chosen.desc).map (fun d => d.parameters.length) = some 1 := by decide +kernel
set_option maxRecDepth 100000 in
set_option maxHeartbeats 4000000 in
theorem c_X5_chosen (l : Launch) (G : GG) (A : Nat → Prop) (a1 : Int32)  (g : Mem) (res : Int32) (hf : f_X5_chosen a1 g = some res) : k_Mi l yX5_chosen wsX5_chosen rm_X5_chosen G shM A [.ref (G.2.1 0), .int a1] g res g := by
  have hinX5 : ∀ w ∈ wsX50, w ∈ wsX5_chosen := in_X5_chosen_X5
  refine k_ofi (cc := cX5_chosen) (nL := 2) (own := RX5) (by decide +kernel) rfl rfl (by simp [lg_sl, Value.category]) ⟨rfl, rfl⟩ [(0, .ref (G.2.1 0)), (1, .int a1)] rfl ?_
  intro p e s m args below meth c C hr hk0
  rw [f_X5_chosen] at hf
  refine r_aload_n 1 C 0 dX5_chosen_0 rfl rfl ?_
  refine r_getr 4 C (k := 0) shM_0 rfl hinX5 (by decide) rfl dX5_chosen_1 rfl (by decide +kernel) ?_
  refine r_sipush (v := 837) 7 C dX5_chosen_4 rfl (by decide) ?_
  refine r_iload_n 8 C 1 dX5_chosen_7 rfl rfl ?_
  refine r_iadd 9 C dX5_chosen_8 rfl ?_
  refine r_iconst (v := 1) 10 C dX5_chosen_9 rfl (by decide) ?_
  refine r_isub 11 C dX5_chosen_10 rfl ?_
  obtain ⟨x1, hx1, hf⟩ := ob hf
  refine r_iaload 12 C shM_1 dX5_chosen_11 rfl hx1 ?_
  have hf := Option.some.inj hf
  subst hf
  exact r_iret C hr hk0 dX5_chosen_12
theorem in_X5_record_X5 : ∀ w ∈ wsX50, w ∈ wsX5_record := by decide +kernel
def rm_X5_record : Room := { frames := 0, cells := 0, slots := 0, locals := 0 }
theorem hd_X5_record : yX5_record.cls = RX5 ∧ yX5_record.cls ≠ "java/lang/invoke/MethodHandle" ∧ yX5_record.cls ≠ "java/lang/invoke/VarHandle" ∧ (parseMethodDescriptor yX5_record.desc).map (fun d => d.parameters.length) = some 0 := by decide +kernel
set_option maxRecDepth 100000 in
set_option maxHeartbeats 4000000 in
theorem t_X5_record_L59 {p : Program} {l : Launch} {e : Env} {s : State} {m : MethodId} {args : Array Value} {below : List Frame} {meth : Method} {c : Code} {G : GG} {A : Nat → Prop} (C : KX p s m args c cX5_record 2 RX5 wsX5_record G shM A) (hr : meth.sig.returnType = none) (hk0 : meth.locks = false)  {res : Mem} {k : Mem → Option Mem} (hk : ∀ (g : Mem), k g = some res → JJ p l e rm_X5_record s m args below meth c 2 G shM A (MQ below (k_Qv G shM A res) args s 0 0 A) 93 [(0, .ref (G.2.1 0))] [] g) : ∀ (n : Nat) (v1 : Int32) (g : Mem), f_X5_record_L59 k n v1 g = some res → JJ p l e rm_X5_record s m args below meth c 2 G shM A (MQ below (k_Qv G shM A res) args s 0 0 A) 59 [(0, .ref (G.2.1 0)), (1, .int v1)] [] g := by
  have hinX5 : ∀ w ∈ wsX50, w ∈ wsX5_record := in_X5_record_X5
  intro n
  induction n with
  | zero =>
    intro v1 g hf
    rw [f_X5_record_L59] at hf
    cases hf
  | succ n ih =>
    intro v1 g hf
    rw [f_X5_record_L59] at hf
    refine r_iload_n 60 C 1 dX5_record_59 rfl rfl ?_
    refine r_sipush (v := 873) 63 C dX5_record_60 rfl (by decide) ?_
    refine r_icmp_ge 93 66 C dX5_record_63 rfl rfl (fun c3 => ?_) (fun c3 => ?_)
    · have hf := oip c3 hf
      refine r_sub [(0, .ref (G.2.1 0))] [0] rfl ?_
      exact hk  _ hf
    · have hf := oin c3 hf
      refine r_aload_n 67 C 0 dX5_record_66 rfl rfl ?_
      refine r_getr 70 C (k := 1) shM_0 rfl hinX5 (by decide) rfl dX5_record_67 rfl (by decide +kernel) ?_
      refine r_sipush (v := 873) 73 C dX5_record_70 rfl (by decide) ?_
      refine r_aload_n 74 C 0 dX5_record_73 rfl rfl ?_
      refine r_geti 77 C (k := 2) shM_0 rfl hinX5 (by decide) rfl dX5_record_74 rfl (by decide +kernel) ?_
      refine r_imul 78 C dX5_record_77 rfl ?_
      refine r_iload_n 79 C 1 dX5_record_78 rfl rfl ?_
      refine r_iadd 80 C dX5_record_79 rfl ?_
      refine r_aload_n 81 C 0 dX5_record_80 rfl rfl ?_
      refine r_getr 84 C (k := 0) shM_0 rfl hinX5 (by decide) rfl dX5_record_81 rfl (by decide +kernel) ?_
      refine r_iload_n 85 C 1 dX5_record_84 rfl rfl ?_
      obtain ⟨x4, hx4, hf⟩ := ob hf
      refine r_iaload 86 C shM_1 dX5_record_85 rfl hx4 ?_
      obtain ⟨g5, hg5, hf⟩ := ob hf
      refine r_iastore 87 C shM_2 dX5_record_86 rfl hg5 ?_
      obtain ⟨x6, hx6, hf⟩ := ol hf
      refine r_iinc 90 C 1 x6 [(1, .int x6), (0, .ref (G.2.1 0))] dX5_record_87 rfl rfl hx6.symm (by decide) rfl ?_
      refine r_goto 59 C dX5_record_90 rfl ?_
      refine r_sub [(0, .ref (G.2.1 0)), (1, .int x6)] [1, 0] rfl ?_
      exact ih _ _ hf
set_option maxRecDepth 100000 in
set_option maxHeartbeats 4000000 in
theorem t_X5_record_L18 {p : Program} {l : Launch} {e : Env} {s : State} {m : MethodId} {args : Array Value} {below : List Frame} {meth : Method} {c : Code} {G : GG} {A : Nat → Prop} (C : KX p s m args c cX5_record 2 RX5 wsX5_record G shM A) (hr : meth.sig.returnType = none) (hk0 : meth.locks = false)  {res : Mem} {k : Mem → Option Mem} (hk : ∀ (g : Mem), k g = some res → JJ p l e rm_X5_record s m args below meth c 2 G shM A (MQ below (k_Qv G shM A res) args s 0 0 A) 47 [(0, .ref (G.2.1 0))] [] g) : ∀ (n : Nat) (v1 : Int32) (g : Mem), f_X5_record_L18 k n v1 g = some res → JJ p l e rm_X5_record s m args below meth c 2 G shM A (MQ below (k_Qv G shM A res) args s 0 0 A) 18 [(0, .ref (G.2.1 0)), (1, .int v1)] [] g := by
  have hinX5 : ∀ w ∈ wsX50, w ∈ wsX5_record := in_X5_record_X5
  intro n
  induction n with
  | zero =>
    intro v1 g hf
    rw [f_X5_record_L18] at hf
    cases hf
  | succ n ih =>
    intro v1 g hf
    rw [f_X5_record_L18] at hf
    refine r_iload_n 19 C 1 dX5_record_18 rfl rfl ?_
    refine r_sipush (v := 2619) 22 C dX5_record_19 rfl (by decide) ?_
    refine r_icmp_ge 47 25 C dX5_record_22 rfl rfl (fun c9 => ?_) (fun c9 => ?_)
    · have hf := oip c9 hf
      refine r_sub [(0, .ref (G.2.1 0))] [0] rfl ?_
      exact hk  _ hf
    · have hf := oin c9 hf
      refine r_aload_n 26 C 0 dX5_record_25 rfl rfl ?_
      refine r_getr 29 C (k := 1) shM_0 rfl hinX5 (by decide) rfl dX5_record_26 rfl (by decide +kernel) ?_
      refine r_iload_n 30 C 1 dX5_record_29 rfl rfl ?_
      refine r_aload_n 31 C 0 dX5_record_30 rfl rfl ?_
      refine r_getr 34 C (k := 1) shM_0 rfl hinX5 (by decide) rfl dX5_record_31 rfl (by decide +kernel) ?_
      refine r_iload_n 35 C 1 dX5_record_34 rfl rfl ?_
      refine r_sipush (v := 873) 38 C dX5_record_35 rfl (by decide) ?_
      refine r_iadd 39 C dX5_record_38 rfl ?_
      obtain ⟨x10, hx10, hf⟩ := ob hf
      refine r_iaload 40 C shM_2 dX5_record_39 rfl hx10 ?_
      obtain ⟨g11, hg11, hf⟩ := ob hf
      refine r_iastore 41 C shM_2 dX5_record_40 rfl hg11 ?_
      obtain ⟨x12, hx12, hf⟩ := ol hf
      refine r_iinc 44 C 1 x12 [(1, .int x12), (0, .ref (G.2.1 0))] dX5_record_41 rfl rfl hx12.symm (by decide) rfl ?_
      refine r_goto 18 C dX5_record_44 rfl ?_
      refine r_sub [(0, .ref (G.2.1 0)), (1, .int x12)] [1, 0] rfl ?_
      exact ih _ _ hf
set_option maxRecDepth 100000 in
set_option maxHeartbeats 4000000 in
theorem t_X5_record_J57 {p : Program} {l : Launch} {e : Env} {s : State} {m : MethodId} {args : Array Value} {below : List Frame} {meth : Method} {c : Code} {G : GG} {A : Nat → Prop} (C : KX p s m args c cX5_record 2 RX5 wsX5_record G shM A) (hr : meth.sig.returnType = none) (hk0 : meth.locks = false)  (g : Mem) {res : Mem} (hf : f_X5_record_J57 g = some res) : JJ p l e rm_X5_record s m args below meth c 2 G shM A (MQ below (k_Qv G shM A res) args s 0 0 A) 57 [(0, .ref (G.2.1 0))] [] g := by
  have hinX5 : ∀ w ∈ wsX50, w ∈ wsX5_record := in_X5_record_X5
  rw [f_X5_record_J57] at hf
  refine r_iconst (v := 0) 58 C dX5_record_57 rfl (by decide) ?_
  refine r_istore_n 59 C [(1, .int 0), (0, .ref (G.2.1 0))] dX5_record_58 rfl rfl (by decide) rfl ?_
  refine r_sub [(0, .ref (G.2.1 0)), (1, .int 0)] [1, 0] rfl ?_
  refine t_X5_record_L59 C hr hk0 (fun g15 hf => ?_) fuel0 _ _ hf
  refine r_aload_n 94 C 0 dX5_record_93 rfl rfl ?_
  refine r_dup 95 C dX5_record_94 rfl rfl ?_
  refine r_geti 98 C (k := 2) shM_0 rfl hinX5 (by decide) rfl dX5_record_95 rfl (by decide +kernel) ?_
  refine r_iconst (v := 1) 99 C dX5_record_98 rfl (by decide) ?_
  refine r_iadd 100 C dX5_record_99 rfl ?_
  obtain ⟨g16, hg16, hf⟩ := ol hf
  refine r_puti 103 C (k := 2) (ty := .int) tyX5 tyX5_ok nmX5 shM_0 rfl hinX5 (by decide) rfl rfl (by decide +kernel) rfl rfl hg16 dX5_record_100 rfl (by decide +kernel) ?_
  have hf := Option.some.inj hf
  subst hf
  exact r_vret C hr hk0 dX5_record_103
set_option maxRecDepth 100000 in
set_option maxHeartbeats 4000000 in
theorem c_X5_record (l : Launch) (G : GG) (A : Nat → Prop)   (g : Mem) (res : Mem) (hf : f_X5_record  g = some res) : k_Mv l yX5_record wsX5_record rm_X5_record G shM A [.ref (G.2.1 0)] g res := by
  have hinX5 : ∀ w ∈ wsX50, w ∈ wsX5_record := in_X5_record_X5
  refine k_ofv (cc := cX5_record) (nL := 2) (own := RX5) (by decide +kernel) rfl rfl (by simp [lg_sl, Value.category]) ⟨rfl, rfl⟩ [(0, .ref (G.2.1 0))] rfl ?_
  intro p e s m args below meth c C hr hk0
  rw [f_X5_record] at hf
  refine r_aload_n 1 C 0 dX5_record_0 rfl rfl ?_
  refine r_geti 4 C (k := 5) shM_0 rfl hinX5 (by decide) rfl dX5_record_1 rfl (by decide +kernel) ?_
  refine r_if_eq 8 7 C dX5_record_4 rfl rfl (fun c1 => ?_) (fun c1 => ?_)
  · have hf := oip c1 hf
    refine r_aload_n 9 C 0 dX5_record_8 rfl rfl ?_
    refine r_geti 12 C (k := 2) shM_0 rfl hinX5 (by decide) rfl dX5_record_9 rfl (by decide +kernel) ?_
    refine r_iconst (v := 4) 13 C dX5_record_12 rfl (by decide) ?_
    refine r_icmp_ne 57 16 C dX5_record_13 rfl rfl (fun c2 => ?_) (fun c2 => ?_)
    · have hf := oin c2 hf
      refine r_iconst (v := 0) 58 C dX5_record_57 rfl (by decide) ?_
      refine r_istore_n 59 C [(1, .int 0), (0, .ref (G.2.1 0))] dX5_record_58 rfl rfl (by decide) rfl ?_
      refine r_sub [(0, .ref (G.2.1 0)), (1, .int 0)] [1, 0] rfl ?_
      refine t_X5_record_L59 C hr hk0 (fun g7 hf => ?_) fuel0 _ _ hf
      refine r_aload_n 94 C 0 dX5_record_93 rfl rfl ?_
      refine r_dup 95 C dX5_record_94 rfl rfl ?_
      refine r_geti 98 C (k := 2) shM_0 rfl hinX5 (by decide) rfl dX5_record_95 rfl (by decide +kernel) ?_
      refine r_iconst (v := 1) 99 C dX5_record_98 rfl (by decide) ?_
      refine r_iadd 100 C dX5_record_99 rfl ?_
      obtain ⟨g8, hg8, hf⟩ := ol hf
      refine r_puti 103 C (k := 2) (ty := .int) tyX5 tyX5_ok nmX5 shM_0 rfl hinX5 (by decide) rfl rfl (by decide +kernel) rfl rfl hg8 dX5_record_100 rfl (by decide +kernel) ?_
      have hf := Option.some.inj hf
      subst hf
      exact r_vret C hr hk0 dX5_record_103
    · have hf := oip c2 hf
      refine r_iconst (v := 0) 17 C dX5_record_16 rfl (by decide) ?_
      refine r_istore_n 18 C [(1, .int 0), (0, .ref (G.2.1 0))] dX5_record_17 rfl rfl (by decide) rfl ?_
      refine r_sub [(0, .ref (G.2.1 0)), (1, .int 0)] [1, 0] rfl ?_
      refine t_X5_record_L18 C hr hk0 (fun g13 hf => ?_) fuel0 _ _ hf
      refine r_aload_n 48 C 0 dX5_record_47 rfl rfl ?_
      refine r_dup 49 C dX5_record_48 rfl rfl ?_
      refine r_geti 52 C (k := 2) shM_0 rfl hinX5 (by decide) rfl dX5_record_49 rfl (by decide +kernel) ?_
      refine r_iconst (v := 1) 53 C dX5_record_52 rfl (by decide) ?_
      refine r_isub 54 C dX5_record_53 rfl ?_
      obtain ⟨g14, hg14, hf⟩ := ol hf
      refine r_puti 57 C (k := 2) (ty := .int) tyX5 tyX5_ok nmX5 shM_0 rfl hinX5 (by decide) rfl rfl (by decide +kernel) rfl rfl hg14 dX5_record_54 rfl (by decide +kernel) ?_
      refine r_sub [(0, .ref (G.2.1 0))] [0] rfl ?_
      exact t_X5_record_J57 C hr hk0 g14 hf
  · have hf := oin c1 hf
    have hf := Option.some.inj hf
    subst hf
    exact r_vret C hr hk0 dX5_record_7
def rm_X5_prefix : Room := { frames := 1, cells := 0, slots := 0, locals := 21 }
theorem hd_X5_prefix : yX5_prefix.cls = RX5 ∧ yX5_prefix.cls ≠ "java/lang/invoke/MethodHandle" ∧ yX5_prefix.cls ≠ "java/lang/invoke/VarHandle" ∧ (parseMethodDescriptor yX5_prefix.desc).map (fun d => d.parameters.length) = some 0 := by decide +kernel
set_option maxRecDepth 100000 in
set_option maxHeartbeats 4000000 in
theorem t_X5_prefix_L2 {p : Program} {l : Launch} {e : Env} {s : State} {m : MethodId} {args : Array Value} {below : List Frame} {meth : Method} {c : Code} {G : GG} {A : Nat → Prop} (C : KX p s m args c cX5_prefix 2 RX5 wsX5_prefix G shM A) (hr : meth.sig.returnType = (some .int)) (hk0 : meth.locks = false)  (g : Mem) {res : Int32} {k : Int32 → Option Int32} (hk : ∀ (v1 : Int32), k v1 = some res → JJ p l e rm_X5_prefix s m args below meth c 2 G shM A (MQ below (k_Qi G shM A res g) args s 0 0 A) 24 [(1, .int v1)] [] g) : ∀ (n : Nat) (v1 : Int32), f_X5_prefix_L2 k g n v1 = some res → JJ p l e rm_X5_prefix s m args below meth c 2 G shM A (MQ below (k_Qi G shM A res g) args s 0 0 A) 2 [(0, .ref (G.2.1 0)), (1, .int v1)] [] g := by
  intro n
  induction n with
  | zero =>
    intro v1 hf
    rw [f_X5_prefix_L2] at hf
    cases hf
  | succ n ih =>
    intro v1 hf
    rw [f_X5_prefix_L2] at hf
    refine r_iload_n 3 C 1 dX5_prefix_2 rfl rfl ?_
    refine r_bipush (v := 16) 5 C dX5_prefix_3 rfl (by decide) ?_
    refine r_icmp_ge 24 8 C dX5_prefix_5 rfl rfl (fun c1 => ?_) (fun c1 => ?_)
    · have hf := oip c1 hf
      refine r_sub [(1, .int v1)] [1] rfl ?_
      exact hk _ hf
    · have hf := oin c1 hf
      refine r_aload_n 9 C 0 dX5_prefix_8 rfl rfl ?_
      refine r_iload_n 10 C 1 dX5_prefix_9 rfl rfl ?_
      refine r_iconst (v := 1) 11 C dX5_prefix_10 rfl (by decide) ?_
      refine r_iadd 12 C dX5_prefix_11 rfl ?_
      obtain ⟨x2, hx2, hf⟩ := ob hf
      refine r_Vi (As := [.int (v1 + 1)]) 15 C shM_0 rfl (c_X5_chosen l G A (v1 + 1) g _ hx2) (cwV 1 C.1.2.2.2.2 gX5_prefix_X5_chosen rfl rfl rfl hd_X5_chosen ⟨Nat.le_of_ble_eq_true rfl, Nat.le_of_ble_eq_true rfl⟩) rfl rfl (Nat.le_of_ble_eq_true rfl) dX5_prefix_12 rfl ?_
      refine r_if_le 24 18 C dX5_prefix_15 rfl rfl (fun c3 => ?_) (fun c3 => ?_)
      · have hf := oip c3 hf
        refine r_sub [(1, .int v1)] [1] rfl ?_
        exact hk _ hf
      · have hf := oin c3 hf
        obtain ⟨x4, hx4, hf⟩ := ol hf
        refine r_iinc 21 C 1 x4 [(1, .int x4), (0, .ref (G.2.1 0))] dX5_prefix_18 rfl rfl hx4.symm (by decide) rfl ?_
        refine r_goto 2 C dX5_prefix_21 rfl ?_
        refine r_sub [(0, .ref (G.2.1 0)), (1, .int x4)] [1, 0] rfl ?_
        exact ih _ hf
set_option maxRecDepth 100000 in
set_option maxHeartbeats 4000000 in
theorem c_X5_prefix (l : Launch) (G : GG) (A : Nat → Prop)   (g : Mem) (res : Int32) (hf : f_X5_prefix  g = some res) : k_Mi l yX5_prefix wsX5_prefix rm_X5_prefix G shM A [.ref (G.2.1 0)] g res g := by
  refine k_ofi (cc := cX5_prefix) (nL := 2) (own := RX5) (by decide +kernel) rfl rfl (by simp [lg_sl, Value.category]) ⟨rfl, rfl⟩ [(0, .ref (G.2.1 0))] rfl ?_
  intro p e s m args below meth c C hr hk0
  rw [f_X5_prefix] at hf
  refine r_iconst (v := 0) 1 C dX5_prefix_0 rfl (by decide) ?_
  refine r_istore_n 2 C [(1, .int 0), (0, .ref (G.2.1 0))] dX5_prefix_1 rfl rfl (by decide) rfl ?_
  refine r_sub [(0, .ref (G.2.1 0)), (1, .int 0)] [1, 0] rfl ?_
  refine t_X5_prefix_L2 C hr hk0 g (fun x5 hf => ?_) fuel0 _ hf
  refine r_iload_n 25 C 0 dX5_prefix_24 rfl rfl ?_
  have hf := Option.some.inj hf
  subst hf
  exact r_iret C hr hk0 dX5_prefix_25
def rm_X5_isOpen : Room := { frames := 2, cells := 0, slots := 0, locals := 42 }
theorem hd_X5_isOpen : yX5_isOpen.cls = RX5 ∧ yX5_isOpen.cls ≠ "java/lang/invoke/MethodHandle" ∧ yX5_isOpen.cls ≠ "java/lang/invoke/VarHandle" ∧ (parseMethodDescriptor yX5_isOpen.desc).map (fun d => d.parameters.length) = some 1 := by decide +kernel
set_option maxRecDepth 100000 in
set_option maxHeartbeats 4000000 in
theorem c_X5_isOpen (l : Launch) (G : GG) (A : Nat → Prop) (a1 : Int32)  (g : Mem) (res : Bool) (hf : f_X5_isOpen a1 g = some res) : k_Mi l yX5_isOpen wsX5_isOpen rm_X5_isOpen G shM A [.ref (G.2.1 0), .int a1] g (bI res) g := by
  refine k_ofi (cc := cX5_isOpen) (nL := 2) (own := RX5) (by decide +kernel) rfl rfl (by simp [lg_sl, Value.category]) ⟨rfl, rfl⟩ [(0, .ref (G.2.1 0)), (1, .int a1)] rfl ?_
  intro p e s m args below meth c C hr hk0
  rw [f_X5_isOpen] at hf
  refine r_aload_n 1 C 0 dX5_isOpen_0 rfl rfl ?_
  obtain ⟨x1, hx1, hf⟩ := ob hf
  refine r_Vi (As := []) 4 C shM_0 rfl (c_X5_prefix l G A g _ hx1) (cwV 0 C.1.2.2.2.2 gX5_isOpen_X5_prefix rfl rfl rfl hd_X5_prefix ⟨Nat.le_of_ble_eq_true rfl, Nat.le_of_ble_eq_true rfl⟩) rfl rfl (Nat.le_of_ble_eq_true rfl) dX5_isOpen_1 rfl ?_
  refine r_iload_n 5 C 1 dX5_isOpen_4 rfl rfl ?_
  refine r_iconst (v := 3) 6 C dX5_isOpen_5 rfl (by decide) ?_
  refine r_isub 7 C dX5_isOpen_6 rfl ?_
  refine r_icmp_lt 14 10 C dX5_isOpen_7 rfl rfl (fun c2 => ?_) (fun c2 => ?_)
  · have hf := oip c2 hf
    refine r_iconst (v := 0) 15 C dX5_isOpen_14 rfl (by decide) ?_
    have hf := Option.some.inj hf
    subst hf
    exact r_zret C hr hk0 false rfl dX5_isOpen_15
  · have hf := oin c2 hf
    refine r_iconst (v := 1) 11 C dX5_isOpen_10 rfl (by decide) ?_
    refine r_goto 15 C dX5_isOpen_11 rfl ?_
    have hf := Option.some.inj hf
    subst hf
    exact r_zret C hr hk0 true rfl dX5_isOpen_15
theorem in_X5_isTrimmed_X5 : ∀ w ∈ wsX50, w ∈ wsX5_isTrimmed := by decide +kernel
def rm_X5_isTrimmed : Room := { frames := 0, cells := 0, slots := 0, locals := 0 }
theorem hd_X5_isTrimmed : yX5_isTrimmed.cls = RX5 ∧ yX5_isTrimmed.cls ≠ "java/lang/invoke/MethodHandle" ∧ yX5_isTrimmed.cls ≠ "java/lang/invoke/VarHandle" ∧ (parseMethodDescriptor yX5_isTrimmed.desc).map (fun d => d.parameters.length) = some 1 := by decide +kernel
set_option maxRecDepth 100000 in
set_option maxHeartbeats 4000000 in
theorem c_X5_isTrimmed (l : Launch) (G : GG) (A : Nat → Prop) (a1 : Int32)  (g : Mem) (res : Bool) (hf : f_X5_isTrimmed a1 g = some res) : k_Mi l yX5_isTrimmed wsX5_isTrimmed rm_X5_isTrimmed G shM A [.ref (G.2.1 0), .int a1] g (bI res) g := by
  have hinX5 : ∀ w ∈ wsX50, w ∈ wsX5_isTrimmed := in_X5_isTrimmed_X5
  refine k_ofi (cc := cX5_isTrimmed) (nL := 2) (own := RX5) (by decide +kernel) rfl rfl (by simp [lg_sl, Value.category]) ⟨rfl, rfl⟩ [(0, .ref (G.2.1 0)), (1, .int a1)] rfl ?_
  intro p e s m args below meth c C hr hk0
  rw [f_X5_isTrimmed] at hf
  refine r_iload_n 1 C 1 dX5_isTrimmed_0 rfl rfl ?_
  refine r_aload_n 2 C 0 dX5_isTrimmed_1 rfl rfl ?_
  refine r_getr 5 C (k := 0) shM_0 rfl hinX5 (by decide) rfl dX5_isTrimmed_2 rfl (by decide +kernel) ?_
  refine r_sipush (v := 869) 8 C dX5_isTrimmed_5 rfl (by decide) ?_
  obtain ⟨x1, hx1, hf⟩ := ob hf
  refine r_iaload 9 C shM_1 dX5_isTrimmed_8 rfl hx1 ?_
  refine r_icmp_gt 16 12 C dX5_isTrimmed_9 rfl rfl (fun c2 => ?_) (fun c2 => ?_)
  · have hf := oip c2 hf
    refine r_iconst (v := 0) 17 C dX5_isTrimmed_16 rfl (by decide) ?_
    have hf := Option.some.inj hf
    subst hf
    exact r_zret C hr hk0 false rfl dX5_isTrimmed_17
  · have hf := oin c2 hf
    refine r_iconst (v := 1) 13 C dX5_isTrimmed_12 rfl (by decide) ?_
    refine r_goto 17 C dX5_isTrimmed_13 rfl ?_
    have hf := Option.some.inj hf
    subst hf
    exact r_zret C hr hk0 true rfl dX5_isTrimmed_17
def rm_X5_voters : Room := { frames := 1, cells := 0, slots := 0, locals := 21 }
theorem hd_X5_voters : yX5_voters.cls = RX5 ∧ yX5_voters.cls ≠ "java/lang/invoke/MethodHandle" ∧ yX5_voters.cls ≠ "java/lang/invoke/VarHandle" ∧ (parseMethodDescriptor yX5_voters.desc).map (fun d => d.parameters.length) = some 1 := by decide +kernel
set_option maxRecDepth 100000 in
set_option maxHeartbeats 4000000 in
theorem t_X5_voters_L4 {p : Program} {l : Launch} {e : Env} {s : State} {m : MethodId} {args : Array Value} {below : List Frame} {meth : Method} {c : Code} {G : GG} {A : Nat → Prop} (C : KX p s m args c cX5_voters 3 RX5 wsX5_voters G shM A) (hr : meth.sig.returnType = (some .int)) (hk0 : meth.locks = false) (a1 : Int32)  (g : Mem) {res : Int32} {k : Option Int32} (hk : k = some res → JJ p l e rm_X5_voters s m args below meth c 3 G shM A (MQ below (k_Qi G shM A res g) args s 0 0 A) 33 [] [] g) : ∀ (n : Nat) (v2 : Int32), f_X5_voters_L4 k g n v2 = some res → JJ p l e rm_X5_voters s m args below meth c 3 G shM A (MQ below (k_Qi G shM A res g) args s 0 0 A) 4 [(0, .ref (G.2.1 0)), (2, .int v2)] [] g := by
  intro n
  induction n with
  | zero =>
    intro v2 hf
    rw [f_X5_voters_L4] at hf
    cases hf
  | succ n ih =>
    intro v2 hf
    rw [f_X5_voters_L4] at hf
    refine r_iload_n 5 C 1 dX5_voters_4 rfl rfl ?_
    refine r_if_le 33 8 C dX5_voters_5 rfl rfl (fun c2 => ?_) (fun c2 => ?_)
    · have hf := oip c2 hf
      refine r_sub [] [] rfl ?_
      exact hk  hf
    · have hf := oin c2 hf
      refine r_aload_n 9 C 0 dX5_voters_8 rfl rfl ?_
      refine r_iload_n 10 C 1 dX5_voters_9 rfl rfl ?_
      obtain ⟨x3, hx3, hf⟩ := ob hf
      refine r_Vi (As := [.int v2]) 13 C shM_0 rfl (c_X5_chosen l G A v2 g _ hx3) (cwV 1 C.1.2.2.2.2 gX5_voters_X5_chosen rfl rfl rfl hd_X5_chosen ⟨Nat.le_of_ble_eq_true rfl, Nat.le_of_ble_eq_true rfl⟩) rfl rfl (Nat.le_of_ble_eq_true rfl) dX5_voters_10 rfl ?_
      refine r_bipush (v := 100) 15 C dX5_voters_13 rfl (by decide) ?_
      refine r_icmp_le 27 18 C dX5_voters_15 rfl rfl (fun c4 => ?_) (fun c4 => ?_)
      · have hf := oip c4 hf
        obtain ⟨x5, hx5, hf⟩ := ol hf
        refine r_iinc 30 C 1 x5 [(2, .int x5), (0, .ref (G.2.1 0))] dX5_voters_27 rfl rfl hx5.symm (by decide) rfl ?_
        refine r_goto 4 C dX5_voters_30 rfl ?_
        refine r_sub [(0, .ref (G.2.1 0)), (2, .int x5)] [1, 0] rfl ?_
        exact ih _ hf
      · have hf := oin c4 hf
        refine r_aload_n 19 C 0 dX5_voters_18 rfl rfl ?_
        refine r_iload_n 20 C 1 dX5_voters_19 rfl rfl ?_
        obtain ⟨x6, hx6, hf⟩ := ob hf
        refine r_Vi (As := [.int v2]) 23 C shM_0 rfl (c_X5_chosen l G A v2 g _ hx6) (cwV 1 C.1.2.2.2.2 gX5_voters_X5_chosen rfl rfl rfl hd_X5_chosen ⟨Nat.le_of_ble_eq_true rfl, Nat.le_of_ble_eq_true rfl⟩) rfl rfl (Nat.le_of_ble_eq_true rfl) dX5_voters_20 rfl ?_
        refine r_bipush (v := 100) 25 C dX5_voters_23 rfl (by decide) ?_
        refine r_isub 26 C dX5_voters_25 rfl ?_
        have hf := Option.some.inj hf
        subst hf
        exact r_iret C hr hk0 dX5_voters_26
set_option maxRecDepth 100000 in
set_option maxHeartbeats 4000000 in
theorem c_X5_voters (l : Launch) (G : GG) (A : Nat → Prop) (a1 : Int32)  (g : Mem) (res : Int32) (hf : f_X5_voters a1 g = some res) : k_Mi l yX5_voters wsX5_voters rm_X5_voters G shM A [.ref (G.2.1 0), .int a1] g res g := by
  refine k_ofi (cc := cX5_voters) (nL := 3) (own := RX5) (by decide +kernel) rfl rfl (by simp [lg_sl, Value.category]) ⟨rfl, rfl⟩ [(0, .ref (G.2.1 0)), (1, .int a1)] rfl ?_
  intro p e s m args below meth c C hr hk0
  rw [f_X5_voters] at hf
  refine r_iload_n 1 C 1 dX5_voters_0 rfl rfl ?_
  refine r_iconst (v := 3) 2 C dX5_voters_1 rfl (by decide) ?_
  refine r_isub 3 C dX5_voters_2 rfl ?_
  obtain ⟨x1, hx1, hf⟩ := ol hf
  refine r_istore_n 4 C [(2, .int x1), (0, .ref (G.2.1 0)), (1, .int a1)] dX5_voters_3 rfl hx1 (by decide) rfl ?_
  refine r_sub [(0, .ref (G.2.1 0)), (2, .int x1)] [1, 0] rfl ?_
  refine t_X5_voters_L4 C hr hk0 a1 g (fun hf => ?_) fuel0 _ hf
  refine r_bipush (v := 7) 35 C dX5_voters_33 rfl (by decide) ?_
  have hf := Option.some.inj hf
  subst hf
  exact r_iret C hr hk0 dX5_voters_35
theorem in_X5_secondSize_X5 : ∀ w ∈ wsX50, w ∈ wsX5_secondSize := by decide +kernel
def rm_X5_secondSize : Room := { frames := 2, cells := 0, slots := 0, locals := 43 }
theorem hd_X5_secondSize : yX5_secondSize.cls = RX5 ∧ yX5_secondSize.cls ≠ "java/lang/invoke/MethodHandle" ∧ yX5_secondSize.cls ≠ "java/lang/invoke/VarHandle" ∧ (parseMethodDescriptor yX5_secondSize.desc).map (fun d => d.parameters.length) = some 1 := by decide +kernel
set_option maxRecDepth 100000 in
set_option maxHeartbeats 4000000 in
theorem c_X5_secondSize (l : Launch) (G : GG) (A : Nat → Prop) (a1 : Int32)  (g : Mem) (res : Int32) (hf : f_X5_secondSize a1 g = some res) : k_Mi l yX5_secondSize wsX5_secondSize rm_X5_secondSize G shM A [.ref (G.2.1 0), .int a1] g res g := by
  have hinX5 : ∀ w ∈ wsX50, w ∈ wsX5_secondSize := in_X5_secondSize_X5
  refine k_ofi (cc := cX5_secondSize) (nL := 3) (own := RX5) (by decide +kernel) rfl rfl (by simp [lg_sl, Value.category]) ⟨rfl, rfl⟩ [(0, .ref (G.2.1 0)), (1, .int a1)] rfl ?_
  intro p e s m args below meth c C hr hk0
  rw [f_X5_secondSize] at hf
  refine r_aload_n 1 C 0 dX5_secondSize_0 rfl rfl ?_
  refine r_iload_n 2 C 1 dX5_secondSize_1 rfl rfl ?_
  obtain ⟨x1, hx1, hf⟩ := ob hf
  refine r_Vi (As := [.int a1]) 5 C shM_0 rfl (c_X5_voters l G A a1 g _ hx1) (cwV 1 C.1.2.2.2.2 gX5_secondSize_X5_voters rfl rfl rfl hd_X5_voters ⟨Nat.le_of_ble_eq_true rfl, Nat.le_of_ble_eq_true rfl⟩) rfl rfl (Nat.le_of_ble_eq_true rfl) dX5_secondSize_2 rfl ?_
  obtain ⟨x2, hx2, hf⟩ := ob hf
  refine r_Si (As := [.int x1]) 8 C (c_X5_bits l G A x1 g _ hx2) (va_cwS 1 C.1.2.2.2.2 gX5_secondSize_X5_bits rfl rfl rfl hd_X5_bits ⟨Nat.le_of_ble_eq_true rfl, Nat.le_of_ble_eq_true rfl⟩) rfl rfl (Nat.le_of_ble_eq_true rfl) dX5_secondSize_5 rfl ?_
  refine r_istore_n 9 C [(2, .int x2), (0, .ref (G.2.1 0)), (1, .int a1)] dX5_secondSize_8 rfl rfl (by decide) rfl ?_
  refine r_aload_n 10 C 1 dX5_secondSize_9 rfl rfl ?_
  refine r_getr 13 C (k := 0) shM_0 rfl hinX5 (by decide) rfl dX5_secondSize_10 rfl (by decide +kernel) ?_
  refine r_sipush (v := 870) 16 C dX5_secondSize_13 rfl (by decide) ?_
  obtain ⟨x3, hx3, hf⟩ := ob hf
  refine r_iaload 17 C shM_1 dX5_secondSize_16 rfl hx3 ?_
  refine r_iload_n 18 C 0 dX5_secondSize_17 rfl rfl ?_
  refine r_icmp_ge 32 21 C dX5_secondSize_18 rfl rfl (fun c4 => ?_) (fun c4 => ?_)
  · have hf := oip c4 hf
    refine r_iload_n 33 C 0 dX5_secondSize_32 rfl rfl ?_
    have hf := Option.some.inj hf
    subst hf
    exact r_iret C hr hk0 dX5_secondSize_33
  · have hf := oin c4 hf
    refine r_aload_n 22 C 1 dX5_secondSize_21 rfl rfl ?_
    refine r_getr 25 C (k := 0) shM_0 rfl hinX5 (by decide) rfl dX5_secondSize_22 rfl (by decide +kernel) ?_
    refine r_sipush (v := 870) 28 C dX5_secondSize_25 rfl (by decide) ?_
    obtain ⟨x5, hx5, hf⟩ := ob hf
    refine r_iaload 29 C shM_1 dX5_secondSize_28 rfl hx5 ?_
    refine r_goto 33 C dX5_secondSize_29 rfl ?_
    have hf := Option.some.inj hf
    subst hf
    exact r_iret C hr hk0 dX5_secondSize_33
def rm_X5_firstSize : Room := { frames := 3, cells := 0, slots := 0, locals := 65 }
theorem hd_X5_firstSize : yX5_firstSize.cls = RX5 ∧ yX5_firstSize.cls ≠ "java/lang/invoke/MethodHandle" ∧ yX5_firstSize.cls ≠ "java/lang/invoke/VarHandle" ∧ (parseMethodDescriptor yX5_firstSize.desc).map (fun d => d.parameters.length) = some 1 := by decide +kernel
set_option maxRecDepth 100000 in
set_option maxHeartbeats 4000000 in
theorem c_X5_firstSize (l : Launch) (G : GG) (A : Nat → Prop) (a1 : Int32)  (g : Mem) (res : Int32) (hf : f_X5_firstSize a1 g = some res) : k_Mi l yX5_firstSize wsX5_firstSize rm_X5_firstSize G shM A [.ref (G.2.1 0), .int a1] g res g := by
  refine k_ofi (cc := cX5_firstSize) (nL := 2) (own := RX5) (by decide +kernel) rfl rfl (by simp [lg_sl, Value.category]) ⟨rfl, rfl⟩ [(0, .ref (G.2.1 0)), (1, .int a1)] rfl ?_
  intro p e s m args below meth c C hr hk0
  rw [f_X5_firstSize] at hf
  refine r_aload_n 1 C 0 dX5_firstSize_0 rfl rfl ?_
  refine r_iload_n 2 C 1 dX5_firstSize_1 rfl rfl ?_
  obtain ⟨x1, hx1, hf⟩ := ob hf
  refine r_Vi (As := [.int a1]) 5 C shM_0 rfl (c_X5_voters l G A a1 g _ hx1) (cwV 1 C.1.2.2.2.2 gX5_firstSize_X5_voters rfl rfl rfl hd_X5_voters ⟨Nat.le_of_ble_eq_true rfl, Nat.le_of_ble_eq_true rfl⟩) rfl rfl (Nat.le_of_ble_eq_true rfl) dX5_firstSize_2 rfl ?_
  obtain ⟨x2, hx2, hf⟩ := ob hf
  refine r_Si (As := [.int x1]) 8 C (c_X5_bits l G A x1 g _ hx2) (va_cwS 1 C.1.2.2.2.2 gX5_firstSize_X5_bits rfl rfl rfl hd_X5_bits ⟨Nat.le_of_ble_eq_true rfl, Nat.le_of_ble_eq_true rfl⟩) rfl rfl (Nat.le_of_ble_eq_true rfl) dX5_firstSize_5 rfl ?_
  refine r_iconst (v := 1) 9 C dX5_firstSize_8 rfl (by decide) ?_
  refine r_iadd 10 C dX5_firstSize_9 rfl ?_
  refine r_aload_n 11 C 0 dX5_firstSize_10 rfl rfl ?_
  refine r_iload_n 12 C 1 dX5_firstSize_11 rfl rfl ?_
  obtain ⟨x3, hx3, hf⟩ := ob hf
  refine r_Vi (As := [.int a1]) 15 C shM_0 rfl (c_X5_secondSize l G A a1 g _ hx3) (cwV 1 C.1.2.2.2.2 gX5_firstSize_X5_secondSize rfl rfl rfl hd_X5_secondSize ⟨Nat.le_of_ble_eq_true rfl, Nat.le_of_ble_eq_true rfl⟩) rfl rfl (Nat.le_of_ble_eq_true rfl) dX5_firstSize_12 rfl ?_
  refine r_isub 16 C dX5_firstSize_15 rfl ?_
  have hf := Option.some.inj hf
  subst hf
  exact r_iret C hr hk0 dX5_firstSize_16
theorem in_X5_ups_X5 : ∀ w ∈ wsX50, w ∈ wsX5_ups := by decide +kernel
def rm_X5_ups : Room := { frames := 0, cells := 0, slots := 0, locals := 0 }
theorem hd_X5_ups : yX5_ups.cls = RX5 ∧ yX5_ups.cls ≠ "java/lang/invoke/MethodHandle" ∧ yX5_ups.cls ≠ "java/lang/invoke/VarHandle" ∧ (parseMethodDescriptor yX5_ups.desc).map (fun d => d.parameters.length) = some 0 := by decide +kernel
set_option maxRecDepth 100000 in
set_option maxHeartbeats 4000000 in
theorem t_X5_ups_L4 {p : Program} {l : Launch} {e : Env} {s : State} {m : MethodId} {args : Array Value} {below : List Frame} {meth : Method} {c : Code} {G : GG} {A : Nat → Prop} (C : KX p s m args c cX5_ups 3 RX5 wsX5_ups G shM A) (hr : meth.sig.returnType = (some .int)) (hk0 : meth.locks = false)  (g : Mem) {res : Int32} {k : Int32 → Option Int32} (hk : ∀ (v1 : Int32), k v1 = some res → JJ p l e rm_X5_ups s m args below meth c 3 G shM A (MQ below (k_Qi G shM A res g) args s 0 0 A) 29 [(1, .int v1)] [] g) : ∀ (n : Nat) (v1 : Int32) (v2 : Int32), f_X5_ups_L4 k g n v1 v2 = some res → JJ p l e rm_X5_ups s m args below meth c 3 G shM A (MQ below (k_Qi G shM A res g) args s 0 0 A) 4 [(0, .ref (G.2.1 0)), (1, .int v1), (2, .int v2)] [] g := by
  have hinX5 : ∀ w ∈ wsX50, w ∈ wsX5_ups := in_X5_ups_X5
  intro n
  induction n with
  | zero =>
    intro v1 v2 hf
    rw [f_X5_ups_L4] at hf
    cases hf
  | succ n ih =>
    intro v1 v2 hf
    rw [f_X5_ups_L4] at hf
    refine r_iload_n 5 C 2 dX5_ups_4 rfl rfl ?_
    refine r_bipush (v := 6) 7 C dX5_ups_5 rfl (by decide) ?_
    refine r_icmp_ge 29 10 C dX5_ups_7 rfl rfl (fun c1 => ?_) (fun c1 => ?_)
    · have hf := oip c1 hf
      refine r_sub [(1, .int v1)] [1] rfl ?_
      exact hk _ hf
    · have hf := oin c1 hf
      refine r_iload_n 11 C 1 dX5_ups_10 rfl rfl ?_
      refine r_aload_n 12 C 0 dX5_ups_11 rfl rfl ?_
      refine r_getr 15 C (k := 0) shM_0 rfl hinX5 (by decide) rfl dX5_ups_12 rfl (by decide +kernel) ?_
      refine r_iconst (v := 0) 16 C dX5_ups_15 rfl (by decide) ?_
      refine r_iload_n 17 C 2 dX5_ups_16 rfl rfl ?_
      refine r_iadd 18 C dX5_ups_17 rfl ?_
      obtain ⟨x2, hx2, hf⟩ := ob hf
      refine r_iaload 19 C shM_1 dX5_ups_18 rfl hx2 ?_
      refine r_iload_n 20 C 2 dX5_ups_19 rfl rfl ?_
      refine r_ishl 21 C dX5_ups_20 rfl ?_
      refine r_ior 22 C dX5_ups_21 rfl ?_
      obtain ⟨x3, hx3, hf⟩ := ol hf
      refine r_istore_n 23 C [(1, .int x3), (0, .ref (G.2.1 0)), (2, .int v2)] dX5_ups_22 rfl hx3 (by decide) rfl ?_
      obtain ⟨x4, hx4, hf⟩ := ol hf
      refine r_iinc 26 C 2 x4 [(2, .int x4), (1, .int x3), (0, .ref (G.2.1 0))] dX5_ups_23 rfl rfl hx4.symm (by decide) rfl ?_
      refine r_goto 4 C dX5_ups_26 rfl ?_
      refine r_sub [(0, .ref (G.2.1 0)), (1, .int x3), (2, .int x4)] [2, 1, 0] rfl ?_
      exact ih _ _ hf
set_option maxRecDepth 100000 in
set_option maxHeartbeats 4000000 in
theorem c_X5_ups (l : Launch) (G : GG) (A : Nat → Prop)   (g : Mem) (res : Int32) (hf : f_X5_ups  g = some res) : k_Mi l yX5_ups wsX5_ups rm_X5_ups G shM A [.ref (G.2.1 0)] g res g := by
  have hinX5 : ∀ w ∈ wsX50, w ∈ wsX5_ups := in_X5_ups_X5
  refine k_ofi (cc := cX5_ups) (nL := 3) (own := RX5) (by decide +kernel) rfl rfl (by simp [lg_sl, Value.category]) ⟨rfl, rfl⟩ [(0, .ref (G.2.1 0))] rfl ?_
  intro p e s m args below meth c C hr hk0
  rw [f_X5_ups] at hf
  refine r_iconst (v := 0) 1 C dX5_ups_0 rfl (by decide) ?_
  refine r_istore_n 2 C [(1, .int 0), (0, .ref (G.2.1 0))] dX5_ups_1 rfl rfl (by decide) rfl ?_
  refine r_iconst (v := 0) 3 C dX5_ups_2 rfl (by decide) ?_
  refine r_istore_n 4 C [(2, .int 0), (1, .int 0), (0, .ref (G.2.1 0))] dX5_ups_3 rfl rfl (by decide) rfl ?_
  refine r_sub [(0, .ref (G.2.1 0)), (1, .int 0), (2, .int 0)] [2, 1, 0] rfl ?_
  refine t_X5_ups_L4 C hr hk0 g (fun x5 hf => ?_) fuel0 _ _ hf
  refine r_iload_n 30 C 0 dX5_ups_29 rfl rfl ?_
  have hf := Option.some.inj hf
  subst hf
  exact r_iret C hr hk0 dX5_ups_30
theorem in_X5_setUp_X5 : ∀ w ∈ wsX50, w ∈ wsX5_setUp := by decide +kernel
def rm_X5_setUp : Room := { frames := 2, cells := 0, slots := 0, locals := 42 }
theorem hd_X5_setUp : yX5_setUp.cls = RX5 ∧ yX5_setUp.cls ≠ "java/lang/invoke/MethodHandle" ∧ yX5_setUp.cls ≠ "java/lang/invoke/VarHandle" ∧ (parseMethodDescriptor yX5_setUp.desc).map (fun d => d.parameters.length) = some 2 := by decide +kernel
set_option maxRecDepth 100000 in
set_option maxHeartbeats 4000000 in
theorem t_X5_setUp_J26 {p : Program} {l : Launch} {e : Env} {s : State} {m : MethodId} {args : Array Value} {below : List Frame} {meth : Method} {c : Code} {G : GG} {A : Nat → Prop} (C : KX p s m args c cX5_setUp 3 RX5 wsX5_setUp G shM A) (hr : meth.sig.returnType = (some .int)) (hk0 : meth.locks = false) (a1 : Int32) (b2 : Bool)  (v1 : Int32) (v2 : Bool) (s0 : Int32) (g : Mem) {res : Int32 × Mem} (hf : f_X5_setUp_J26 v1 v2 s0 g = some res) : JJ p l e rm_X5_setUp s m args below meth c 3 G shM A (MQ below (k_Qi G shM A res.1 res.2) args s 0 0 A) 26 [(0, .ref (G.2.1 0)), (1, .int v1), (2, .int (bI v2))] [.int s0] g := by
  have hinX5 : ∀ w ∈ wsX50, w ∈ wsX5_setUp := in_X5_setUp_X5
  rw [f_X5_setUp_J26] at hf
  refine r_iload_n 27 C 2 dX5_setUp_26 rfl rfl ?_
  refine r_icmp_ne 33 30 C dX5_setUp_27 rfl rfl (fun c4 => ?_) (fun c4 => ?_)
  · have hf := oin c4 hf
    refine r_aload_n 34 C 0 dX5_setUp_33 rfl rfl ?_
    obtain ⟨g5, hg5, hf⟩ := ob hf
    refine r_Vv (As := []) 37 C shM_0 rfl (c_X5_record l G A g _ hg5) (cwV 0 C.1.2.2.2.2 gX5_setUp_X5_record rfl rfl rfl hd_X5_record ⟨Nat.le_of_ble_eq_true rfl, Nat.le_of_ble_eq_true rfl⟩) rfl rfl (Nat.le_of_ble_eq_true rfl) dX5_setUp_34 rfl ?_
    refine r_aload_n 38 C 0 dX5_setUp_37 rfl rfl ?_
    refine r_getr 41 C (k := 0) shM_0 rfl hinX5 (by decide) rfl dX5_setUp_38 rfl (by decide +kernel) ?_
    refine r_iconst (v := 0) 42 C dX5_setUp_41 rfl (by decide) ?_
    refine r_iload_n 43 C 1 dX5_setUp_42 rfl rfl ?_
    refine r_iadd 44 C dX5_setUp_43 rfl ?_
    refine r_iload_n 45 C 2 dX5_setUp_44 rfl rfl ?_
    refine r_if_eq 52 48 C dX5_setUp_45 rfl rfl (fun c6 => ?_) (fun c6 => ?_)
    · have hf := obf c6 hf
      refine r_iconst (v := 0) 53 C dX5_setUp_52 rfl (by decide) ?_
      obtain ⟨g7, hg7, hf⟩ := ob hf
      refine r_iastore 54 C shM_1 dX5_setUp_53 rfl hg7 ?_
      refine r_aload_n 55 C 0 dX5_setUp_54 rfl rfl ?_
      obtain ⟨x8, hx8, hf⟩ := ob hf
      refine r_Vi (As := []) 58 C shM_0 rfl (c_X5_ups l G A g7 _ hx8) (cwV 0 C.1.2.2.2.2 gX5_setUp_X5_ups rfl rfl rfl hd_X5_ups ⟨Nat.le_of_ble_eq_true rfl, Nat.le_of_ble_eq_true rfl⟩) rfl rfl (Nat.le_of_ble_eq_true rfl) dX5_setUp_55 rfl ?_
      obtain ⟨x9, hx9, hf⟩ := ob hf
      refine r_Si (As := [.int x8]) 61 C (c_X5_bits l G A x8 g7 _ hx9) (va_cwS 1 C.1.2.2.2.2 gX5_setUp_X5_bits rfl rfl rfl hd_X5_bits ⟨Nat.le_of_ble_eq_true rfl, Nat.le_of_ble_eq_true rfl⟩) rfl rfl (Nat.le_of_ble_eq_true rfl) dX5_setUp_58 rfl ?_
      have hf := Option.some.inj hf
      subst hf
      exact r_iret C hr hk0 dX5_setUp_61
    · have hf := obt c6 hf
      refine r_iconst (v := 1) 49 C dX5_setUp_48 rfl (by decide) ?_
      refine r_goto 53 C dX5_setUp_49 rfl ?_
      obtain ⟨g10, hg10, hf⟩ := ob hf
      refine r_iastore 54 C shM_1 dX5_setUp_53 rfl hg10 ?_
      refine r_aload_n 55 C 0 dX5_setUp_54 rfl rfl ?_
      obtain ⟨x11, hx11, hf⟩ := ob hf
      refine r_Vi (As := []) 58 C shM_0 rfl (c_X5_ups l G A g10 _ hx11) (cwV 0 C.1.2.2.2.2 gX5_setUp_X5_ups rfl rfl rfl hd_X5_ups ⟨Nat.le_of_ble_eq_true rfl, Nat.le_of_ble_eq_true rfl⟩) rfl rfl (Nat.le_of_ble_eq_true rfl) dX5_setUp_55 rfl ?_
      obtain ⟨x12, hx12, hf⟩ := ob hf
      refine r_Si (As := [.int x11]) 61 C (c_X5_bits l G A x11 g10 _ hx12) (va_cwS 1 C.1.2.2.2.2 gX5_setUp_X5_bits rfl rfl rfl hd_X5_bits ⟨Nat.le_of_ble_eq_true rfl, Nat.le_of_ble_eq_true rfl⟩) rfl rfl (Nat.le_of_ble_eq_true rfl) dX5_setUp_58 rfl ?_
      have hf := Option.some.inj hf
      subst hf
      exact r_iret C hr hk0 dX5_setUp_61
  · have hf := oip c4 hf
    refine r_bipush (v := (-5)) 32 C dX5_setUp_30 rfl (by decide) ?_
    have hf := Option.some.inj hf
    subst hf
    exact r_iret C hr hk0 dX5_setUp_32
set_option maxRecDepth 100000 in
set_option maxHeartbeats 4000000 in
theorem c_X5_setUp (l : Launch) (G : GG) (A : Nat → Prop) (a1 : Int32) (b2 : Bool)  (g : Mem) (res : Int32 × Mem) (hf : f_X5_setUp a1 b2 g = some res) : k_Mi l yX5_setUp wsX5_setUp rm_X5_setUp G shM A [.ref (G.2.1 0), .int a1, .int (bI b2)] g res.1 res.2 := by
  have hinX5 : ∀ w ∈ wsX50, w ∈ wsX5_setUp := in_X5_setUp_X5
  refine k_ofi (cc := cX5_setUp) (nL := 3) (own := RX5) (by decide +kernel) rfl rfl (by simp [lg_sl, Value.category]) ⟨rfl, rfl⟩ [(0, .ref (G.2.1 0)), (1, .int a1), (2, .int (bI b2))] rfl ?_
  intro p e s m args below meth c C hr hk0
  rw [f_X5_setUp] at hf
  refine r_iload_n 1 C 1 dX5_setUp_0 rfl rfl ?_
  refine r_Si (As := [.int a1]) 4 C (c_X5_noAcceptor l G A a1 g _ rfl) (va_cwS 1 C.1.2.2.2.2 gX5_setUp_X5_noAcceptor rfl rfl rfl hd_X5_noAcceptor ⟨Nat.le_of_ble_eq_true rfl, Nat.le_of_ble_eq_true rfl⟩) rfl rfl (Nat.le_of_ble_eq_true rfl) dX5_setUp_1 rfl ?_
  refine r_if_eq 9 7 C dX5_setUp_4 rfl rfl (fun c1 => ?_) (fun c1 => ?_)
  · have hf := obf c1 hf
    refine r_aload_n 10 C 0 dX5_setUp_9 rfl rfl ?_
    refine r_getr 13 C (k := 0) shM_0 rfl hinX5 (by decide) rfl dX5_setUp_10 rfl (by decide +kernel) ?_
    refine r_iconst (v := 0) 14 C dX5_setUp_13 rfl (by decide) ?_
    refine r_iload_n 15 C 1 dX5_setUp_14 rfl rfl ?_
    refine r_iadd 16 C dX5_setUp_15 rfl ?_
    obtain ⟨x2, hx2, hf⟩ := ob hf
    refine r_iaload 17 C shM_1 dX5_setUp_16 rfl hx2 ?_
    refine r_iconst (v := 1) 18 C dX5_setUp_17 rfl (by decide) ?_
    refine r_icmp_ne 25 21 C dX5_setUp_18 rfl rfl (fun c3 => ?_) (fun c3 => ?_)
    · have hf := oin c3 hf
      refine r_iconst (v := 0) 26 C dX5_setUp_25 rfl (by decide) ?_
      refine r_sub [(0, .ref (G.2.1 0)), (1, .int a1), (2, .int (bI b2))] [0, 1, 2] rfl ?_
      exact t_X5_setUp_J26 C hr hk0 a1 b2 a1 b2 0 g hf
    · have hf := oip c3 hf
      refine r_iconst (v := 1) 22 C dX5_setUp_21 rfl (by decide) ?_
      refine r_goto 26 C dX5_setUp_22 rfl ?_
      refine r_sub [(0, .ref (G.2.1 0)), (1, .int a1), (2, .int (bI b2))] [0, 1, 2] rfl ?_
      exact t_X5_setUp_J26 C hr hk0 a1 b2 a1 b2 1 g hf
  · have hf := obt c1 hf
    refine r_iconst (v := (-1)) 8 C dX5_setUp_7 rfl (by decide) ?_
    have hf := Option.some.inj hf
    subst hf
    exact r_iret C hr hk0 dX5_setUp_8
theorem in_X5_setSecond_X5 : ∀ w ∈ wsX50, w ∈ wsX5_setSecond := by decide +kernel
def rm_X5_setSecond : Room := { frames := 1, cells := 0, slots := 0, locals := 22 }
theorem hd_X5_setSecond : yX5_setSecond.cls = RX5 ∧ yX5_setSecond.cls ≠ "java/lang/invoke/MethodHandle" ∧ yX5_setSecond.cls ≠ "java/lang/invoke/VarHandle" ∧ (parseMethodDescriptor yX5_setSecond.desc).map (fun d => d.parameters.length) = some 1 := by decide +kernel
set_option maxRecDepth 100000 in
set_option maxHeartbeats 4000000 in
theorem t_X5_setSecond_L15 {p : Program} {l : Launch} {e : Env} {s : State} {m : MethodId} {args : Array Value} {below : List Frame} {meth : Method} {c : Code} {G : GG} {A : Nat → Prop} (C : KX p s m args c cX5_setSecond 3 RX5 wsX5_setSecond G shM A) (hr : meth.sig.returnType = (some .int)) (hk0 : meth.locks = false) (a1 : Int32)  (v1 : Int32) (g : Mem) {res : Int32 × Mem} {k : Option (Int32 × Mem)} (hk : k = some res → JJ p l e rm_X5_setSecond s m args below meth c 3 G shM A (MQ below (k_Qi G shM A res.1 res.2) args s 0 0 A) 42 [(0, .ref (G.2.1 0)), (1, .int v1)] [] g) : ∀ (n : Nat) (v2 : Int32), f_X5_setSecond_L15 k v1 g n v2 = some res → JJ p l e rm_X5_setSecond s m args below meth c 3 G shM A (MQ below (k_Qi G shM A res.1 res.2) args s 0 0 A) 15 [(0, .ref (G.2.1 0)), (1, .int v1), (2, .int v2)] [] g := by
  have hinX5 : ∀ w ∈ wsX50, w ∈ wsX5_setSecond := in_X5_setSecond_X5
  intro n
  induction n with
  | zero =>
    intro v2 hf
    rw [f_X5_setSecond_L15] at hf
    cases hf
  | succ n ih =>
    intro v2 hf
    rw [f_X5_setSecond_L15] at hf
    refine r_iload_n 16 C 2 dX5_setSecond_15 rfl rfl ?_
    refine r_iconst (v := 3) 17 C dX5_setSecond_16 rfl (by decide) ?_
    refine r_icmp_ge 42 20 C dX5_setSecond_17 rfl rfl (fun c2 => ?_) (fun c2 => ?_)
    · have hf := oip c2 hf
      refine r_sub [(0, .ref (G.2.1 0)), (1, .int v1)] [0, 1] rfl ?_
      exact hk  hf
    · have hf := oin c2 hf
      refine r_aload_n 21 C 0 dX5_setSecond_20 rfl rfl ?_
      refine r_getr 24 C (k := 0) shM_0 rfl hinX5 (by decide) rfl dX5_setSecond_21 rfl (by decide +kernel) ?_
      refine r_sipush (v := 204) 27 C dX5_setSecond_24 rfl (by decide) ?_
      refine r_iload_n 28 C 2 dX5_setSecond_27 rfl rfl ?_
      refine r_iadd 29 C dX5_setSecond_28 rfl ?_
      obtain ⟨x3, hx3, hf⟩ := ob hf
      refine r_iaload 30 C shM_1 dX5_setSecond_29 rfl hx3 ?_
      refine r_if_le 36 33 C dX5_setSecond_30 rfl rfl (fun c4 => ?_) (fun c4 => ?_)
      · have hf := oip c4 hf
        obtain ⟨x5, hx5, hf⟩ := ol hf
        refine r_iinc 39 C 2 x5 [(2, .int x5), (0, .ref (G.2.1 0)), (1, .int v1)] dX5_setSecond_36 rfl rfl hx5.symm (by decide) rfl ?_
        refine r_goto 15 C dX5_setSecond_39 rfl ?_
        refine r_sub [(0, .ref (G.2.1 0)), (1, .int v1), (2, .int x5)] [1, 2, 0] rfl ?_
        exact ih _ hf
      · have hf := oin c4 hf
        refine r_bipush (v := (-4)) 35 C dX5_setSecond_33 rfl (by decide) ?_
        have hf := Option.some.inj hf
        subst hf
        exact r_iret C hr hk0 dX5_setSecond_35
set_option maxRecDepth 100000 in
set_option maxHeartbeats 4000000 in
theorem c_X5_setSecond (l : Launch) (G : GG) (A : Nat → Prop) (a1 : Int32)  (g : Mem) (res : Int32 × Mem) (hf : f_X5_setSecond a1 g = some res) : k_Mi l yX5_setSecond wsX5_setSecond rm_X5_setSecond G shM A [.ref (G.2.1 0), .int a1] g res.1 res.2 := by
  have hinX5 : ∀ w ∈ wsX50, w ∈ wsX5_setSecond := in_X5_setSecond_X5
  refine k_ofi (cc := cX5_setSecond) (nL := 3) (own := RX5) (by decide +kernel) rfl rfl (by simp [lg_sl, Value.category]) ⟨rfl, rfl⟩ [(0, .ref (G.2.1 0)), (1, .int a1)] rfl ?_
  intro p e s m args below meth c C hr hk0
  rw [f_X5_setSecond] at hf
  refine r_iload_n 1 C 1 dX5_setSecond_0 rfl rfl ?_
  refine r_iconst (v := 1) 2 C dX5_setSecond_1 rfl (by decide) ?_
  refine r_bipush (v := 6) 4 C dX5_setSecond_2 rfl (by decide) ?_
  refine r_Si (As := [.int a1, .int 1, .int 6]) 7 C (c_X5_in l G A a1 1 6 g _ rfl) (va_cwS 3 C.1.2.2.2.2 gX5_setSecond_X5_in rfl rfl rfl hd_X5_in ⟨Nat.le_of_ble_eq_true rfl, Nat.le_of_ble_eq_true rfl⟩) rfl rfl (Nat.le_of_ble_eq_true rfl) dX5_setSecond_4 rfl ?_
  refine r_if_ne 13 10 C dX5_setSecond_7 rfl rfl (fun c1 => ?_) (fun c1 => ?_)
  · have hf := obt c1 hf
    refine r_iconst (v := 0) 14 C dX5_setSecond_13 rfl (by decide) ?_
    refine r_istore_n 15 C [(2, .int 0), (0, .ref (G.2.1 0)), (1, .int a1)] dX5_setSecond_14 rfl rfl (by decide) rfl ?_
    refine r_sub [(0, .ref (G.2.1 0)), (1, .int a1), (2, .int 0)] [1, 2, 0] rfl ?_
    refine t_X5_setSecond_L15 C hr hk0 a1 a1 g (fun hf => ?_) fuel0 _ hf
    refine r_aload_n 43 C 0 dX5_setSecond_42 rfl rfl ?_
    refine r_getr 46 C (k := 0) shM_0 rfl hinX5 (by decide) rfl dX5_setSecond_43 rfl (by decide +kernel) ?_
    refine r_sipush (v := 870) 49 C dX5_setSecond_46 rfl (by decide) ?_
    obtain ⟨x6, hx6, hf⟩ := ob hf
    refine r_iaload 50 C shM_1 dX5_setSecond_49 rfl hx6 ?_
    refine r_istore_n 51 C [(2, .int x6), (0, .ref (G.2.1 0)), (1, .int a1)] dX5_setSecond_50 rfl rfl (by decide) rfl ?_
    refine r_iload_n 52 C 0 dX5_setSecond_51 rfl rfl ?_
    refine r_iload_n 53 C 2 dX5_setSecond_52 rfl rfl ?_
    refine r_icmp_ne 59 56 C dX5_setSecond_53 rfl rfl (fun c7 => ?_) (fun c7 => ?_)
    · have hf := oin c7 hf
      refine r_aload_n 60 C 1 dX5_setSecond_59 rfl rfl ?_
      obtain ⟨g8, hg8, hf⟩ := ob hf
      refine r_Vv (As := []) 63 C shM_0 rfl (c_X5_record l G A g _ hg8) (cwV 0 C.1.2.2.2.2 gX5_setSecond_X5_record rfl rfl rfl hd_X5_record ⟨Nat.le_of_ble_eq_true rfl, Nat.le_of_ble_eq_true rfl⟩) rfl rfl (Nat.le_of_ble_eq_true rfl) dX5_setSecond_60 rfl ?_
      refine r_aload_n 64 C 1 dX5_setSecond_63 rfl rfl ?_
      refine r_getr 67 C (k := 0) shM_0 rfl hinX5 (by decide) rfl dX5_setSecond_64 rfl (by decide +kernel) ?_
      refine r_sipush (v := 870) 70 C dX5_setSecond_67 rfl (by decide) ?_
      refine r_iload_n 71 C 2 dX5_setSecond_70 rfl rfl ?_
      obtain ⟨g9, hg9, hf⟩ := ob hf
      refine r_iastore 72 C shM_1 dX5_setSecond_71 rfl hg9 ?_
      refine r_iload_n 73 C 0 dX5_setSecond_72 rfl rfl ?_
      have hf := Option.some.inj hf
      subst hf
      exact r_iret C hr hk0 dX5_setSecond_73
    · have hf := oip c7 hf
      refine r_bipush (v := (-5)) 58 C dX5_setSecond_56 rfl (by decide) ?_
      have hf := Option.some.inj hf
      subst hf
      exact r_iret C hr hk0 dX5_setSecond_58
  · have hf := obf c1 hf
    refine r_bipush (v := (-2)) 12 C dX5_setSecond_10 rfl (by decide) ?_
    have hf := Option.some.inj hf
    subst hf
    exact r_iret C hr hk0 dX5_setSecond_12
theorem in_X5_prepare_X5 : ∀ w ∈ wsX50, w ∈ wsX5_prepare := by decide +kernel
def rm_X5_prepare : Room := { frames := 2, cells := 0, slots := 0, locals := 42 }
theorem hd_X5_prepare : yX5_prepare.cls = RX5 ∧ yX5_prepare.cls ≠ "java/lang/invoke/MethodHandle" ∧ yX5_prepare.cls ≠ "java/lang/invoke/VarHandle" ∧ (parseMethodDescriptor yX5_prepare.desc).map (fun d => d.parameters.length) = some 1 := by decide +kernel
set_option maxRecDepth 100000 in
set_option maxHeartbeats 4000000 in
theorem t_X5_prepare_L60 {p : Program} {l : Launch} {e : Env} {s : State} {m : MethodId} {args : Array Value} {below : List Frame} {meth : Method} {c : Code} {G : GG} {A : Nat → Prop} (C : KX p s m args c cX5_prepare 6 RX5 wsX5_prepare G shM A) (hr : meth.sig.returnType = (some .int)) (hk0 : meth.locks = false) (a1 : Int32)  (v1 : Int32) (v2 : Int32) (g : Mem) {res : Int32 × Mem} {k : Int32 → Option (Int32 × Mem)} (hk : ∀ (v3 : Int32), k v3 = some res → JJ p l e rm_X5_prepare s m args below meth c 6 G shM A (MQ below (k_Qi G shM A res.1 res.2) args s 0 0 A) 71 [(0, .ref (G.2.1 0)), (1, .int v1), (3, .int v3)] [] g) : ∀ (n : Nat) (v3 : Int32), f_X5_prepare_L60 k v1 v2 g n v3 = some res → JJ p l e rm_X5_prepare s m args below meth c 6 G shM A (MQ below (k_Qi G shM A res.1 res.2) args s 0 0 A) 60 [(0, .ref (G.2.1 0)), (1, .int v1), (2, .int v2), (3, .int v3)] [] g := by
  have hinX5 : ∀ w ∈ wsX50, w ∈ wsX5_prepare := in_X5_prepare_X5
  intro n
  induction n with
  | zero =>
    intro v3 hf
    rw [f_X5_prepare_L60] at hf
    cases hf
  | succ n ih =>
    intro v3 hf
    rw [f_X5_prepare_L60] at hf
    refine r_iload_n 61 C 3 dX5_prepare_60 rfl rfl ?_
    refine r_iload_n 62 C 2 dX5_prepare_61 rfl rfl ?_
    refine r_icmp_gt 71 65 C dX5_prepare_62 rfl rfl (fun c7 => ?_) (fun c7 => ?_)
    · have hf := oip c7 hf
      refine r_sub [(0, .ref (G.2.1 0)), (1, .int v1), (3, .int v3)] [0, 1, 3] rfl ?_
      exact hk _ hf
    · have hf := oin c7 hf
      obtain ⟨x8, hx8, hf⟩ := ol hf
      refine r_iinc 68 C 3 x8 [(3, .int x8), (0, .ref (G.2.1 0)), (1, .int v1), (2, .int v2)] dX5_prepare_65 rfl rfl hx8.symm (by decide) rfl ?_
      refine r_goto 60 C dX5_prepare_68 rfl ?_
      refine r_sub [(0, .ref (G.2.1 0)), (1, .int v1), (2, .int v2), (3, .int x8)] [1, 2, 3, 0] rfl ?_
      exact ih _ hf
set_option maxRecDepth 100000 in
set_option maxHeartbeats 4000000 in
theorem t_X5_prepare_L132 {p : Program} {l : Launch} {e : Env} {s : State} {m : MethodId} {args : Array Value} {below : List Frame} {meth : Method} {c : Code} {G : GG} {A : Nat → Prop} (C : KX p s m args c cX5_prepare 6 RX5 wsX5_prepare G shM A) (hr : meth.sig.returnType = (some .int)) (hk0 : meth.locks = false) (a1 : Int32)  (v1 : Int32) (v3 : Int32) (v4 : Int32) {res : Int32 × Mem} {k : Mem → Option (Int32 × Mem)} (hk : ∀ (g : Mem), k g = some res → JJ p l e rm_X5_prepare s m args below meth c 6 G shM A (MQ below (k_Qi G shM A res.1 res.2) args s 0 0 A) 175 [(0, .ref (G.2.1 0)), (1, .int v1), (3, .int v3), (4, .int v4)] [] g) : ∀ (n : Nat) (v5 : Int32) (g : Mem), f_X5_prepare_L132 k v1 v3 v4 n v5 g = some res → JJ p l e rm_X5_prepare s m args below meth c 6 G shM A (MQ below (k_Qi G shM A res.1 res.2) args s 0 0 A) 132 [(0, .ref (G.2.1 0)), (1, .int v1), (3, .int v3), (4, .int v4), (5, .int v5)] [] g := by
  have hinX5 : ∀ w ∈ wsX50, w ∈ wsX5_prepare := in_X5_prepare_X5
  intro n
  induction n with
  | zero =>
    intro v5 g hf
    rw [f_X5_prepare_L132] at hf
    cases hf
  | succ n ih =>
    intro v5 g hf
    rw [f_X5_prepare_L132] at hf
    refine r_iload 134 C 4 dX5_prepare_132 rfl rfl ?_
    refine r_bipush (v := 6) 136 C dX5_prepare_134 rfl (by decide) ?_
    refine r_icmp_ge 175 139 C dX5_prepare_136 rfl rfl (fun c16 => ?_) (fun c16 => ?_)
    · have hf := oip c16 hf
      refine r_sub [(0, .ref (G.2.1 0)), (1, .int v1), (3, .int v3), (4, .int v4)] [0, 1, 2, 3] rfl ?_
      exact hk  _ hf
    · have hf := oin c16 hf
      refine r_aload_n 140 C 0 dX5_prepare_139 rfl rfl ?_
      refine r_getr 143 C (k := 0) shM_0 rfl hinX5 (by decide) rfl dX5_prepare_140 rfl (by decide +kernel) ?_
      refine r_iload_n 144 C 1 dX5_prepare_143 rfl rfl ?_
      refine r_iload 146 C 4 dX5_prepare_144 rfl rfl ?_
      refine r_iload 148 C 3 dX5_prepare_146 rfl rfl ?_
      refine r_Si (As := [.int v1, .int v5, .int v4]) 151 C (c_X5_toldAt l G A v1 v5 v4 g _ rfl) (va_cwS 3 C.1.2.2.2.2 gX5_prepare_X5_toldAt rfl rfl rfl hd_X5_toldAt ⟨Nat.le_of_ble_eq_true rfl, Nat.le_of_ble_eq_true rfl⟩) rfl rfl (Nat.le_of_ble_eq_true rfl) dX5_prepare_148 rfl ?_
      refine r_iconst (v := 0) 152 C dX5_prepare_151 rfl (by decide) ?_
      obtain ⟨g17, hg17, hf⟩ := ob hf
      refine r_iastore 153 C shM_1 dX5_prepare_152 rfl hg17 ?_
      refine r_aload_n 154 C 0 dX5_prepare_153 rfl rfl ?_
      refine r_getr 157 C (k := 0) shM_0 rfl hinX5 (by decide) rfl dX5_prepare_154 rfl (by decide +kernel) ?_
      refine r_iload_n 158 C 1 dX5_prepare_157 rfl rfl ?_
      refine r_iload 160 C 4 dX5_prepare_158 rfl rfl ?_
      refine r_iload 162 C 3 dX5_prepare_160 rfl rfl ?_
      refine r_Si (As := [.int v1, .int v5, .int v4]) 165 C (c_X5_toldAt l G A v1 v5 v4 g17 _ rfl) (va_cwS 3 C.1.2.2.2.2 gX5_prepare_X5_toldAt rfl rfl rfl hd_X5_toldAt ⟨Nat.le_of_ble_eq_true rfl, Nat.le_of_ble_eq_true rfl⟩) rfl rfl (Nat.le_of_ble_eq_true rfl) dX5_prepare_162 rfl ?_
      refine r_iconst (v := 1) 166 C dX5_prepare_165 rfl (by decide) ?_
      refine r_iadd 167 C dX5_prepare_166 rfl ?_
      refine r_iconst (v := 0) 168 C dX5_prepare_167 rfl (by decide) ?_
      obtain ⟨g18, hg18, hf⟩ := ob hf
      refine r_iastore 169 C shM_1 dX5_prepare_168 rfl hg18 ?_
      obtain ⟨x19, hx19, hf⟩ := ol hf
      refine r_iinc 172 C 4 x19 [(5, .int x19), (0, .ref (G.2.1 0)), (1, .int v1), (3, .int v3), (4, .int v4)] dX5_prepare_169 rfl rfl hx19.symm (by decide) rfl ?_
      refine r_goto 132 C dX5_prepare_172 rfl ?_
      refine r_sub [(0, .ref (G.2.1 0)), (1, .int v1), (3, .int v3), (4, .int v4), (5, .int x19)] [1, 2, 3, 4, 0] rfl ?_
      exact ih _ _ hf
set_option maxRecDepth 100000 in
set_option maxHeartbeats 4000000 in
theorem t_X5_prepare_L110 {p : Program} {l : Launch} {e : Env} {s : State} {m : MethodId} {args : Array Value} {below : List Frame} {meth : Method} {c : Code} {G : GG} {A : Nat → Prop} (C : KX p s m args c cX5_prepare 6 RX5 wsX5_prepare G shM A) (hr : meth.sig.returnType = (some .int)) (hk0 : meth.locks = false) (a1 : Int32)  (v1 : Int32) (v3 : Int32) {res : Int32 × Mem} {k : Mem → Option (Int32 × Mem)} (hk : ∀ (g : Mem), k g = some res → JJ p l e rm_X5_prepare s m args below meth c 6 G shM A (MQ below (k_Qi G shM A res.1 res.2) args s 0 0 A) 181 [(3, .int v3)] [] g) : ∀ (n : Nat) (v4 : Int32) (g : Mem), f_X5_prepare_L110 k v1 v3 n v4 g = some res → JJ p l e rm_X5_prepare s m args below meth c 6 G shM A (MQ below (k_Qi G shM A res.1 res.2) args s 0 0 A) 110 [(0, .ref (G.2.1 0)), (1, .int v1), (3, .int v3), (4, .int v4)] [] g := by
  have hinX5 : ∀ w ∈ wsX50, w ∈ wsX5_prepare := in_X5_prepare_X5
  intro n
  induction n with
  | zero =>
    intro v4 g hf
    rw [f_X5_prepare_L110] at hf
    cases hf
  | succ n ih =>
    intro v4 g hf
    rw [f_X5_prepare_L110] at hf
    refine r_iload 112 C 3 dX5_prepare_110 rfl rfl ?_
    refine r_bipush (v := 16) 114 C dX5_prepare_112 rfl (by decide) ?_
    refine r_icmp_gt 181 117 C dX5_prepare_114 rfl rfl (fun c14 => ?_) (fun c14 => ?_)
    · have hf := oip c14 hf
      refine r_sub [(3, .int v3)] [2] rfl ?_
      exact hk  _ hf
    · have hf := oin c14 hf
      refine r_aload_n 118 C 0 dX5_prepare_117 rfl rfl ?_
      refine r_getr 121 C (k := 0) shM_0 rfl hinX5 (by decide) rfl dX5_prepare_118 rfl (by decide +kernel) ?_
      refine r_iload_n 122 C 1 dX5_prepare_121 rfl rfl ?_
      refine r_iload 124 C 3 dX5_prepare_122 rfl rfl ?_
      refine r_Si (As := [.int v1, .int v4]) 127 C (c_X5_proposedAt l G A v1 v4 g _ rfl) (va_cwS 2 C.1.2.2.2.2 gX5_prepare_X5_proposedAt rfl rfl rfl hd_X5_proposedAt ⟨Nat.le_of_ble_eq_true rfl, Nat.le_of_ble_eq_true rfl⟩) rfl rfl (Nat.le_of_ble_eq_true rfl) dX5_prepare_124 rfl ?_
      refine r_iconst (v := 0) 128 C dX5_prepare_127 rfl (by decide) ?_
      obtain ⟨g15, hg15, hf⟩ := ob hf
      refine r_iastore 129 C shM_1 dX5_prepare_128 rfl hg15 ?_
      refine r_iconst (v := 0) 130 C dX5_prepare_129 rfl (by decide) ?_
      refine r_istore 132 C [(5, .int 0), (0, .ref (G.2.1 0)), (1, .int v1), (3, .int v3), (4, .int v4)] dX5_prepare_130 rfl rfl (by decide) rfl ?_
      refine r_sub [(0, .ref (G.2.1 0)), (1, .int v1), (3, .int v3), (4, .int v4), (5, .int 0)] [1, 2, 3, 4, 0] rfl ?_
      refine t_X5_prepare_L132 C hr hk0 a1 v1 v3 v4 (fun g20 hf => ?_) fuel0 _ _ hf
      obtain ⟨x21, hx21, hf⟩ := ol hf
      refine r_iinc 178 C 3 x21 [(4, .int x21), (0, .ref (G.2.1 0)), (1, .int v1), (3, .int v3)] dX5_prepare_175 rfl rfl hx21.symm (by decide) rfl ?_
      refine r_goto 110 C dX5_prepare_178 rfl ?_
      refine r_sub [(0, .ref (G.2.1 0)), (1, .int v1), (3, .int v3), (4, .int x21)] [1, 2, 3, 0] rfl ?_
      exact ih _ _ hf
set_option maxRecDepth 100000 in
set_option maxHeartbeats 4000000 in
theorem t_X5_prepare_J55 {p : Program} {l : Launch} {e : Env} {s : State} {m : MethodId} {args : Array Value} {below : List Frame} {meth : Method} {c : Code} {G : GG} {A : Nat → Prop} (C : KX p s m args c cX5_prepare 6 RX5 wsX5_prepare G shM A) (hr : meth.sig.returnType = (some .int)) (hk0 : meth.locks = false) (a1 : Int32)  (v1 : Int32) (s0 : Int32) (g : Mem) {res : Int32 × Mem} (hf : f_X5_prepare_J55 v1 s0 g = some res) : JJ p l e rm_X5_prepare s m args below meth c 6 G shM A (MQ below (k_Qi G shM A res.1 res.2) args s 0 0 A) 55 [(0, .ref (G.2.1 0)), (1, .int v1)] [.int s0] g := by
  have hinX5 : ∀ w ∈ wsX50, w ∈ wsX5_prepare := in_X5_prepare_X5
  rw [f_X5_prepare_J55] at hf
  refine r_istore_n 56 C [(2, .int s0), (0, .ref (G.2.1 0)), (1, .int v1)] dX5_prepare_55 rfl rfl (by decide) rfl ?_
  refine r_iload_n 57 C 2 dX5_prepare_56 rfl rfl ?_
  refine r_iconst (v := 1) 58 C dX5_prepare_57 rfl (by decide) ?_
  refine r_iadd 59 C dX5_prepare_58 rfl ?_
  obtain ⟨x6, hx6, hf⟩ := ol hf
  refine r_istore_n 60 C [(3, .int x6), (2, .int s0), (0, .ref (G.2.1 0)), (1, .int v1)] dX5_prepare_59 rfl hx6 (by decide) rfl ?_
  refine r_sub [(0, .ref (G.2.1 0)), (1, .int v1), (2, .int s0), (3, .int x6)] [2, 3, 1, 0] rfl ?_
  refine t_X5_prepare_L60 C hr hk0 a1 v1 s0 g (fun x9 hf => ?_) fuel0 _ hf
  refine r_iload_n 72 C 2 dX5_prepare_71 rfl rfl ?_
  refine r_sipush (v := 999) 75 C dX5_prepare_72 rfl (by decide) ?_
  refine r_icmp_le 81 78 C dX5_prepare_75 rfl rfl (fun c10 => ?_) (fun c10 => ?_)
  · have hf := oip c10 hf
    refine r_aload_n 82 C 0 dX5_prepare_81 rfl rfl ?_
    obtain ⟨g11, hg11, hf⟩ := ob hf
    refine r_Vv (As := []) 85 C shM_0 rfl (c_X5_record l G A g _ hg11) (cwV 0 C.1.2.2.2.2 gX5_prepare_X5_record rfl rfl rfl hd_X5_record ⟨Nat.le_of_ble_eq_true rfl, Nat.le_of_ble_eq_true rfl⟩) rfl rfl (Nat.le_of_ble_eq_true rfl) dX5_prepare_82 rfl ?_
    refine r_aload_n 86 C 0 dX5_prepare_85 rfl rfl ?_
    refine r_getr 89 C (k := 0) shM_0 rfl hinX5 (by decide) rfl dX5_prepare_86 rfl (by decide +kernel) ?_
    refine r_sipush (v := 204) 92 C dX5_prepare_89 rfl (by decide) ?_
    refine r_iload_n 93 C 1 dX5_prepare_92 rfl rfl ?_
    refine r_iadd 94 C dX5_prepare_93 rfl ?_
    refine r_iload_n 95 C 2 dX5_prepare_94 rfl rfl ?_
    obtain ⟨g12, hg12, hf⟩ := ob hf
    refine r_iastore 96 C shM_1 dX5_prepare_95 rfl hg12 ?_
    refine r_aload_n 97 C 0 dX5_prepare_96 rfl rfl ?_
    refine r_getr 100 C (k := 0) shM_0 rfl hinX5 (by decide) rfl dX5_prepare_97 rfl (by decide +kernel) ?_
    refine r_sipush (v := 210) 103 C dX5_prepare_100 rfl (by decide) ?_
    refine r_iload_n 104 C 1 dX5_prepare_103 rfl rfl ?_
    refine r_iadd 105 C dX5_prepare_104 rfl ?_
    refine r_iconst (v := 0) 106 C dX5_prepare_105 rfl (by decide) ?_
    obtain ⟨g13, hg13, hf⟩ := ob hf
    refine r_iastore 107 C shM_1 dX5_prepare_106 rfl hg13 ?_
    refine r_iconst (v := 1) 108 C dX5_prepare_107 rfl (by decide) ?_
    refine r_istore 110 C [(4, .int 1), (0, .ref (G.2.1 0)), (1, .int v1), (3, .int x9)] dX5_prepare_108 rfl rfl (by decide) rfl ?_
    refine r_sub [(0, .ref (G.2.1 0)), (1, .int v1), (3, .int x9), (4, .int 1)] [1, 2, 3, 0] rfl ?_
    refine t_X5_prepare_L110 C hr hk0 a1 v1 x9 (fun g22 hf => ?_) fuel0 _ _ hf
    refine r_iload_n 182 C 0 dX5_prepare_181 rfl rfl ?_
    have hf := Option.some.inj hf
    subst hf
    exact r_iret C hr hk0 dX5_prepare_182
  · have hf := oin c10 hf
    refine r_bipush (v := (-3)) 80 C dX5_prepare_78 rfl (by decide) ?_
    have hf := Option.some.inj hf
    subst hf
    exact r_iret C hr hk0 dX5_prepare_80
set_option maxRecDepth 100000 in
set_option maxHeartbeats 4000000 in
theorem c_X5_prepare (l : Launch) (G : GG) (A : Nat → Prop) (a1 : Int32)  (g : Mem) (res : Int32 × Mem) (hf : f_X5_prepare a1 g = some res) : k_Mi l yX5_prepare wsX5_prepare rm_X5_prepare G shM A [.ref (G.2.1 0), .int a1] g res.1 res.2 := by
  have hinX5 : ∀ w ∈ wsX50, w ∈ wsX5_prepare := in_X5_prepare_X5
  refine k_ofi (cc := cX5_prepare) (nL := 6) (own := RX5) (by decide +kernel) rfl rfl (by simp [lg_sl, Value.category]) ⟨rfl, rfl⟩ [(0, .ref (G.2.1 0)), (1, .int a1)] rfl ?_
  intro p e s m args below meth c C hr hk0
  rw [f_X5_prepare] at hf
  refine r_iload_n 1 C 1 dX5_prepare_0 rfl rfl ?_
  refine r_Si (As := [.int a1]) 4 C (c_X5_noProposer l G A a1 g _ rfl) (va_cwS 1 C.1.2.2.2.2 gX5_prepare_X5_noProposer rfl rfl rfl hd_X5_noProposer ⟨Nat.le_of_ble_eq_true rfl, Nat.le_of_ble_eq_true rfl⟩) rfl rfl (Nat.le_of_ble_eq_true rfl) dX5_prepare_1 rfl ?_
  refine r_if_eq 9 7 C dX5_prepare_4 rfl rfl (fun c1 => ?_) (fun c1 => ?_)
  · have hf := obf c1 hf
    refine r_aload_n 10 C 0 dX5_prepare_9 rfl rfl ?_
    refine r_getr 13 C (k := 0) shM_0 rfl hinX5 (by decide) rfl dX5_prepare_10 rfl (by decide +kernel) ?_
    refine r_sipush (v := 204) 16 C dX5_prepare_13 rfl (by decide) ?_
    refine r_iload_n 17 C 1 dX5_prepare_16 rfl rfl ?_
    refine r_iadd 18 C dX5_prepare_17 rfl ?_
    obtain ⟨x2, hx2, hf⟩ := ob hf
    refine r_iaload 19 C shM_1 dX5_prepare_18 rfl hx2 ?_
    refine r_aload_n 20 C 0 dX5_prepare_19 rfl rfl ?_
    refine r_getr 23 C (k := 0) shM_0 rfl hinX5 (by decide) rfl dX5_prepare_20 rfl (by decide +kernel) ?_
    refine r_sipush (v := 207) 26 C dX5_prepare_23 rfl (by decide) ?_
    refine r_iload_n 27 C 1 dX5_prepare_26 rfl rfl ?_
    refine r_iadd 28 C dX5_prepare_27 rfl ?_
    obtain ⟨x3, hx3, hf⟩ := ob hf
    refine r_iaload 29 C shM_1 dX5_prepare_28 rfl hx3 ?_
    refine r_icmp_le 45 32 C dX5_prepare_29 rfl rfl (fun c4 => ?_) (fun c4 => ?_)
    · have hf := oip c4 hf
      refine r_aload_n 46 C 0 dX5_prepare_45 rfl rfl ?_
      refine r_getr 49 C (k := 0) shM_0 rfl hinX5 (by decide) rfl dX5_prepare_46 rfl (by decide +kernel) ?_
      refine r_sipush (v := 207) 52 C dX5_prepare_49 rfl (by decide) ?_
      refine r_iload_n 53 C 1 dX5_prepare_52 rfl rfl ?_
      refine r_iadd 54 C dX5_prepare_53 rfl ?_
      obtain ⟨x5, hx5, hf⟩ := ob hf
      refine r_iaload 55 C shM_1 dX5_prepare_54 rfl hx5 ?_
      refine r_sub [(0, .ref (G.2.1 0)), (1, .int a1)] [0, 1] rfl ?_
      exact t_X5_prepare_J55 C hr hk0 a1 a1 x5 g hf
    · have hf := oin c4 hf
      refine r_aload_n 33 C 0 dX5_prepare_32 rfl rfl ?_
      refine r_getr 36 C (k := 0) shM_0 rfl hinX5 (by decide) rfl dX5_prepare_33 rfl (by decide +kernel) ?_
      refine r_sipush (v := 204) 39 C dX5_prepare_36 rfl (by decide) ?_
      refine r_iload_n 40 C 1 dX5_prepare_39 rfl rfl ?_
      refine r_iadd 41 C dX5_prepare_40 rfl ?_
      obtain ⟨x23, hx23, hf⟩ := ob hf
      refine r_iaload 42 C shM_1 dX5_prepare_41 rfl hx23 ?_
      refine r_goto 55 C dX5_prepare_42 rfl ?_
      refine r_sub [(0, .ref (G.2.1 0)), (1, .int a1)] [0, 1] rfl ?_
      exact t_X5_prepare_J55 C hr hk0 a1 a1 x23 g hf
  · have hf := obt c1 hf
    refine r_iconst (v := (-1)) 8 C dX5_prepare_7 rfl (by decide) ?_
    have hf := Option.some.inj hf
    subst hf
    exact r_iret C hr hk0 dX5_prepare_8
theorem in_X5_refuses_X5 : ∀ w ∈ wsX50, w ∈ wsX5_refuses := by decide +kernel
def rm_X5_refuses : Room := { frames := 0, cells := 0, slots := 0, locals := 0 }
theorem hd_X5_refuses : yX5_refuses.cls = RX5 ∧ yX5_refuses.cls ≠ "java/lang/invoke/MethodHandle" ∧ yX5_refuses.cls ≠ "java/lang/invoke/VarHandle" ∧ (parseMethodDescriptor yX5_refuses.desc).map (fun d => d.parameters.length) = some 3 := by decide +kernel
set_option maxRecDepth 100000 in
set_option maxHeartbeats 4000000 in
theorem t_X5_refuses_J50 {p : Program} {l : Launch} {e : Env} {s : State} {m : MethodId} {args : Array Value} {below : List Frame} {meth : Method} {c : Code} {G : GG} {A : Nat → Prop} (C : KX p s m args c cX5_refuses 5 RX5 wsX5_refuses G shM A) (hr : meth.sig.returnType = (some .int)) (hk0 : meth.locks = false) (a1 : Int32) (a2 : Int32) (a3 : Int32)  (v3 : Int32) (v4 : Int32) (s0 : Int32) (s1 : Int32) (g : Mem) {res : Int32 × Mem} (hf : f_X5_refuses_J50 v3 v4 s0 s1 g = some res) : JJ p l e rm_X5_refuses s m args below meth c 5 G shM A (MQ below (k_Qi G shM A res.1 res.2) args s 0 0 A) 50 [(0, .ref (G.2.1 0)), (3, .int v3), (4, .int v4)] [.int s0, .int s1, .ref (G.2.1 1)] g := by
  have hinX5 : ∀ w ∈ wsX50, w ∈ wsX5_refuses := in_X5_refuses_X5
  rw [f_X5_refuses_J50] at hf
  obtain ⟨g5, hg5, hf⟩ := ob hf
  refine r_iastore 51 C shM_1 dX5_refuses_50 rfl hg5 ?_
  refine r_aload_n 52 C 0 dX5_refuses_51 rfl rfl ?_
  refine r_getr 55 C (k := 0) shM_0 rfl hinX5 (by decide) rfl dX5_refuses_52 rfl (by decide +kernel) ?_
  refine r_iload_n 56 C 1 dX5_refuses_55 rfl rfl ?_
  refine r_dup2 57 C dX5_refuses_56 rfl rfl rfl ?_
  obtain ⟨x6, hx6, hf⟩ := ob hf
  refine r_iaload 58 C shM_1 dX5_refuses_57 rfl hx6 ?_
  refine r_iconst (v := 1) 59 C dX5_refuses_58 rfl (by decide) ?_
  refine r_iadd 60 C dX5_refuses_59 rfl ?_
  obtain ⟨g7, hg7, hf⟩ := ob hf
  refine r_iastore 61 C shM_1 dX5_refuses_60 rfl hg7 ?_
  refine r_bipush (v := 100) 63 C dX5_refuses_61 rfl (by decide) ?_
  refine r_iload 65 C 2 dX5_refuses_63 rfl rfl ?_
  refine r_iadd 66 C dX5_refuses_65 rfl ?_
  have hf := Option.some.inj hf
  subst hf
  exact r_iret C hr hk0 dX5_refuses_66
set_option maxRecDepth 100000 in
set_option maxHeartbeats 4000000 in
theorem c_X5_refuses (l : Launch) (G : GG) (A : Nat → Prop) (a1 : Int32) (a2 : Int32) (a3 : Int32)  (g : Mem) (res : Int32 × Mem) (hf : f_X5_refuses a1 a2 a3 g = some res) : k_Mi l yX5_refuses wsX5_refuses rm_X5_refuses G shM A [.ref (G.2.1 0), .int a1, .int a2, .int a3] g res.1 res.2 := by
  have hinX5 : ∀ w ∈ wsX50, w ∈ wsX5_refuses := in_X5_refuses_X5
  refine k_ofi (cc := cX5_refuses) (nL := 5) (own := RX5) (by decide +kernel) rfl rfl (by simp [lg_sl, Value.category]) ⟨rfl, rfl⟩ [(0, .ref (G.2.1 0)), (1, .int a1), (2, .int a2), (3, .int a3)] rfl ?_
  intro p e s m args below meth c C hr hk0
  rw [f_X5_refuses] at hf
  refine r_aload_n 1 C 0 dX5_refuses_0 rfl rfl ?_
  refine r_getr 4 C (k := 0) shM_0 rfl hinX5 (by decide) rfl dX5_refuses_1 rfl (by decide +kernel) ?_
  refine r_bipush (v := 6) 6 C dX5_refuses_4 rfl (by decide) ?_
  refine r_iload_n 7 C 2 dX5_refuses_6 rfl rfl ?_
  refine r_iadd 8 C dX5_refuses_7 rfl ?_
  obtain ⟨x1, hx1, hf⟩ := ob hf
  refine r_iaload 9 C shM_1 dX5_refuses_8 rfl hx1 ?_
  refine r_istore 11 C [(4, .int x1), (0, .ref (G.2.1 0)), (1, .int a1), (2, .int a2), (3, .int a3)] dX5_refuses_9 rfl rfl (by decide) rfl ?_
  refine r_aload_n 12 C 1 dX5_refuses_11 rfl rfl ?_
  refine r_getr 15 C (k := 0) shM_0 rfl hinX5 (by decide) rfl dX5_refuses_12 rfl (by decide +kernel) ?_
  refine r_sipush (v := 207) 18 C dX5_refuses_15 rfl (by decide) ?_
  refine r_iload_n 19 C 2 dX5_refuses_18 rfl rfl ?_
  refine r_iadd 20 C dX5_refuses_19 rfl ?_
  refine r_iload 22 C 0 dX5_refuses_20 rfl rfl ?_
  refine r_aload_n 23 C 1 dX5_refuses_22 rfl rfl ?_
  refine r_getr 26 C (k := 0) shM_0 rfl hinX5 (by decide) rfl dX5_refuses_23 rfl (by decide +kernel) ?_
  refine r_sipush (v := 207) 29 C dX5_refuses_26 rfl (by decide) ?_
  refine r_iload_n 30 C 2 dX5_refuses_29 rfl rfl ?_
  refine r_iadd 31 C dX5_refuses_30 rfl ?_
  obtain ⟨x2, hx2, hf⟩ := ob hf
  refine r_iaload 32 C shM_1 dX5_refuses_31 rfl hx2 ?_
  refine r_icmp_le 40 35 C dX5_refuses_32 rfl rfl (fun c3 => ?_) (fun c3 => ?_)
  · have hf := oip c3 hf
    refine r_aload_n 41 C 1 dX5_refuses_40 rfl rfl ?_
    refine r_getr 44 C (k := 0) shM_0 rfl hinX5 (by decide) rfl dX5_refuses_41 rfl (by decide +kernel) ?_
    refine r_sipush (v := 207) 47 C dX5_refuses_44 rfl (by decide) ?_
    refine r_iload_n 48 C 2 dX5_refuses_47 rfl rfl ?_
    refine r_iadd 49 C dX5_refuses_48 rfl ?_
    obtain ⟨x4, hx4, hf⟩ := ob hf
    refine r_iaload 50 C shM_1 dX5_refuses_49 rfl hx4 ?_
    refine r_sub [(0, .ref (G.2.1 0)), (3, .int a3), (4, .int x1)] [1, 4, 0] rfl ?_
    exact t_X5_refuses_J50 C hr hk0 a1 a2 a3 a3 x1 x4 (207 + a1) g hf
  · have hf := oin c3 hf
    refine r_iload 37 C 0 dX5_refuses_35 rfl rfl ?_
    refine r_goto 50 C dX5_refuses_37 rfl ?_
    refine r_sub [(0, .ref (G.2.1 0)), (3, .int a3), (4, .int x1)] [1, 4, 0] rfl ?_
    exact t_X5_refuses_J50 C hr hk0 a1 a2 a3 a3 x1 x1 (207 + a1) g hf
theorem in_X5_promise_X5 : ∀ w ∈ wsX50, w ∈ wsX5_promise := by decide +kernel
def rm_X5_promise : Room := { frames := 2, cells := 0, slots := 0, locals := 42 }
theorem hd_X5_promise : yX5_promise.cls = RX5 ∧ yX5_promise.cls ≠ "java/lang/invoke/MethodHandle" ∧ yX5_promise.cls ≠ "java/lang/invoke/VarHandle" ∧ (parseMethodDescriptor yX5_promise.desc).map (fun d => d.parameters.length) = some 2 := by decide +kernel
set_option maxRecDepth 100000 in
set_option maxHeartbeats 4000000 in
theorem t_X5_promise_L124 {p : Program} {l : Launch} {e : Env} {s : State} {m : MethodId} {args : Array Value} {below : List Frame} {meth : Method} {c : Code} {G : GG} {A : Nat → Prop} (C : KX p s m args c cX5_promise 8 RX5 wsX5_promise G shM A) (hr : meth.sig.returnType = (some .int)) (hk0 : meth.locks = false) (a1 : Int32) (a2 : Int32)  (v1 : Int32) (v2 : Int32) {res : Int32 × Mem} {k : Int32 → Mem → Option (Int32 × Mem)} (hk : ∀ (v4 : Int32) (g : Mem), k v4 g = some res → JJ p l e rm_X5_promise s m args below meth c 8 G shM A (MQ below (k_Qi G shM A res.1 res.2) args s 0 0 A) 206 [(4, .int v4)] [] g) : ∀ (n : Nat) (v4 : Int32) (v5 : Int32) (g : Mem), f_X5_promise_L124 k v1 v2 n v4 v5 g = some res → JJ p l e rm_X5_promise s m args below meth c 8 G shM A (MQ below (k_Qi G shM A res.1 res.2) args s 0 0 A) 124 [(0, .ref (G.2.1 0)), (1, .int v1), (2, .int v2), (4, .int v4), (5, .int v5)] [] g := by
  have hinX5 : ∀ w ∈ wsX50, w ∈ wsX5_promise := in_X5_promise_X5
  intro n
  induction n with
  | zero =>
    intro v4 v5 g hf
    rw [f_X5_promise_L124] at hf
    cases hf
  | succ n ih =>
    intro v4 v5 g hf
    rw [f_X5_promise_L124] at hf
    refine r_iload 126 C 4 dX5_promise_124 rfl rfl ?_
    refine r_bipush (v := 16) 128 C dX5_promise_126 rfl (by decide) ?_
    refine r_icmp_gt 206 131 C dX5_promise_128 rfl rfl (fun c15 => ?_) (fun c15 => ?_)
    · have hf := oip c15 hf
      refine r_sub [(4, .int v4)] [3] rfl ?_
      exact hk _ _ hf
    · have hf := oin c15 hf
      refine r_iload_n 132 C 2 dX5_promise_131 rfl rfl ?_
      refine r_iload 134 C 4 dX5_promise_132 rfl rfl ?_
      refine r_Si (As := [.int v2, .int v5]) 137 C (c_X5_voteAt l G A v2 v5 g _ rfl) (va_cwS 2 C.1.2.2.2.2 gX5_promise_X5_voteAt rfl rfl rfl hd_X5_voteAt ⟨Nat.le_of_ble_eq_true rfl, Nat.le_of_ble_eq_true rfl⟩) rfl rfl (Nat.le_of_ble_eq_true rfl) dX5_promise_134 rfl ?_
      obtain ⟨x16, hx16, hf⟩ := ol hf
      refine r_istore 139 C [(6, .int x16), (0, .ref (G.2.1 0)), (1, .int v1), (2, .int v2), (4, .int v4), (5, .int v5)] dX5_promise_137 rfl hx16 (by decide) rfl ?_
      refine r_iload_n 140 C 2 dX5_promise_139 rfl rfl ?_
      refine r_iload_n 141 C 3 dX5_promise_140 rfl rfl ?_
      refine r_iload 143 C 5 dX5_promise_141 rfl rfl ?_
      refine r_Si (As := [.int v1, .int v2, .int v5]) 146 C (c_X5_toldAt l G A v1 v2 v5 g _ rfl) (va_cwS 3 C.1.2.2.2.2 gX5_promise_X5_toldAt rfl rfl rfl hd_X5_toldAt ⟨Nat.le_of_ble_eq_true rfl, Nat.le_of_ble_eq_true rfl⟩) rfl rfl (Nat.le_of_ble_eq_true rfl) dX5_promise_143 rfl ?_
      obtain ⟨x17, hx17, hf⟩ := ol hf
      refine r_istore 148 C [(7, .int x17), (6, .int x16), (0, .ref (G.2.1 0)), (1, .int v1), (2, .int v2), (4, .int v4), (5, .int v5)] dX5_promise_146 rfl hx17 (by decide) rfl ?_
      refine r_aload_n 149 C 2 dX5_promise_148 rfl rfl ?_
      refine r_getr 152 C (k := 0) shM_0 rfl hinX5 (by decide) rfl dX5_promise_149 rfl (by decide +kernel) ?_
      refine r_iload 154 C 0 dX5_promise_152 rfl rfl ?_
      refine r_aload_n 155 C 2 dX5_promise_154 rfl rfl ?_
      refine r_getr 158 C (k := 0) shM_0 rfl hinX5 (by decide) rfl dX5_promise_155 rfl (by decide +kernel) ?_
      refine r_iload 160 C 1 dX5_promise_158 rfl rfl ?_
      obtain ⟨x18, hx18, hf⟩ := ob hf
      refine r_iaload 161 C shM_1 dX5_promise_160 rfl hx18 ?_
      obtain ⟨g19, hg19, hf⟩ := ob hf
      refine r_iastore 162 C shM_1 dX5_promise_161 rfl hg19 ?_
      refine r_aload_n 163 C 2 dX5_promise_162 rfl rfl ?_
      refine r_getr 166 C (k := 0) shM_0 rfl hinX5 (by decide) rfl dX5_promise_163 rfl (by decide +kernel) ?_
      refine r_iload 168 C 0 dX5_promise_166 rfl rfl ?_
      refine r_iconst (v := 1) 169 C dX5_promise_168 rfl (by decide) ?_
      refine r_iadd 170 C dX5_promise_169 rfl ?_
      refine r_aload_n 171 C 2 dX5_promise_170 rfl rfl ?_
      refine r_getr 174 C (k := 0) shM_0 rfl hinX5 (by decide) rfl dX5_promise_171 rfl (by decide +kernel) ?_
      refine r_iload 176 C 1 dX5_promise_174 rfl rfl ?_
      refine r_iconst (v := 1) 177 C dX5_promise_176 rfl (by decide) ?_
      refine r_iadd 178 C dX5_promise_177 rfl ?_
      obtain ⟨x20, hx20, hf⟩ := ob hf
      refine r_iaload 179 C shM_1 dX5_promise_178 rfl hx20 ?_
      obtain ⟨g21, hg21, hf⟩ := ob hf
      refine r_iastore 180 C shM_1 dX5_promise_179 rfl hg21 ?_
      refine r_iload 182 C 5 dX5_promise_180 rfl rfl ?_
      refine r_aload_n 183 C 2 dX5_promise_182 rfl rfl ?_
      refine r_getr 186 C (k := 0) shM_0 rfl hinX5 (by decide) rfl dX5_promise_183 rfl (by decide +kernel) ?_
      refine r_iload 188 C 1 dX5_promise_186 rfl rfl ?_
      obtain ⟨x22, hx22, hf⟩ := ob hf
      refine r_iaload 189 C shM_1 dX5_promise_188 rfl hx22 ?_
      refine r_if_le 196 192 C dX5_promise_189 rfl rfl (fun c23 => ?_) (fun c23 => ?_)
      · have hf := oip c23 hf
        refine r_iconst (v := 0) 197 C dX5_promise_196 rfl (by decide) ?_
        refine r_iadd 198 C dX5_promise_197 rfl ?_
        obtain ⟨x24, hx24, hf⟩ := ol hf
        refine r_istore 200 C [(4, .int x24), (7, .int x17), (6, .int x16), (0, .ref (G.2.1 0)), (1, .int v1), (2, .int v2), (5, .int v5)] dX5_promise_198 rfl hx24 (by decide) rfl ?_
        obtain ⟨x25, hx25, hf⟩ := ol hf
        refine r_iinc 203 C 6 x25 [(5, .int x25), (4, .int x24), (7, .int x17), (6, .int x16), (0, .ref (G.2.1 0)), (1, .int v1), (2, .int v2)] dX5_promise_200 rfl rfl hx25.symm (by decide) rfl ?_
        refine r_goto 124 C dX5_promise_203 rfl ?_
        refine r_sub [(0, .ref (G.2.1 0)), (1, .int v1), (2, .int v2), (4, .int x24), (5, .int x25)] [4, 5, 6, 1, 0] rfl ?_
        exact ih _ _ _ hf
      · have hf := oin c23 hf
        refine r_iconst (v := 1) 193 C dX5_promise_192 rfl (by decide) ?_
        refine r_goto 197 C dX5_promise_193 rfl ?_
        refine r_iadd 198 C dX5_promise_197 rfl ?_
        obtain ⟨x26, hx26, hf⟩ := ol hf
        refine r_istore 200 C [(4, .int x26), (7, .int x17), (6, .int x16), (0, .ref (G.2.1 0)), (1, .int v1), (2, .int v2), (5, .int v5)] dX5_promise_198 rfl hx26 (by decide) rfl ?_
        obtain ⟨x27, hx27, hf⟩ := ol hf
        refine r_iinc 203 C 6 x27 [(5, .int x27), (4, .int x26), (7, .int x17), (6, .int x16), (0, .ref (G.2.1 0)), (1, .int v1), (2, .int v2)] dX5_promise_200 rfl rfl hx27.symm (by decide) rfl ?_
        refine r_goto 124 C dX5_promise_203 rfl ?_
        refine r_sub [(0, .ref (G.2.1 0)), (1, .int v1), (2, .int v2), (4, .int x26), (5, .int x27)] [4, 5, 6, 1, 0] rfl ?_
        exact ih _ _ _ hf
set_option maxRecDepth 100000 in
set_option maxHeartbeats 4000000 in
theorem c_X5_promise (l : Launch) (G : GG) (A : Nat → Prop) (a1 : Int32) (a2 : Int32)  (g : Mem) (res : Int32 × Mem) (hf : f_X5_promise a1 a2 g = some res) : k_Mi l yX5_promise wsX5_promise rm_X5_promise G shM A [.ref (G.2.1 0), .int a1, .int a2] g res.1 res.2 := by
  have hinX5 : ∀ w ∈ wsX50, w ∈ wsX5_promise := in_X5_promise_X5
  refine k_ofi (cc := cX5_promise) (nL := 8) (own := RX5) (by decide +kernel) rfl rfl (by simp [lg_sl, Value.category]) ⟨rfl, rfl⟩ [(0, .ref (G.2.1 0)), (1, .int a1), (2, .int a2)] rfl ?_
  intro p e s m args below meth c C hr hk0
  rw [f_X5_promise] at hf
  refine r_iload_n 1 C 1 dX5_promise_0 rfl rfl ?_
  refine r_Si (As := [.int a1]) 4 C (c_X5_noProposer l G A a1 g _ rfl) (va_cwS 1 C.1.2.2.2.2 gX5_promise_X5_noProposer rfl rfl rfl hd_X5_noProposer ⟨Nat.le_of_ble_eq_true rfl, Nat.le_of_ble_eq_true rfl⟩) rfl rfl (Nat.le_of_ble_eq_true rfl) dX5_promise_1 rfl ?_
  refine r_if_ne 14 7 C dX5_promise_4 rfl rfl (fun c1 => ?_) (fun c1 => ?_)
  · have hf := obt c1 hf
    refine r_iconst (v := (-1)) 15 C dX5_promise_14 rfl (by decide) ?_
    have hf := Option.some.inj hf
    subst hf
    exact r_iret C hr hk0 dX5_promise_15
  · have hf := obf c1 hf
    refine r_iload_n 8 C 2 dX5_promise_7 rfl rfl ?_
    refine r_Si (As := [.int a2]) 11 C (c_X5_noAcceptor l G A a2 g _ rfl) (va_cwS 1 C.1.2.2.2.2 gX5_promise_X5_noAcceptor rfl rfl rfl hd_X5_noAcceptor ⟨Nat.le_of_ble_eq_true rfl, Nat.le_of_ble_eq_true rfl⟩) rfl rfl (Nat.le_of_ble_eq_true rfl) dX5_promise_8 rfl ?_
    refine r_if_eq 16 14 C dX5_promise_11 rfl rfl (fun c2 => ?_) (fun c2 => ?_)
    · have hf := obf c2 hf
      refine r_aload_n 17 C 0 dX5_promise_16 rfl rfl ?_
      refine r_getr 20 C (k := 0) shM_0 rfl hinX5 (by decide) rfl dX5_promise_17 rfl (by decide +kernel) ?_
      refine r_sipush (v := 204) 23 C dX5_promise_20 rfl (by decide) ?_
      refine r_iload_n 24 C 1 dX5_promise_23 rfl rfl ?_
      refine r_iadd 25 C dX5_promise_24 rfl ?_
      obtain ⟨x3, hx3, hf⟩ := ob hf
      refine r_iaload 26 C shM_1 dX5_promise_25 rfl hx3 ?_
      refine r_istore_n 27 C [(3, .int x3), (0, .ref (G.2.1 0)), (1, .int a1), (2, .int a2)] dX5_promise_26 rfl rfl (by decide) rfl ?_
      refine r_iload_n 28 C 0 dX5_promise_27 rfl rfl ?_
      refine r_if_eq 42 31 C dX5_promise_28 rfl rfl (fun c4 => ?_) (fun c4 => ?_)
      · have hf := oip c4 hf
        refine r_bipush (v := (-4)) 44 C dX5_promise_42 rfl (by decide) ?_
        have hf := Option.some.inj hf
        subst hf
        exact r_iret C hr hk0 dX5_promise_44
      · have hf := oin c4 hf
        refine r_aload_n 32 C 1 dX5_promise_31 rfl rfl ?_
        refine r_getr 35 C (k := 0) shM_0 rfl hinX5 (by decide) rfl dX5_promise_32 rfl (by decide +kernel) ?_
        refine r_iconst (v := 0) 36 C dX5_promise_35 rfl (by decide) ?_
        refine r_iload_n 37 C 3 dX5_promise_36 rfl rfl ?_
        refine r_iadd 38 C dX5_promise_37 rfl ?_
        obtain ⟨x5, hx5, hf⟩ := ob hf
        refine r_iaload 39 C shM_1 dX5_promise_38 rfl hx5 ?_
        refine r_if_ne 45 42 C dX5_promise_39 rfl rfl (fun c6 => ?_) (fun c6 => ?_)
        · have hf := oin c6 hf
          refine r_aload_n 46 C 1 dX5_promise_45 rfl rfl ?_
          refine r_getr 49 C (k := 0) shM_0 rfl hinX5 (by decide) rfl dX5_promise_46 rfl (by decide +kernel) ?_
          refine r_sipush (v := 210) 52 C dX5_promise_49 rfl (by decide) ?_
          refine r_iload_n 53 C 2 dX5_promise_52 rfl rfl ?_
          refine r_iadd 54 C dX5_promise_53 rfl ?_
          obtain ⟨x7, hx7, hf⟩ := ob hf
          refine r_iaload 55 C shM_1 dX5_promise_54 rfl hx7 ?_
          refine r_iload_n 56 C 3 dX5_promise_55 rfl rfl ?_
          refine r_Si (As := [.int x7, .int a2]) 59 C (c_X5_isIn l G A x7 a2 g _ rfl) (va_cwS 2 C.1.2.2.2.2 gX5_promise_X5_isIn rfl rfl rfl hd_X5_isIn ⟨Nat.le_of_ble_eq_true rfl, Nat.le_of_ble_eq_true rfl⟩) rfl rfl (Nat.le_of_ble_eq_true rfl) dX5_promise_56 rfl ?_
          refine r_if_eq 65 62 C dX5_promise_59 rfl rfl (fun c8 => ?_) (fun c8 => ?_)
          · have hf := obf c8 hf
            refine r_aload_n 66 C 1 dX5_promise_65 rfl rfl ?_
            obtain ⟨g9, hg9, hf⟩ := ob hf
            refine r_Vv (As := []) 69 C shM_0 rfl (c_X5_record l G A g _ hg9) (cwV 0 C.1.2.2.2.2 gX5_promise_X5_record rfl rfl rfl hd_X5_record ⟨Nat.le_of_ble_eq_true rfl, Nat.le_of_ble_eq_true rfl⟩) rfl rfl (Nat.le_of_ble_eq_true rfl) dX5_promise_66 rfl ?_
            refine r_iload_n 70 C 0 dX5_promise_69 rfl rfl ?_
            refine r_aload_n 71 C 1 dX5_promise_70 rfl rfl ?_
            refine r_getr 74 C (k := 0) shM_0 rfl hinX5 (by decide) rfl dX5_promise_71 rfl (by decide +kernel) ?_
            refine r_bipush (v := 6) 76 C dX5_promise_74 rfl (by decide) ?_
            refine r_iload_n 77 C 3 dX5_promise_76 rfl rfl ?_
            refine r_iadd 78 C dX5_promise_77 rfl ?_
            obtain ⟨x10, hx10, hf⟩ := ob hf
            refine r_iaload 79 C shM_1 dX5_promise_78 rfl hx10 ?_
            refine r_icmp_gt 92 82 C dX5_promise_79 rfl rfl (fun c11 => ?_) (fun c11 => ?_)
            · have hf := oip c11 hf
              refine r_aload_n 93 C 1 dX5_promise_92 rfl rfl ?_
              refine r_getr 96 C (k := 0) shM_0 rfl hinX5 (by decide) rfl dX5_promise_93 rfl (by decide +kernel) ?_
              refine r_bipush (v := 6) 98 C dX5_promise_96 rfl (by decide) ?_
              refine r_iload_n 99 C 3 dX5_promise_98 rfl rfl ?_
              refine r_iadd 100 C dX5_promise_99 rfl ?_
              refine r_iload_n 101 C 0 dX5_promise_100 rfl rfl ?_
              obtain ⟨g12, hg12, hf⟩ := ob hf
              refine r_iastore 102 C shM_1 dX5_promise_101 rfl hg12 ?_
              refine r_aload_n 103 C 1 dX5_promise_102 rfl rfl ?_
              refine r_getr 106 C (k := 0) shM_0 rfl hinX5 (by decide) rfl dX5_promise_103 rfl (by decide +kernel) ?_
              refine r_sipush (v := 210) 109 C dX5_promise_106 rfl (by decide) ?_
              refine r_iload_n 110 C 2 dX5_promise_109 rfl rfl ?_
              refine r_iadd 111 C dX5_promise_110 rfl ?_
              refine r_dup2 112 C dX5_promise_111 rfl rfl rfl ?_
              obtain ⟨x13, hx13, hf⟩ := ob hf
              refine r_iaload 113 C shM_1 dX5_promise_112 rfl hx13 ?_
              refine r_iconst (v := 1) 114 C dX5_promise_113 rfl (by decide) ?_
              refine r_iload_n 115 C 3 dX5_promise_114 rfl rfl ?_
              refine r_ishl 116 C dX5_promise_115 rfl ?_
              refine r_ior 117 C dX5_promise_116 rfl ?_
              obtain ⟨g14, hg14, hf⟩ := ob hf
              refine r_iastore 118 C shM_1 dX5_promise_117 rfl hg14 ?_
              refine r_iconst (v := 0) 119 C dX5_promise_118 rfl (by decide) ?_
              refine r_istore 121 C [(4, .int 0), (3, .int x3), (0, .ref (G.2.1 0)), (1, .int a1), (2, .int a2)] dX5_promise_119 rfl rfl (by decide) rfl ?_
              refine r_iconst (v := 1) 122 C dX5_promise_121 rfl (by decide) ?_
              refine r_istore 124 C [(5, .int 1), (4, .int 0), (3, .int x3), (0, .ref (G.2.1 0)), (1, .int a1), (2, .int a2)] dX5_promise_122 rfl rfl (by decide) rfl ?_
              refine r_sub [(0, .ref (G.2.1 0)), (1, .int a1), (2, .int a2), (4, .int 0), (5, .int 1)] [3, 4, 5, 1, 0] rfl ?_
              refine t_X5_promise_L124 C hr hk0 a1 a2 a1 a2 (fun x28 g29 hf => ?_) fuel0 _ _ _ hf
              refine r_iload 208 C 0 dX5_promise_206 rfl rfl ?_
              have hf := Option.some.inj hf
              subst hf
              exact r_iret C hr hk0 dX5_promise_208
            · have hf := oin c11 hf
              refine r_aload_n 83 C 1 dX5_promise_82 rfl rfl ?_
              refine r_iload_n 84 C 2 dX5_promise_83 rfl rfl ?_
              refine r_iload_n 85 C 3 dX5_promise_84 rfl rfl ?_
              refine r_sipush (v := 871) 88 C dX5_promise_85 rfl (by decide) ?_
              obtain ⟨x30, g31, hx30, hf⟩ := ob2 hf
              refine r_Vi (As := [.int a1, .int a2, .int 871]) 91 C shM_0 rfl (c_X5_refuses l G A a1 a2 871 g9 _ hx30) (cwV 3 C.1.2.2.2.2 gX5_promise_X5_refuses rfl rfl rfl hd_X5_refuses ⟨Nat.le_of_ble_eq_true rfl, Nat.le_of_ble_eq_true rfl⟩) rfl rfl (Nat.le_of_ble_eq_true rfl) dX5_promise_88 rfl ?_
              have hf := Option.some.inj hf
              subst hf
              exact r_iret C hr hk0 dX5_promise_91
          · have hf := obt c8 hf
            refine r_bipush (v := (-5)) 64 C dX5_promise_62 rfl (by decide) ?_
            have hf := Option.some.inj hf
            subst hf
            exact r_iret C hr hk0 dX5_promise_64
        · have hf := oip c6 hf
          refine r_bipush (v := (-4)) 44 C dX5_promise_42 rfl (by decide) ?_
          have hf := Option.some.inj hf
          subst hf
          exact r_iret C hr hk0 dX5_promise_44
    · have hf := obt c2 hf
      refine r_iconst (v := (-1)) 15 C dX5_promise_14 rfl (by decide) ?_
      have hf := Option.some.inj hf
      subst hf
      exact r_iret C hr hk0 dX5_promise_15
theorem in_X5_bound_X5 : ∀ w ∈ wsX50, w ∈ wsX5_bound := by decide +kernel
def rm_X5_bound : Room := { frames := 2, cells := 0, slots := 0, locals := 43 }
theorem hd_X5_bound : yX5_bound.cls = RX5 ∧ yX5_bound.cls ≠ "java/lang/invoke/MethodHandle" ∧ yX5_bound.cls ≠ "java/lang/invoke/VarHandle" ∧ (parseMethodDescriptor yX5_bound.desc).map (fun d => d.parameters.length) = some 2 := by decide +kernel
set_option maxRecDepth 100000 in
set_option maxHeartbeats 4000000 in
theorem t_X5_bound_L26 {p : Program} {l : Launch} {e : Env} {s : State} {m : MethodId} {args : Array Value} {below : List Frame} {meth : Method} {c : Code} {G : GG} {A : Nat → Prop} (C : KX p s m args c cX5_bound 8 RX5 wsX5_bound G shM A) (hr : meth.sig.returnType = (some .int)) (hk0 : meth.locks = false) (a1 : Int32) (a2 : Int32)  (v1 : Int32) (v2 : Int32) (v3 : Int32) (g : Mem) {res : Int32} {k : Int32 → Option Int32} (hk : ∀ (v5 : Int32), k v5 = some res → JJ p l e rm_X5_bound s m args below meth c 8 G shM A (MQ below (k_Qi G shM A res g) args s 0 0 A) 89 [(5, .int v5)] [] g) : ∀ (n : Nat) (v4 : Int32) (v5 : Int32) (v6 : Int32), f_X5_bound_L26 k v1 v2 v3 g n v4 v5 v6 = some res → JJ p l e rm_X5_bound s m args below meth c 8 G shM A (MQ below (k_Qi G shM A res g) args s 0 0 A) 26 [(0, .ref (G.2.1 0)), (1, .int v1), (2, .int v2), (3, .int v3), (4, .int v4), (5, .int v5), (6, .int v6)] [] g := by
  have hinX5 : ∀ w ∈ wsX50, w ∈ wsX5_bound := in_X5_bound_X5
  intro n
  induction n with
  | zero =>
    intro v4 v5 v6 hf
    rw [f_X5_bound_L26] at hf
    cases hf
  | succ n ih =>
    intro v4 v5 v6 hf
    rw [f_X5_bound_L26] at hf
    refine r_iload 28 C 6 dX5_bound_26 rfl rfl ?_
    refine r_bipush (v := 6) 30 C dX5_bound_28 rfl (by decide) ?_
    refine r_icmp_ge 89 33 C dX5_bound_30 rfl rfl (fun c4 => ?_) (fun c4 => ?_)
    · have hf := oip c4 hf
      refine r_sub [(5, .int v5)] [5] rfl ?_
      exact hk _ hf
    · have hf := oin c4 hf
      refine r_iload_n 34 C 1 dX5_bound_33 rfl rfl ?_
      refine r_iload 36 C 6 dX5_bound_34 rfl rfl ?_
      refine r_iload_n 37 C 2 dX5_bound_36 rfl rfl ?_
      refine r_Si (As := [.int v1, .int v6, .int v2]) 40 C (c_X5_toldAt l G A v1 v6 v2 g _ rfl) (va_cwS 3 C.1.2.2.2.2 gX5_bound_X5_toldAt rfl rfl rfl hd_X5_toldAt ⟨Nat.le_of_ble_eq_true rfl, Nat.le_of_ble_eq_true rfl⟩) rfl rfl (Nat.le_of_ble_eq_true rfl) dX5_bound_37 rfl ?_
      obtain ⟨x5, hx5, hf⟩ := ol hf
      refine r_istore 42 C [(7, .int x5), (0, .ref (G.2.1 0)), (1, .int v1), (2, .int v2), (3, .int v3), (4, .int v4), (5, .int v5), (6, .int v6)] dX5_bound_40 rfl hx5 (by decide) rfl ?_
      refine r_iload_n 43 C 4 dX5_bound_42 rfl rfl ?_
      refine r_iload 45 C 7 dX5_bound_43 rfl rfl ?_
      refine r_Si (As := [.int v3, .int v6]) 48 C (c_X5_isIn l G A v3 v6 g _ rfl) (va_cwS 2 C.1.2.2.2.2 gX5_bound_X5_isIn rfl rfl rfl hd_X5_isIn ⟨Nat.le_of_ble_eq_true rfl, Nat.le_of_ble_eq_true rfl⟩) rfl rfl (Nat.le_of_ble_eq_true rfl) dX5_bound_45 rfl ?_
      refine r_if_eq 83 51 C dX5_bound_48 rfl rfl (fun c6 => ?_) (fun c6 => ?_)
      · have hf := obf c6 hf
        obtain ⟨x7, hx7, hf⟩ := ol hf
        refine r_iinc 86 C 7 x7 [(6, .int x7), (7, .int x5), (0, .ref (G.2.1 0)), (1, .int v1), (2, .int v2), (3, .int v3), (4, .int v4), (5, .int v5)] dX5_bound_83 rfl rfl hx7.symm (by decide) rfl ?_
        refine r_goto 26 C dX5_bound_86 rfl ?_
        refine r_sub [(0, .ref (G.2.1 0)), (1, .int v1), (2, .int v2), (3, .int v3), (4, .int v4), (5, .int v5), (6, .int x7)] [2, 3, 4, 5, 6, 7, 0] rfl ?_
        exact ih _ _ _ hf
      · have hf := obt c6 hf
        refine r_aload_n 52 C 1 dX5_bound_51 rfl rfl ?_
        refine r_getr 55 C (k := 0) shM_0 rfl hinX5 (by decide) rfl dX5_bound_52 rfl (by decide +kernel) ?_
        refine r_iload 57 C 0 dX5_bound_55 rfl rfl ?_
        obtain ⟨x8, hx8, hf⟩ := ob hf
        refine r_iaload 58 C shM_1 dX5_bound_57 rfl hx8 ?_
        refine r_iload 60 C 5 dX5_bound_58 rfl rfl ?_
        refine r_icmp_le 83 63 C dX5_bound_60 rfl rfl (fun c9 => ?_) (fun c9 => ?_)
        · have hf := oip c9 hf
          obtain ⟨x10, hx10, hf⟩ := ol hf
          refine r_iinc 86 C 7 x10 [(6, .int x10), (7, .int x5), (0, .ref (G.2.1 0)), (1, .int v1), (2, .int v2), (3, .int v3), (4, .int v4), (5, .int v5)] dX5_bound_83 rfl rfl hx10.symm (by decide) rfl ?_
          refine r_goto 26 C dX5_bound_86 rfl ?_
          refine r_sub [(0, .ref (G.2.1 0)), (1, .int v1), (2, .int v2), (3, .int v3), (4, .int v4), (5, .int v5), (6, .int x10)] [2, 3, 4, 5, 6, 7, 0] rfl ?_
          exact ih _ _ _ hf
        · have hf := oin c9 hf
          refine r_aload_n 64 C 1 dX5_bound_63 rfl rfl ?_
          refine r_getr 67 C (k := 0) shM_0 rfl hinX5 (by decide) rfl dX5_bound_64 rfl (by decide +kernel) ?_
          refine r_iload 69 C 0 dX5_bound_67 rfl rfl ?_
          obtain ⟨x11, hx11, hf⟩ := ob hf
          refine r_iaload 70 C shM_1 dX5_bound_69 rfl hx11 ?_
          refine r_istore 72 C [(4, .int x11), (7, .int x5), (0, .ref (G.2.1 0)), (1, .int v1), (2, .int v2), (3, .int v3), (5, .int v5), (6, .int v6)] dX5_bound_70 rfl rfl (by decide) rfl ?_
          refine r_aload_n 73 C 2 dX5_bound_72 rfl rfl ?_
          refine r_getr 76 C (k := 0) shM_0 rfl hinX5 (by decide) rfl dX5_bound_73 rfl (by decide +kernel) ?_
          refine r_iload 78 C 1 dX5_bound_76 rfl rfl ?_
          refine r_iconst (v := 1) 79 C dX5_bound_78 rfl (by decide) ?_
          refine r_iadd 80 C dX5_bound_79 rfl ?_
          obtain ⟨x12, hx12, hf⟩ := ob hf
          refine r_iaload 81 C shM_1 dX5_bound_80 rfl hx12 ?_
          refine r_istore 83 C [(5, .int x12), (4, .int x11), (7, .int x5), (0, .ref (G.2.1 0)), (1, .int v1), (2, .int v2), (3, .int v3), (6, .int v6)] dX5_bound_81 rfl rfl (by decide) rfl ?_
          obtain ⟨x13, hx13, hf⟩ := ol hf
          refine r_iinc 86 C 7 x13 [(6, .int x13), (5, .int x12), (4, .int x11), (7, .int x5), (0, .ref (G.2.1 0)), (1, .int v1), (2, .int v2), (3, .int v3)] dX5_bound_83 rfl rfl hx13.symm (by decide) rfl ?_
          refine r_goto 26 C dX5_bound_86 rfl ?_
          refine r_sub [(0, .ref (G.2.1 0)), (1, .int v1), (2, .int v2), (3, .int v3), (4, .int x11), (5, .int x12), (6, .int x13)] [4, 5, 6, 7, 2, 1, 0] rfl ?_
          exact ih _ _ _ hf
set_option maxRecDepth 100000 in
set_option maxHeartbeats 4000000 in
theorem c_X5_bound (l : Launch) (G : GG) (A : Nat → Prop) (a1 : Int32) (a2 : Int32)  (g : Mem) (res : Int32) (hf : f_X5_bound a1 a2 g = some res) : k_Mi l yX5_bound wsX5_bound rm_X5_bound G shM A [.ref (G.2.1 0), .int a1, .int a2] g res g := by
  have hinX5 : ∀ w ∈ wsX50, w ∈ wsX5_bound := in_X5_bound_X5
  refine k_ofi (cc := cX5_bound) (nL := 8) (own := RX5) (by decide +kernel) rfl rfl (by simp [lg_sl, Value.category]) ⟨rfl, rfl⟩ [(0, .ref (G.2.1 0)), (1, .int a1), (2, .int a2)] rfl ?_
  intro p e s m args below meth c C hr hk0
  rw [f_X5_bound] at hf
  refine r_aload_n 1 C 0 dX5_bound_0 rfl rfl ?_
  refine r_iload_n 2 C 2 dX5_bound_1 rfl rfl ?_
  obtain ⟨x1, hx1, hf⟩ := ob hf
  refine r_Vi (As := [.int a2]) 5 C shM_0 rfl (c_X5_voters l G A a2 g _ hx1) (cwV 1 C.1.2.2.2.2 gX5_bound_X5_voters rfl rfl rfl hd_X5_voters ⟨Nat.le_of_ble_eq_true rfl, Nat.le_of_ble_eq_true rfl⟩) rfl rfl (Nat.le_of_ble_eq_true rfl) dX5_bound_2 rfl ?_
  refine r_aload_n 6 C 0 dX5_bound_5 rfl rfl ?_
  refine r_getr 9 C (k := 0) shM_0 rfl hinX5 (by decide) rfl dX5_bound_6 rfl (by decide +kernel) ?_
  refine r_sipush (v := 210) 12 C dX5_bound_9 rfl (by decide) ?_
  refine r_iload_n 13 C 1 dX5_bound_12 rfl rfl ?_
  refine r_iadd 14 C dX5_bound_13 rfl ?_
  obtain ⟨x2, hx2, hf⟩ := ob hf
  refine r_iaload 15 C shM_1 dX5_bound_14 rfl hx2 ?_
  refine r_iand 16 C dX5_bound_15 rfl ?_
  obtain ⟨x3, hx3, hf⟩ := ol hf
  refine r_istore_n 17 C [(3, .int x3), (0, .ref (G.2.1 0)), (1, .int a1), (2, .int a2)] dX5_bound_16 rfl hx3 (by decide) rfl ?_
  refine r_iconst (v := 0) 18 C dX5_bound_17 rfl (by decide) ?_
  refine r_istore 20 C [(4, .int 0), (3, .int x3), (0, .ref (G.2.1 0)), (1, .int a1), (2, .int a2)] dX5_bound_18 rfl rfl (by decide) rfl ?_
  refine r_iconst (v := 0) 21 C dX5_bound_20 rfl (by decide) ?_
  refine r_istore 23 C [(5, .int 0), (4, .int 0), (3, .int x3), (0, .ref (G.2.1 0)), (1, .int a1), (2, .int a2)] dX5_bound_21 rfl rfl (by decide) rfl ?_
  refine r_iconst (v := 0) 24 C dX5_bound_23 rfl (by decide) ?_
  refine r_istore 26 C [(6, .int 0), (5, .int 0), (4, .int 0), (3, .int x3), (0, .ref (G.2.1 0)), (1, .int a1), (2, .int a2)] dX5_bound_24 rfl rfl (by decide) rfl ?_
  refine r_sub [(0, .ref (G.2.1 0)), (1, .int a1), (2, .int a2), (3, .int x3), (4, .int 0), (5, .int 0), (6, .int 0)] [4, 5, 6, 3, 2, 1, 0] rfl ?_
  refine t_X5_bound_L26 C hr hk0 a1 a2 a1 a2 x3 g (fun x14 hf => ?_) fuel0 _ _ _ hf
  refine r_iload 91 C 0 dX5_bound_89 rfl rfl ?_
  have hf := Option.some.inj hf
  subst hf
  exact r_iret C hr hk0 dX5_bound_91
theorem in_X5_lacking_X5 : ∀ w ∈ wsX50, w ∈ wsX5_lacking := by decide +kernel
def rm_X5_lacking : Room := { frames := 4, cells := 0, slots := 0, locals := 86 }
theorem hd_X5_lacking : yX5_lacking.cls = RX5 ∧ yX5_lacking.cls ≠ "java/lang/invoke/MethodHandle" ∧ yX5_lacking.cls ≠ "java/lang/invoke/VarHandle" ∧ (parseMethodDescriptor yX5_lacking.desc).map (fun d => d.parameters.length) = some 2 := by decide +kernel
set_option maxRecDepth 100000 in
set_option maxHeartbeats 4000000 in
theorem c_X5_lacking (l : Launch) (G : GG) (A : Nat → Prop) (a1 : Int32) (a2 : Int32)  (g : Mem) (res : Int32) (hf : f_X5_lacking a1 a2 g = some res) : k_Mi l yX5_lacking wsX5_lacking rm_X5_lacking G shM A [.ref (G.2.1 0), .int a1, .int a2] g res g := by
  have hinX5 : ∀ w ∈ wsX50, w ∈ wsX5_lacking := in_X5_lacking_X5
  refine k_ofi (cc := cX5_lacking) (nL := 4) (own := RX5) (by decide +kernel) rfl rfl (by simp [lg_sl, Value.category]) ⟨rfl, rfl⟩ [(0, .ref (G.2.1 0)), (1, .int a1), (2, .int a2)] rfl ?_
  intro p e s m args below meth c C hr hk0
  rw [f_X5_lacking] at hf
  refine r_aload_n 1 C 0 dX5_lacking_0 rfl rfl ?_
  refine r_iload_n 2 C 2 dX5_lacking_1 rfl rfl ?_
  obtain ⟨x1, hx1, hf⟩ := ob hf
  refine r_Vi (As := [.int a2]) 5 C shM_0 rfl (c_X5_firstSize l G A a2 g _ hx1) (cwV 1 C.1.2.2.2.2 gX5_lacking_X5_firstSize rfl rfl rfl hd_X5_firstSize ⟨Nat.le_of_ble_eq_true rfl, Nat.le_of_ble_eq_true rfl⟩) rfl rfl (Nat.le_of_ble_eq_true rfl) dX5_lacking_2 rfl ?_
  refine r_aload_n 6 C 0 dX5_lacking_5 rfl rfl ?_
  refine r_iload_n 7 C 2 dX5_lacking_6 rfl rfl ?_
  obtain ⟨x2, hx2, hf⟩ := ob hf
  refine r_Vi (As := [.int a2]) 10 C shM_0 rfl (c_X5_voters l G A a2 g _ hx2) (cwV 1 C.1.2.2.2.2 gX5_lacking_X5_voters rfl rfl rfl hd_X5_voters ⟨Nat.le_of_ble_eq_true rfl, Nat.le_of_ble_eq_true rfl⟩) rfl rfl (Nat.le_of_ble_eq_true rfl) dX5_lacking_7 rfl ?_
  refine r_aload_n 11 C 0 dX5_lacking_10 rfl rfl ?_
  refine r_getr 14 C (k := 0) shM_0 rfl hinX5 (by decide) rfl dX5_lacking_11 rfl (by decide +kernel) ?_
  refine r_sipush (v := 210) 17 C dX5_lacking_14 rfl (by decide) ?_
  refine r_iload_n 18 C 1 dX5_lacking_17 rfl rfl ?_
  refine r_iadd 19 C dX5_lacking_18 rfl ?_
  obtain ⟨x3, hx3, hf⟩ := ob hf
  refine r_iaload 20 C shM_1 dX5_lacking_19 rfl hx3 ?_
  refine r_iand 21 C dX5_lacking_20 rfl ?_
  obtain ⟨x4, hx4, hf⟩ := ob hf
  refine r_Si (As := [.int (x2 &&& x3)]) 24 C (c_X5_bits l G A (x2 &&& x3) g _ hx4) (va_cwS 1 C.1.2.2.2.2 gX5_lacking_X5_bits rfl rfl rfl hd_X5_bits ⟨Nat.le_of_ble_eq_true rfl, Nat.le_of_ble_eq_true rfl⟩) rfl rfl (Nat.le_of_ble_eq_true rfl) dX5_lacking_21 rfl ?_
  refine r_isub 25 C dX5_lacking_24 rfl ?_
  obtain ⟨x5, hx5, hf⟩ := ol hf
  refine r_istore_n 26 C [(3, .int x5), (0, .ref (G.2.1 0)), (1, .int a1), (2, .int a2)] dX5_lacking_25 rfl hx5 (by decide) rfl ?_
  refine r_iload_n 27 C 0 dX5_lacking_26 rfl rfl ?_
  refine r_if_le 34 30 C dX5_lacking_27 rfl rfl (fun c6 => ?_) (fun c6 => ?_)
  · have hf := oip c6 hf
    refine r_iconst (v := 0) 35 C dX5_lacking_34 rfl (by decide) ?_
    have hf := Option.some.inj hf
    subst hf
    exact r_iret C hr hk0 dX5_lacking_35
  · have hf := oin c6 hf
    refine r_iload_n 31 C 0 dX5_lacking_30 rfl rfl ?_
    refine r_goto 35 C dX5_lacking_31 rfl ?_
    have hf := Option.some.inj hf
    subst hf
    exact r_iret C hr hk0 dX5_lacking_35
theorem in_X5_propose_X5 : ∀ w ∈ wsX50, w ∈ wsX5_propose := by decide +kernel
def rm_X5_propose : Room := { frames := 5, cells := 0, slots := 0, locals := 109 }
theorem hd_X5_propose : yX5_propose.cls = RX5 ∧ yX5_propose.cls ≠ "java/lang/invoke/MethodHandle" ∧ yX5_propose.cls ≠ "java/lang/invoke/VarHandle" ∧ (parseMethodDescriptor yX5_propose.desc).map (fun d => d.parameters.length) = some 3 := by decide +kernel
set_option maxRecDepth 100000 in
set_option maxHeartbeats 4000000 in
theorem c_X5_propose (l : Launch) (G : GG) (A : Nat → Prop) (a1 : Int32) (a2 : Int32) (a3 : Int32)  (g : Mem) (res : Int32 × Mem) (hf : f_X5_propose a1 a2 a3 g = some res) : k_Mi l yX5_propose wsX5_propose rm_X5_propose G shM A [.ref (G.2.1 0), .int a1, .int a2, .int a3] g res.1 res.2 := by
  have hinX5 : ∀ w ∈ wsX50, w ∈ wsX5_propose := in_X5_propose_X5
  refine k_ofi (cc := cX5_propose) (nL := 5) (own := RX5) (by decide +kernel) rfl rfl (by simp [lg_sl, Value.category]) ⟨rfl, rfl⟩ [(0, .ref (G.2.1 0)), (1, .int a1), (2, .int a2), (3, .int a3)] rfl ?_
  intro p e s m args below meth c C hr hk0
  rw [f_X5_propose] at hf
  refine r_iload_n 1 C 1 dX5_propose_0 rfl rfl ?_
  refine r_Si (As := [.int a1]) 4 C (c_X5_noProposer l G A a1 g _ rfl) (va_cwS 1 C.1.2.2.2.2 gX5_propose_X5_noProposer rfl rfl rfl hd_X5_noProposer ⟨Nat.le_of_ble_eq_true rfl, Nat.le_of_ble_eq_true rfl⟩) rfl rfl (Nat.le_of_ble_eq_true rfl) dX5_propose_1 rfl ?_
  refine r_if_ne 14 7 C dX5_propose_4 rfl rfl (fun c1 => ?_) (fun c1 => ?_)
  · have hf := obt c1 hf
    refine r_iconst (v := (-1)) 15 C dX5_propose_14 rfl (by decide) ?_
    have hf := Option.some.inj hf
    subst hf
    exact r_iret C hr hk0 dX5_propose_15
  · have hf := obf c1 hf
    refine r_iload_n 8 C 2 dX5_propose_7 rfl rfl ?_
    refine r_Si (As := [.int a2]) 11 C (c_X5_noSlot l G A a2 g _ rfl) (va_cwS 1 C.1.2.2.2.2 gX5_propose_X5_noSlot rfl rfl rfl hd_X5_noSlot ⟨Nat.le_of_ble_eq_true rfl, Nat.le_of_ble_eq_true rfl⟩) rfl rfl (Nat.le_of_ble_eq_true rfl) dX5_propose_8 rfl ?_
    refine r_if_eq 16 14 C dX5_propose_11 rfl rfl (fun c2 => ?_) (fun c2 => ?_)
    · have hf := obf c2 hf
      refine r_iload_n 17 C 3 dX5_propose_16 rfl rfl ?_
      refine r_iconst (v := 1) 18 C dX5_propose_17 rfl (by decide) ?_
      refine r_bipush (v := 99) 20 C dX5_propose_18 rfl (by decide) ?_
      refine r_Si (As := [.int a3, .int 1, .int 99]) 23 C (c_X5_in l G A a3 1 99 g _ rfl) (va_cwS 3 C.1.2.2.2.2 gX5_propose_X5_in rfl rfl rfl hd_X5_in ⟨Nat.le_of_ble_eq_true rfl, Nat.le_of_ble_eq_true rfl⟩) rfl rfl (Nat.le_of_ble_eq_true rfl) dX5_propose_20 rfl ?_
      refine r_if_ne 41 26 C dX5_propose_23 rfl rfl (fun c3 => ?_) (fun c3 => ?_)
      · have hf := obt c3 hf
        refine r_aload_n 42 C 0 dX5_propose_41 rfl rfl ?_
        refine r_getr 45 C (k := 0) shM_0 rfl hinX5 (by decide) rfl dX5_propose_42 rfl (by decide +kernel) ?_
        refine r_sipush (v := 204) 48 C dX5_propose_45 rfl (by decide) ?_
        refine r_iload_n 49 C 1 dX5_propose_48 rfl rfl ?_
        refine r_iadd 50 C dX5_propose_49 rfl ?_
        obtain ⟨x4, hx4, hf⟩ := ob hf
        refine r_iaload 51 C shM_1 dX5_propose_50 rfl hx4 ?_
        refine r_if_eq 92 54 C dX5_propose_51 rfl rfl (fun c5 => ?_) (fun c5 => ?_)
        · have hf := oip c5 hf
          refine r_bipush (v := (-4)) 94 C dX5_propose_92 rfl (by decide) ?_
          have hf := Option.some.inj hf
          subst hf
          exact r_iret C hr hk0 dX5_propose_94
        · have hf := oin c5 hf
          refine r_aload_n 55 C 0 dX5_propose_54 rfl rfl ?_
          refine r_iload_n 56 C 2 dX5_propose_55 rfl rfl ?_
          obtain ⟨x6, hx6, hf⟩ := ob hf
          refine r_Vi (As := [.int a2]) 59 C shM_0 rfl (c_X5_isTrimmed l G A a2 g _ hx6) (cwV 1 C.1.2.2.2.2 gX5_propose_X5_isTrimmed rfl rfl rfl hd_X5_isTrimmed ⟨Nat.le_of_ble_eq_true rfl, Nat.le_of_ble_eq_true rfl⟩) rfl rfl (Nat.le_of_ble_eq_true rfl) dX5_propose_56 rfl ?_
          refine r_if_ne 92 62 C dX5_propose_59 rfl rfl (fun c7 => ?_) (fun c7 => ?_)
          · have hf := obt c7 hf
            refine r_bipush (v := (-4)) 94 C dX5_propose_92 rfl (by decide) ?_
            have hf := Option.some.inj hf
            subst hf
            exact r_iret C hr hk0 dX5_propose_94
          · have hf := obf c7 hf
            refine r_aload_n 63 C 0 dX5_propose_62 rfl rfl ?_
            refine r_iload_n 64 C 2 dX5_propose_63 rfl rfl ?_
            obtain ⟨x8, hx8, hf⟩ := ob hf
            refine r_Vi (As := [.int a2]) 67 C shM_0 rfl (c_X5_isOpen l G A a2 g _ hx8) (cwV 1 C.1.2.2.2.2 gX5_propose_X5_isOpen rfl rfl rfl hd_X5_isOpen ⟨Nat.le_of_ble_eq_true rfl, Nat.le_of_ble_eq_true rfl⟩) rfl rfl (Nat.le_of_ble_eq_true rfl) dX5_propose_64 rfl ?_
            refine r_if_eq 92 70 C dX5_propose_67 rfl rfl (fun c9 => ?_) (fun c9 => ?_)
            · have hf := obf c9 hf
              refine r_bipush (v := (-4)) 94 C dX5_propose_92 rfl (by decide) ?_
              have hf := Option.some.inj hf
              subst hf
              exact r_iret C hr hk0 dX5_propose_94
            · have hf := obt c9 hf
              refine r_aload_n 71 C 0 dX5_propose_70 rfl rfl ?_
              refine r_iload_n 72 C 1 dX5_propose_71 rfl rfl ?_
              refine r_iload_n 73 C 2 dX5_propose_72 rfl rfl ?_
              obtain ⟨x10, hx10, hf⟩ := ob hf
              refine r_Vi (As := [.int a1, .int a2]) 76 C shM_0 rfl (c_X5_lacking l G A a1 a2 g _ hx10) (cwV 2 C.1.2.2.2.2 gX5_propose_X5_lacking rfl rfl rfl hd_X5_lacking ⟨Nat.le_of_ble_eq_true rfl, Nat.le_of_ble_eq_true rfl⟩) rfl rfl (Nat.le_of_ble_eq_true rfl) dX5_propose_73 rfl ?_
              refine r_if_gt 92 79 C dX5_propose_76 rfl rfl (fun c11 => ?_) (fun c11 => ?_)
              · have hf := oip c11 hf
                refine r_bipush (v := (-4)) 94 C dX5_propose_92 rfl (by decide) ?_
                have hf := Option.some.inj hf
                subst hf
                exact r_iret C hr hk0 dX5_propose_94
              · have hf := oin c11 hf
                refine r_aload_n 80 C 0 dX5_propose_79 rfl rfl ?_
                refine r_getr 83 C (k := 0) shM_0 rfl hinX5 (by decide) rfl dX5_propose_80 rfl (by decide +kernel) ?_
                refine r_iload_n 84 C 1 dX5_propose_83 rfl rfl ?_
                refine r_iload_n 85 C 2 dX5_propose_84 rfl rfl ?_
                refine r_Si (As := [.int a1, .int a2]) 88 C (c_X5_proposedAt l G A a1 a2 g _ rfl) (va_cwS 2 C.1.2.2.2.2 gX5_propose_X5_proposedAt rfl rfl rfl hd_X5_proposedAt ⟨Nat.le_of_ble_eq_true rfl, Nat.le_of_ble_eq_true rfl⟩) rfl rfl (Nat.le_of_ble_eq_true rfl) dX5_propose_85 rfl ?_
                obtain ⟨x12, hx12, hf⟩ := ob hf
                refine r_iaload 89 C shM_1 dX5_propose_88 rfl hx12 ?_
                refine r_if_le 95 92 C dX5_propose_89 rfl rfl (fun c13 => ?_) (fun c13 => ?_)
                · have hf := oip c13 hf
                  refine r_aload_n 96 C 0 dX5_propose_95 rfl rfl ?_
                  obtain ⟨g14, hg14, hf⟩ := ob hf
                  refine r_Vv (As := []) 99 C shM_0 rfl (c_X5_record l G A g _ hg14) (cwV 0 C.1.2.2.2.2 gX5_propose_X5_record rfl rfl rfl hd_X5_record ⟨Nat.le_of_ble_eq_true rfl, Nat.le_of_ble_eq_true rfl⟩) rfl rfl (Nat.le_of_ble_eq_true rfl) dX5_propose_96 rfl ?_
                  refine r_aload_n 100 C 0 dX5_propose_99 rfl rfl ?_
                  refine r_iload_n 101 C 1 dX5_propose_100 rfl rfl ?_
                  refine r_iload_n 102 C 2 dX5_propose_101 rfl rfl ?_
                  obtain ⟨x15, hx15, hf⟩ := ob hf
                  refine r_Vi (As := [.int a1, .int a2]) 105 C shM_0 rfl (c_X5_bound l G A a1 a2 g14 _ hx15) (cwV 2 C.1.2.2.2.2 gX5_propose_X5_bound rfl rfl rfl hd_X5_bound ⟨Nat.le_of_ble_eq_true rfl, Nat.le_of_ble_eq_true rfl⟩) rfl rfl (Nat.le_of_ble_eq_true rfl) dX5_propose_102 rfl ?_
                  refine r_istore 107 C [(4, .int x15), (0, .ref (G.2.1 0)), (1, .int a1), (2, .int a2), (3, .int a3)] dX5_propose_105 rfl rfl (by decide) rfl ?_
                  refine r_aload_n 108 C 1 dX5_propose_107 rfl rfl ?_
                  refine r_getr 111 C (k := 0) shM_0 rfl hinX5 (by decide) rfl dX5_propose_108 rfl (by decide +kernel) ?_
                  refine r_iload_n 112 C 2 dX5_propose_111 rfl rfl ?_
                  refine r_iload_n 113 C 3 dX5_propose_112 rfl rfl ?_
                  refine r_Si (As := [.int a1, .int a2]) 116 C (c_X5_proposedAt l G A a1 a2 g14 _ rfl) (va_cwS 2 C.1.2.2.2.2 gX5_propose_X5_proposedAt rfl rfl rfl hd_X5_proposedAt ⟨Nat.le_of_ble_eq_true rfl, Nat.le_of_ble_eq_true rfl⟩) rfl rfl (Nat.le_of_ble_eq_true rfl) dX5_propose_113 rfl ?_
                  refine r_iload 118 C 0 dX5_propose_116 rfl rfl ?_
                  refine r_if_le 126 121 C dX5_propose_118 rfl rfl (fun c16 => ?_) (fun c16 => ?_)
                  · have hf := oip c16 hf
                    refine r_iload_n 127 C 4 dX5_propose_126 rfl rfl ?_
                    obtain ⟨g17, hg17, hf⟩ := ob hf
                    refine r_iastore 128 C shM_1 dX5_propose_127 rfl hg17 ?_
                    refine r_aload_n 129 C 1 dX5_propose_128 rfl rfl ?_
                    refine r_getr 132 C (k := 0) shM_0 rfl hinX5 (by decide) rfl dX5_propose_129 rfl (by decide +kernel) ?_
                    refine r_iload_n 133 C 2 dX5_propose_132 rfl rfl ?_
                    refine r_iload_n 134 C 3 dX5_propose_133 rfl rfl ?_
                    refine r_Si (As := [.int a1, .int a2]) 137 C (c_X5_proposedAt l G A a1 a2 g17 _ rfl) (va_cwS 2 C.1.2.2.2.2 gX5_propose_X5_proposedAt rfl rfl rfl hd_X5_proposedAt ⟨Nat.le_of_ble_eq_true rfl, Nat.le_of_ble_eq_true rfl⟩) rfl rfl (Nat.le_of_ble_eq_true rfl) dX5_propose_134 rfl ?_
                    obtain ⟨x18, hx18, hf⟩ := ob hf
                    refine r_iaload 138 C shM_1 dX5_propose_137 rfl hx18 ?_
                    have hf := Option.some.inj hf
                    subst hf
                    exact r_iret C hr hk0 dX5_propose_138
                  · have hf := oin c16 hf
                    refine r_iload 123 C 0 dX5_propose_121 rfl rfl ?_
                    refine r_goto 127 C dX5_propose_123 rfl ?_
                    obtain ⟨g19, hg19, hf⟩ := ob hf
                    refine r_iastore 128 C shM_1 dX5_propose_127 rfl hg19 ?_
                    refine r_aload_n 129 C 1 dX5_propose_128 rfl rfl ?_
                    refine r_getr 132 C (k := 0) shM_0 rfl hinX5 (by decide) rfl dX5_propose_129 rfl (by decide +kernel) ?_
                    refine r_iload_n 133 C 2 dX5_propose_132 rfl rfl ?_
                    refine r_iload_n 134 C 3 dX5_propose_133 rfl rfl ?_
                    refine r_Si (As := [.int a1, .int a2]) 137 C (c_X5_proposedAt l G A a1 a2 g19 _ rfl) (va_cwS 2 C.1.2.2.2.2 gX5_propose_X5_proposedAt rfl rfl rfl hd_X5_proposedAt ⟨Nat.le_of_ble_eq_true rfl, Nat.le_of_ble_eq_true rfl⟩) rfl rfl (Nat.le_of_ble_eq_true rfl) dX5_propose_134 rfl ?_
                    obtain ⟨x20, hx20, hf⟩ := ob hf
                    refine r_iaload 138 C shM_1 dX5_propose_137 rfl hx20 ?_
                    have hf := Option.some.inj hf
                    subst hf
                    exact r_iret C hr hk0 dX5_propose_138
                · have hf := oin c13 hf
                  refine r_bipush (v := (-4)) 94 C dX5_propose_92 rfl (by decide) ?_
                  have hf := Option.some.inj hf
                  subst hf
                  exact r_iret C hr hk0 dX5_propose_94
      · have hf := obf c3 hf
        refine r_iload_n 27 C 3 dX5_propose_26 rfl rfl ?_
        refine r_bipush (v := 101) 29 C dX5_propose_27 rfl (by decide) ?_
        refine r_sipush (v := 163) 32 C dX5_propose_29 rfl (by decide) ?_
        refine r_Si (As := [.int a3, .int 101, .int 163]) 35 C (c_X5_in l G A a3 101 163 g _ rfl) (va_cwS 3 C.1.2.2.2.2 gX5_propose_X5_in rfl rfl rfl hd_X5_in ⟨Nat.le_of_ble_eq_true rfl, Nat.le_of_ble_eq_true rfl⟩) rfl rfl (Nat.le_of_ble_eq_true rfl) dX5_propose_32 rfl ?_
        refine r_if_ne 41 38 C dX5_propose_35 rfl rfl (fun c21 => ?_) (fun c21 => ?_)
        · have hf := obt c21 hf
          refine r_aload_n 42 C 0 dX5_propose_41 rfl rfl ?_
          refine r_getr 45 C (k := 0) shM_0 rfl hinX5 (by decide) rfl dX5_propose_42 rfl (by decide +kernel) ?_
          refine r_sipush (v := 204) 48 C dX5_propose_45 rfl (by decide) ?_
          refine r_iload_n 49 C 1 dX5_propose_48 rfl rfl ?_
          refine r_iadd 50 C dX5_propose_49 rfl ?_
          obtain ⟨x22, hx22, hf⟩ := ob hf
          refine r_iaload 51 C shM_1 dX5_propose_50 rfl hx22 ?_
          refine r_if_eq 92 54 C dX5_propose_51 rfl rfl (fun c23 => ?_) (fun c23 => ?_)
          · have hf := oip c23 hf
            refine r_bipush (v := (-4)) 94 C dX5_propose_92 rfl (by decide) ?_
            have hf := Option.some.inj hf
            subst hf
            exact r_iret C hr hk0 dX5_propose_94
          · have hf := oin c23 hf
            refine r_aload_n 55 C 0 dX5_propose_54 rfl rfl ?_
            refine r_iload_n 56 C 2 dX5_propose_55 rfl rfl ?_
            obtain ⟨x24, hx24, hf⟩ := ob hf
            refine r_Vi (As := [.int a2]) 59 C shM_0 rfl (c_X5_isTrimmed l G A a2 g _ hx24) (cwV 1 C.1.2.2.2.2 gX5_propose_X5_isTrimmed rfl rfl rfl hd_X5_isTrimmed ⟨Nat.le_of_ble_eq_true rfl, Nat.le_of_ble_eq_true rfl⟩) rfl rfl (Nat.le_of_ble_eq_true rfl) dX5_propose_56 rfl ?_
            refine r_if_ne 92 62 C dX5_propose_59 rfl rfl (fun c25 => ?_) (fun c25 => ?_)
            · have hf := obt c25 hf
              refine r_bipush (v := (-4)) 94 C dX5_propose_92 rfl (by decide) ?_
              have hf := Option.some.inj hf
              subst hf
              exact r_iret C hr hk0 dX5_propose_94
            · have hf := obf c25 hf
              refine r_aload_n 63 C 0 dX5_propose_62 rfl rfl ?_
              refine r_iload_n 64 C 2 dX5_propose_63 rfl rfl ?_
              obtain ⟨x26, hx26, hf⟩ := ob hf
              refine r_Vi (As := [.int a2]) 67 C shM_0 rfl (c_X5_isOpen l G A a2 g _ hx26) (cwV 1 C.1.2.2.2.2 gX5_propose_X5_isOpen rfl rfl rfl hd_X5_isOpen ⟨Nat.le_of_ble_eq_true rfl, Nat.le_of_ble_eq_true rfl⟩) rfl rfl (Nat.le_of_ble_eq_true rfl) dX5_propose_64 rfl ?_
              refine r_if_eq 92 70 C dX5_propose_67 rfl rfl (fun c27 => ?_) (fun c27 => ?_)
              · have hf := obf c27 hf
                refine r_bipush (v := (-4)) 94 C dX5_propose_92 rfl (by decide) ?_
                have hf := Option.some.inj hf
                subst hf
                exact r_iret C hr hk0 dX5_propose_94
              · have hf := obt c27 hf
                refine r_aload_n 71 C 0 dX5_propose_70 rfl rfl ?_
                refine r_iload_n 72 C 1 dX5_propose_71 rfl rfl ?_
                refine r_iload_n 73 C 2 dX5_propose_72 rfl rfl ?_
                obtain ⟨x28, hx28, hf⟩ := ob hf
                refine r_Vi (As := [.int a1, .int a2]) 76 C shM_0 rfl (c_X5_lacking l G A a1 a2 g _ hx28) (cwV 2 C.1.2.2.2.2 gX5_propose_X5_lacking rfl rfl rfl hd_X5_lacking ⟨Nat.le_of_ble_eq_true rfl, Nat.le_of_ble_eq_true rfl⟩) rfl rfl (Nat.le_of_ble_eq_true rfl) dX5_propose_73 rfl ?_
                refine r_if_gt 92 79 C dX5_propose_76 rfl rfl (fun c29 => ?_) (fun c29 => ?_)
                · have hf := oip c29 hf
                  refine r_bipush (v := (-4)) 94 C dX5_propose_92 rfl (by decide) ?_
                  have hf := Option.some.inj hf
                  subst hf
                  exact r_iret C hr hk0 dX5_propose_94
                · have hf := oin c29 hf
                  refine r_aload_n 80 C 0 dX5_propose_79 rfl rfl ?_
                  refine r_getr 83 C (k := 0) shM_0 rfl hinX5 (by decide) rfl dX5_propose_80 rfl (by decide +kernel) ?_
                  refine r_iload_n 84 C 1 dX5_propose_83 rfl rfl ?_
                  refine r_iload_n 85 C 2 dX5_propose_84 rfl rfl ?_
                  refine r_Si (As := [.int a1, .int a2]) 88 C (c_X5_proposedAt l G A a1 a2 g _ rfl) (va_cwS 2 C.1.2.2.2.2 gX5_propose_X5_proposedAt rfl rfl rfl hd_X5_proposedAt ⟨Nat.le_of_ble_eq_true rfl, Nat.le_of_ble_eq_true rfl⟩) rfl rfl (Nat.le_of_ble_eq_true rfl) dX5_propose_85 rfl ?_
                  obtain ⟨x30, hx30, hf⟩ := ob hf
                  refine r_iaload 89 C shM_1 dX5_propose_88 rfl hx30 ?_
                  refine r_if_le 95 92 C dX5_propose_89 rfl rfl (fun c31 => ?_) (fun c31 => ?_)
                  · have hf := oip c31 hf
                    refine r_aload_n 96 C 0 dX5_propose_95 rfl rfl ?_
                    obtain ⟨g32, hg32, hf⟩ := ob hf
                    refine r_Vv (As := []) 99 C shM_0 rfl (c_X5_record l G A g _ hg32) (cwV 0 C.1.2.2.2.2 gX5_propose_X5_record rfl rfl rfl hd_X5_record ⟨Nat.le_of_ble_eq_true rfl, Nat.le_of_ble_eq_true rfl⟩) rfl rfl (Nat.le_of_ble_eq_true rfl) dX5_propose_96 rfl ?_
                    refine r_aload_n 100 C 0 dX5_propose_99 rfl rfl ?_
                    refine r_iload_n 101 C 1 dX5_propose_100 rfl rfl ?_
                    refine r_iload_n 102 C 2 dX5_propose_101 rfl rfl ?_
                    obtain ⟨x33, hx33, hf⟩ := ob hf
                    refine r_Vi (As := [.int a1, .int a2]) 105 C shM_0 rfl (c_X5_bound l G A a1 a2 g32 _ hx33) (cwV 2 C.1.2.2.2.2 gX5_propose_X5_bound rfl rfl rfl hd_X5_bound ⟨Nat.le_of_ble_eq_true rfl, Nat.le_of_ble_eq_true rfl⟩) rfl rfl (Nat.le_of_ble_eq_true rfl) dX5_propose_102 rfl ?_
                    refine r_istore 107 C [(4, .int x33), (0, .ref (G.2.1 0)), (1, .int a1), (2, .int a2), (3, .int a3)] dX5_propose_105 rfl rfl (by decide) rfl ?_
                    refine r_aload_n 108 C 1 dX5_propose_107 rfl rfl ?_
                    refine r_getr 111 C (k := 0) shM_0 rfl hinX5 (by decide) rfl dX5_propose_108 rfl (by decide +kernel) ?_
                    refine r_iload_n 112 C 2 dX5_propose_111 rfl rfl ?_
                    refine r_iload_n 113 C 3 dX5_propose_112 rfl rfl ?_
                    refine r_Si (As := [.int a1, .int a2]) 116 C (c_X5_proposedAt l G A a1 a2 g32 _ rfl) (va_cwS 2 C.1.2.2.2.2 gX5_propose_X5_proposedAt rfl rfl rfl hd_X5_proposedAt ⟨Nat.le_of_ble_eq_true rfl, Nat.le_of_ble_eq_true rfl⟩) rfl rfl (Nat.le_of_ble_eq_true rfl) dX5_propose_113 rfl ?_
                    refine r_iload 118 C 0 dX5_propose_116 rfl rfl ?_
                    refine r_if_le 126 121 C dX5_propose_118 rfl rfl (fun c34 => ?_) (fun c34 => ?_)
                    · have hf := oip c34 hf
                      refine r_iload_n 127 C 4 dX5_propose_126 rfl rfl ?_
                      obtain ⟨g35, hg35, hf⟩ := ob hf
                      refine r_iastore 128 C shM_1 dX5_propose_127 rfl hg35 ?_
                      refine r_aload_n 129 C 1 dX5_propose_128 rfl rfl ?_
                      refine r_getr 132 C (k := 0) shM_0 rfl hinX5 (by decide) rfl dX5_propose_129 rfl (by decide +kernel) ?_
                      refine r_iload_n 133 C 2 dX5_propose_132 rfl rfl ?_
                      refine r_iload_n 134 C 3 dX5_propose_133 rfl rfl ?_
                      refine r_Si (As := [.int a1, .int a2]) 137 C (c_X5_proposedAt l G A a1 a2 g35 _ rfl) (va_cwS 2 C.1.2.2.2.2 gX5_propose_X5_proposedAt rfl rfl rfl hd_X5_proposedAt ⟨Nat.le_of_ble_eq_true rfl, Nat.le_of_ble_eq_true rfl⟩) rfl rfl (Nat.le_of_ble_eq_true rfl) dX5_propose_134 rfl ?_
                      obtain ⟨x36, hx36, hf⟩ := ob hf
                      refine r_iaload 138 C shM_1 dX5_propose_137 rfl hx36 ?_
                      have hf := Option.some.inj hf
                      subst hf
                      exact r_iret C hr hk0 dX5_propose_138
                    · have hf := oin c34 hf
                      refine r_iload 123 C 0 dX5_propose_121 rfl rfl ?_
                      refine r_goto 127 C dX5_propose_123 rfl ?_
                      obtain ⟨g37, hg37, hf⟩ := ob hf
                      refine r_iastore 128 C shM_1 dX5_propose_127 rfl hg37 ?_
                      refine r_aload_n 129 C 1 dX5_propose_128 rfl rfl ?_
                      refine r_getr 132 C (k := 0) shM_0 rfl hinX5 (by decide) rfl dX5_propose_129 rfl (by decide +kernel) ?_
                      refine r_iload_n 133 C 2 dX5_propose_132 rfl rfl ?_
                      refine r_iload_n 134 C 3 dX5_propose_133 rfl rfl ?_
                      refine r_Si (As := [.int a1, .int a2]) 137 C (c_X5_proposedAt l G A a1 a2 g37 _ rfl) (va_cwS 2 C.1.2.2.2.2 gX5_propose_X5_proposedAt rfl rfl rfl hd_X5_proposedAt ⟨Nat.le_of_ble_eq_true rfl, Nat.le_of_ble_eq_true rfl⟩) rfl rfl (Nat.le_of_ble_eq_true rfl) dX5_propose_134 rfl ?_
                      obtain ⟨x38, hx38, hf⟩ := ob hf
                      refine r_iaload 138 C shM_1 dX5_propose_137 rfl hx38 ?_
                      have hf := Option.some.inj hf
                      subst hf
                      exact r_iret C hr hk0 dX5_propose_138
                  · have hf := oin c31 hf
                    refine r_bipush (v := (-4)) 94 C dX5_propose_92 rfl (by decide) ?_
                    have hf := Option.some.inj hf
                    subst hf
                    exact r_iret C hr hk0 dX5_propose_94
        · have hf := obf c21 hf
          refine r_bipush (v := (-2)) 40 C dX5_propose_38 rfl (by decide) ?_
          have hf := Option.some.inj hf
          subst hf
          exact r_iret C hr hk0 dX5_propose_40
    · have hf := obt c2 hf
      refine r_iconst (v := (-1)) 15 C dX5_propose_14 rfl (by decide) ?_
      have hf := Option.some.inj hf
      subst hf
      exact r_iret C hr hk0 dX5_propose_15
theorem in_X5_vote_X5 : ∀ w ∈ wsX50, w ∈ wsX5_vote := by decide +kernel
def rm_X5_vote : Room := { frames := 3, cells := 0, slots := 0, locals := 65 }
theorem hd_X5_vote : yX5_vote.cls = RX5 ∧ yX5_vote.cls ≠ "java/lang/invoke/MethodHandle" ∧ yX5_vote.cls ≠ "java/lang/invoke/VarHandle" ∧ (parseMethodDescriptor yX5_vote.desc).map (fun d => d.parameters.length) = some 3 := by decide +kernel
set_option maxRecDepth 100000 in
set_option maxHeartbeats 4000000 in
theorem t_X5_vote_L173 {p : Program} {l : Launch} {e : Env} {s : State} {m : MethodId} {args : Array Value} {below : List Frame} {meth : Method} {c : Code} {G : GG} {A : Nat → Prop} (C : KX p s m args c cX5_vote 9 RX5 wsX5_vote G shM A) (hr : meth.sig.returnType = (some .int)) (hk0 : meth.locks = false) (a1 : Int32) (a2 : Int32) (a3 : Int32)  (v2 : Int32) (v4 : Int32) (v5 : Int32) (g : Mem) {res : Int32 × Mem} {k : Int32 → Option (Int32 × Mem)} (hk : ∀ (v7 : Int32), k v7 = some res → JJ p l e rm_X5_vote s m args below meth c 9 G shM A (MQ below (k_Qi G shM A res.1 res.2) args s 0 0 A) 225 [(0, .ref (G.2.1 0)), (2, .int v2), (4, .int v4), (5, .int v5), (7, .int v7)] [] g) : ∀ (n : Nat) (v7 : Int32) (v8 : Int32), f_X5_vote_L173 k v2 v4 v5 g n v7 v8 = some res → JJ p l e rm_X5_vote s m args below meth c 9 G shM A (MQ below (k_Qi G shM A res.1 res.2) args s 0 0 A) 173 [(0, .ref (G.2.1 0)), (2, .int v2), (4, .int v4), (5, .int v5), (7, .int v7), (8, .int v8)] [] g := by
  have hinX5 : ∀ w ∈ wsX50, w ∈ wsX5_vote := in_X5_vote_X5
  intro n
  induction n with
  | zero =>
    intro v7 v8 hf
    rw [f_X5_vote_L173] at hf
    cases hf
  | succ n ih =>
    intro v7 v8 hf
    rw [f_X5_vote_L173] at hf
    refine r_iload 175 C 5 dX5_vote_173 rfl rfl ?_
    refine r_bipush (v := 6) 177 C dX5_vote_175 rfl (by decide) ?_
    refine r_icmp_ge 225 180 C dX5_vote_177 rfl rfl (fun c22 => ?_) (fun c22 => ?_)
    · have hf := oip c22 hf
      refine r_sub [(0, .ref (G.2.1 0)), (2, .int v2), (4, .int v4), (5, .int v5), (7, .int v7)] [0, 1, 2, 3, 4] rfl ?_
      exact hk _ hf
    · have hf := oin c22 hf
      refine r_iload 182 C 4 dX5_vote_180 rfl rfl ?_
      refine r_aload_n 183 C 0 dX5_vote_182 rfl rfl ?_
      refine r_iload_n 184 C 1 dX5_vote_183 rfl rfl ?_
      obtain ⟨x23, hx23, hf⟩ := ob hf
      refine r_Vi (As := [.int v2]) 187 C shM_0 rfl (c_X5_voters l G A v2 g _ hx23) (cwV 1 C.1.2.2.2.2 gX5_vote_X5_voters rfl rfl rfl hd_X5_voters ⟨Nat.le_of_ble_eq_true rfl, Nat.le_of_ble_eq_true rfl⟩) rfl rfl (Nat.le_of_ble_eq_true rfl) dX5_vote_184 rfl ?_
      refine r_iload 189 C 5 dX5_vote_187 rfl rfl ?_
      refine r_Si (As := [.int x23, .int v8]) 192 C (c_X5_isIn l G A x23 v8 g _ rfl) (va_cwS 2 C.1.2.2.2.2 gX5_vote_X5_isIn rfl rfl rfl hd_X5_isIn ⟨Nat.le_of_ble_eq_true rfl, Nat.le_of_ble_eq_true rfl⟩) rfl rfl (Nat.le_of_ble_eq_true rfl) dX5_vote_189 rfl ?_
      refine r_if_eq 215 195 C dX5_vote_192 rfl rfl (fun c24 => ?_) (fun c24 => ?_)
      · have hf := obf c24 hf
        refine r_iconst (v := 0) 216 C dX5_vote_215 rfl (by decide) ?_
        refine r_iadd 217 C dX5_vote_216 rfl ?_
        obtain ⟨x25, hx25, hf⟩ := ol hf
        refine r_istore 219 C [(7, .int x25), (0, .ref (G.2.1 0)), (2, .int v2), (4, .int v4), (5, .int v5), (8, .int v8)] dX5_vote_217 rfl hx25 (by decide) rfl ?_
        obtain ⟨x26, hx26, hf⟩ := ol hf
        refine r_iinc 222 C 5 x26 [(8, .int x26), (7, .int x25), (0, .ref (G.2.1 0)), (2, .int v2), (4, .int v4), (5, .int v5)] dX5_vote_219 rfl rfl hx26.symm (by decide) rfl ?_
        refine r_goto 173 C dX5_vote_222 rfl ?_
        refine r_sub [(0, .ref (G.2.1 0)), (2, .int v2), (4, .int v4), (5, .int v5), (7, .int x25), (8, .int x26)] [2, 3, 4, 5, 1, 0] rfl ?_
        exact ih _ _ hf
      · have hf := obt c24 hf
        refine r_aload_n 196 C 0 dX5_vote_195 rfl rfl ?_
        refine r_getr 199 C (k := 0) shM_0 rfl hinX5 (by decide) rfl dX5_vote_196 rfl (by decide +kernel) ?_
        refine r_iload 201 C 5 dX5_vote_199 rfl rfl ?_
        refine r_iload_n 202 C 1 dX5_vote_201 rfl rfl ?_
        refine r_Si (As := [.int v8, .int v2]) 205 C (c_X5_voteAt l G A v8 v2 g _ rfl) (va_cwS 2 C.1.2.2.2.2 gX5_vote_X5_voteAt rfl rfl rfl hd_X5_voteAt ⟨Nat.le_of_ble_eq_true rfl, Nat.le_of_ble_eq_true rfl⟩) rfl rfl (Nat.le_of_ble_eq_true rfl) dX5_vote_202 rfl ?_
        obtain ⟨x27, hx27, hf⟩ := ob hf
        refine r_iaload 206 C shM_1 dX5_vote_205 rfl hx27 ?_
        refine r_iload 208 C 3 dX5_vote_206 rfl rfl ?_
        refine r_icmp_ne 215 211 C dX5_vote_208 rfl rfl (fun c28 => ?_) (fun c28 => ?_)
        · have hf := oin c28 hf
          refine r_iconst (v := 0) 216 C dX5_vote_215 rfl (by decide) ?_
          refine r_iadd 217 C dX5_vote_216 rfl ?_
          obtain ⟨x29, hx29, hf⟩ := ol hf
          refine r_istore 219 C [(7, .int x29), (0, .ref (G.2.1 0)), (2, .int v2), (4, .int v4), (5, .int v5), (8, .int v8)] dX5_vote_217 rfl hx29 (by decide) rfl ?_
          obtain ⟨x30, hx30, hf⟩ := ol hf
          refine r_iinc 222 C 5 x30 [(8, .int x30), (7, .int x29), (0, .ref (G.2.1 0)), (2, .int v2), (4, .int v4), (5, .int v5)] dX5_vote_219 rfl rfl hx30.symm (by decide) rfl ?_
          refine r_goto 173 C dX5_vote_222 rfl ?_
          refine r_sub [(0, .ref (G.2.1 0)), (2, .int v2), (4, .int v4), (5, .int v5), (7, .int x29), (8, .int x30)] [2, 3, 4, 5, 1, 0] rfl ?_
          exact ih _ _ hf
        · have hf := oip c28 hf
          refine r_iconst (v := 1) 212 C dX5_vote_211 rfl (by decide) ?_
          refine r_goto 216 C dX5_vote_212 rfl ?_
          refine r_iadd 217 C dX5_vote_216 rfl ?_
          obtain ⟨x31, hx31, hf⟩ := ol hf
          refine r_istore 219 C [(7, .int x31), (0, .ref (G.2.1 0)), (2, .int v2), (4, .int v4), (5, .int v5), (8, .int v8)] dX5_vote_217 rfl hx31 (by decide) rfl ?_
          obtain ⟨x32, hx32, hf⟩ := ol hf
          refine r_iinc 222 C 5 x32 [(8, .int x32), (7, .int x31), (0, .ref (G.2.1 0)), (2, .int v2), (4, .int v4), (5, .int v5)] dX5_vote_219 rfl rfl hx32.symm (by decide) rfl ?_
          refine r_goto 173 C dX5_vote_222 rfl ?_
          refine r_sub [(0, .ref (G.2.1 0)), (2, .int v2), (4, .int v4), (5, .int v5), (7, .int x31), (8, .int x32)] [2, 3, 4, 5, 1, 0] rfl ?_
          exact ih _ _ hf
set_option maxRecDepth 100000 in
set_option maxHeartbeats 4000000 in
theorem c_X5_vote (l : Launch) (G : GG) (A : Nat → Prop) (a1 : Int32) (a2 : Int32) (a3 : Int32)  (g : Mem) (res : Int32 × Mem) (hf : f_X5_vote a1 a2 a3 g = some res) : k_Mi l yX5_vote wsX5_vote rm_X5_vote G shM A [.ref (G.2.1 0), .int a1, .int a2, .int a3] g res.1 res.2 := by
  have hinX5 : ∀ w ∈ wsX50, w ∈ wsX5_vote := in_X5_vote_X5
  refine k_ofi (cc := cX5_vote) (nL := 9) (own := RX5) (by decide +kernel) rfl rfl (by simp [lg_sl, Value.category]) ⟨rfl, rfl⟩ [(0, .ref (G.2.1 0)), (1, .int a1), (2, .int a2), (3, .int a3)] rfl ?_
  intro p e s m args below meth c C hr hk0
  rw [f_X5_vote] at hf
  refine r_iload_n 1 C 1 dX5_vote_0 rfl rfl ?_
  refine r_Si (As := [.int a1]) 4 C (c_X5_noProposer l G A a1 g _ rfl) (va_cwS 1 C.1.2.2.2.2 gX5_vote_X5_noProposer rfl rfl rfl hd_X5_noProposer ⟨Nat.le_of_ble_eq_true rfl, Nat.le_of_ble_eq_true rfl⟩) rfl rfl (Nat.le_of_ble_eq_true rfl) dX5_vote_1 rfl ?_
  refine r_if_ne 21 7 C dX5_vote_4 rfl rfl (fun c1 => ?_) (fun c1 => ?_)
  · have hf := obt c1 hf
    refine r_iconst (v := (-1)) 22 C dX5_vote_21 rfl (by decide) ?_
    have hf := Option.some.inj hf
    subst hf
    exact r_iret C hr hk0 dX5_vote_22
  · have hf := obf c1 hf
    refine r_iload_n 8 C 2 dX5_vote_7 rfl rfl ?_
    refine r_Si (As := [.int a2]) 11 C (c_X5_noSlot l G A a2 g _ rfl) (va_cwS 1 C.1.2.2.2.2 gX5_vote_X5_noSlot rfl rfl rfl hd_X5_noSlot ⟨Nat.le_of_ble_eq_true rfl, Nat.le_of_ble_eq_true rfl⟩) rfl rfl (Nat.le_of_ble_eq_true rfl) dX5_vote_8 rfl ?_
    refine r_if_ne 21 14 C dX5_vote_11 rfl rfl (fun c2 => ?_) (fun c2 => ?_)
    · have hf := obt c2 hf
      refine r_iconst (v := (-1)) 22 C dX5_vote_21 rfl (by decide) ?_
      have hf := Option.some.inj hf
      subst hf
      exact r_iret C hr hk0 dX5_vote_22
    · have hf := obf c2 hf
      refine r_iload_n 15 C 3 dX5_vote_14 rfl rfl ?_
      refine r_Si (As := [.int a3]) 18 C (c_X5_noAcceptor l G A a3 g _ rfl) (va_cwS 1 C.1.2.2.2.2 gX5_vote_X5_noAcceptor rfl rfl rfl hd_X5_noAcceptor ⟨Nat.le_of_ble_eq_true rfl, Nat.le_of_ble_eq_true rfl⟩) rfl rfl (Nat.le_of_ble_eq_true rfl) dX5_vote_15 rfl ?_
      refine r_if_eq 23 21 C dX5_vote_18 rfl rfl (fun c3 => ?_) (fun c3 => ?_)
      · have hf := obf c3 hf
        refine r_aload_n 24 C 0 dX5_vote_23 rfl rfl ?_
        refine r_getr 27 C (k := 0) shM_0 rfl hinX5 (by decide) rfl dX5_vote_24 rfl (by decide +kernel) ?_
        refine r_iload_n 28 C 1 dX5_vote_27 rfl rfl ?_
        refine r_iload_n 29 C 2 dX5_vote_28 rfl rfl ?_
        refine r_Si (As := [.int a1, .int a2]) 32 C (c_X5_proposedAt l G A a1 a2 g _ rfl) (va_cwS 2 C.1.2.2.2.2 gX5_vote_X5_proposedAt rfl rfl rfl hd_X5_proposedAt ⟨Nat.le_of_ble_eq_true rfl, Nat.le_of_ble_eq_true rfl⟩) rfl rfl (Nat.le_of_ble_eq_true rfl) dX5_vote_29 rfl ?_
        obtain ⟨x4, hx4, hf⟩ := ob hf
        refine r_iaload 33 C shM_1 dX5_vote_32 rfl hx4 ?_
        refine r_istore 35 C [(4, .int x4), (0, .ref (G.2.1 0)), (1, .int a1), (2, .int a2), (3, .int a3)] dX5_vote_33 rfl rfl (by decide) rfl ?_
        refine r_iload 37 C 0 dX5_vote_35 rfl rfl ?_
        refine r_if_eq 71 40 C dX5_vote_37 rfl rfl (fun c5 => ?_) (fun c5 => ?_)
        · have hf := oip c5 hf
          refine r_bipush (v := (-4)) 73 C dX5_vote_71 rfl (by decide) ?_
          have hf := Option.some.inj hf
          subst hf
          exact r_iret C hr hk0 dX5_vote_73
        · have hf := oin c5 hf
          refine r_aload_n 41 C 1 dX5_vote_40 rfl rfl ?_
          refine r_iload_n 42 C 3 dX5_vote_41 rfl rfl ?_
          obtain ⟨x6, hx6, hf⟩ := ob hf
          refine r_Vi (As := [.int a2]) 45 C shM_0 rfl (c_X5_isTrimmed l G A a2 g _ hx6) (cwV 1 C.1.2.2.2.2 gX5_vote_X5_isTrimmed rfl rfl rfl hd_X5_isTrimmed ⟨Nat.le_of_ble_eq_true rfl, Nat.le_of_ble_eq_true rfl⟩) rfl rfl (Nat.le_of_ble_eq_true rfl) dX5_vote_42 rfl ?_
          refine r_if_ne 71 48 C dX5_vote_45 rfl rfl (fun c7 => ?_) (fun c7 => ?_)
          · have hf := obt c7 hf
            refine r_bipush (v := (-4)) 73 C dX5_vote_71 rfl (by decide) ?_
            have hf := Option.some.inj hf
            subst hf
            exact r_iret C hr hk0 dX5_vote_73
          · have hf := obf c7 hf
            refine r_aload_n 49 C 1 dX5_vote_48 rfl rfl ?_
            refine r_getr 52 C (k := 0) shM_0 rfl hinX5 (by decide) rfl dX5_vote_49 rfl (by decide +kernel) ?_
            refine r_iconst (v := 0) 53 C dX5_vote_52 rfl (by decide) ?_
            refine r_iload_n 54 C 4 dX5_vote_53 rfl rfl ?_
            refine r_iadd 55 C dX5_vote_54 rfl ?_
            obtain ⟨x8, hx8, hf⟩ := ob hf
            refine r_iaload 56 C shM_1 dX5_vote_55 rfl hx8 ?_
            refine r_if_eq 71 59 C dX5_vote_56 rfl rfl (fun c9 => ?_) (fun c9 => ?_)
            · have hf := oip c9 hf
              refine r_bipush (v := (-4)) 73 C dX5_vote_71 rfl (by decide) ?_
              have hf := Option.some.inj hf
              subst hf
              exact r_iret C hr hk0 dX5_vote_73
            · have hf := oin c9 hf
              refine r_aload_n 60 C 1 dX5_vote_59 rfl rfl ?_
              refine r_iload_n 61 C 3 dX5_vote_60 rfl rfl ?_
              obtain ⟨x10, hx10, hf⟩ := ob hf
              refine r_Vi (As := [.int a2]) 64 C shM_0 rfl (c_X5_voters l G A a2 g _ hx10) (cwV 1 C.1.2.2.2.2 gX5_vote_X5_voters rfl rfl rfl hd_X5_voters ⟨Nat.le_of_ble_eq_true rfl, Nat.le_of_ble_eq_true rfl⟩) rfl rfl (Nat.le_of_ble_eq_true rfl) dX5_vote_61 rfl ?_
              refine r_iload_n 65 C 4 dX5_vote_64 rfl rfl ?_
              refine r_Si (As := [.int x10, .int a3]) 68 C (c_X5_isIn l G A x10 a3 g _ rfl) (va_cwS 2 C.1.2.2.2.2 gX5_vote_X5_isIn rfl rfl rfl hd_X5_isIn ⟨Nat.le_of_ble_eq_true rfl, Nat.le_of_ble_eq_true rfl⟩) rfl rfl (Nat.le_of_ble_eq_true rfl) dX5_vote_65 rfl ?_
              refine r_if_ne 74 71 C dX5_vote_68 rfl rfl (fun c11 => ?_) (fun c11 => ?_)
              · have hf := obt c11 hf
                refine r_aload_n 75 C 1 dX5_vote_74 rfl rfl ?_
                refine r_getr 78 C (k := 0) shM_0 rfl hinX5 (by decide) rfl dX5_vote_75 rfl (by decide +kernel) ?_
                refine r_sipush (v := 204) 81 C dX5_vote_78 rfl (by decide) ?_
                refine r_iload_n 82 C 2 dX5_vote_81 rfl rfl ?_
                refine r_iadd 83 C dX5_vote_82 rfl ?_
                obtain ⟨x12, hx12, hf⟩ := ob hf
                refine r_iaload 84 C shM_1 dX5_vote_83 rfl hx12 ?_
                refine r_istore 86 C [(5, .int x12), (4, .int x4), (0, .ref (G.2.1 0)), (1, .int a1), (2, .int a2), (3, .int a3)] dX5_vote_84 rfl rfl (by decide) rfl ?_
                refine r_iload_n 87 C 5 dX5_vote_86 rfl rfl ?_
                refine r_iload_n 88 C 4 dX5_vote_87 rfl rfl ?_
                refine r_Si (As := [.int a3, .int a2]) 91 C (c_X5_voteAt l G A a3 a2 g _ rfl) (va_cwS 2 C.1.2.2.2.2 gX5_vote_X5_voteAt rfl rfl rfl hd_X5_voteAt ⟨Nat.le_of_ble_eq_true rfl, Nat.le_of_ble_eq_true rfl⟩) rfl rfl (Nat.le_of_ble_eq_true rfl) dX5_vote_88 rfl ?_
                obtain ⟨x13, hx13, hf⟩ := ol hf
                refine r_istore 93 C [(6, .int x13), (5, .int x12), (4, .int x4), (0, .ref (G.2.1 0)), (1, .int a1), (2, .int a2), (3, .int a3)] dX5_vote_91 rfl hx13 (by decide) rfl ?_
                refine r_aload_n 94 C 3 dX5_vote_93 rfl rfl ?_
                refine r_getr 97 C (k := 0) shM_0 rfl hinX5 (by decide) rfl dX5_vote_94 rfl (by decide +kernel) ?_
                refine r_iload 99 C 0 dX5_vote_97 rfl rfl ?_
                obtain ⟨x14, hx14, hf⟩ := ob hf
                refine r_iaload 100 C shM_1 dX5_vote_99 rfl hx14 ?_
                refine r_iload 102 C 1 dX5_vote_100 rfl rfl ?_
                refine r_icmp_ne 108 105 C dX5_vote_102 rfl rfl (fun c15 => ?_) (fun c15 => ?_)
                · have hf := oin c15 hf
                  refine r_aload_n 109 C 3 dX5_vote_108 rfl rfl ?_
                  obtain ⟨g16, hg16, hf⟩ := ob hf
                  refine r_Vv (As := []) 112 C shM_0 rfl (c_X5_record l G A g _ hg16) (cwV 0 C.1.2.2.2.2 gX5_vote_X5_record rfl rfl rfl hd_X5_record ⟨Nat.le_of_ble_eq_true rfl, Nat.le_of_ble_eq_true rfl⟩) rfl rfl (Nat.le_of_ble_eq_true rfl) dX5_vote_109 rfl ?_
                  refine r_iload 114 C 1 dX5_vote_112 rfl rfl ?_
                  refine r_aload_n 115 C 3 dX5_vote_114 rfl rfl ?_
                  refine r_getr 118 C (k := 0) shM_0 rfl hinX5 (by decide) rfl dX5_vote_115 rfl (by decide +kernel) ?_
                  refine r_bipush (v := 6) 120 C dX5_vote_118 rfl (by decide) ?_
                  refine r_iload_n 121 C 6 dX5_vote_120 rfl rfl ?_
                  refine r_iadd 122 C dX5_vote_121 rfl ?_
                  obtain ⟨x17, hx17, hf⟩ := ob hf
                  refine r_iaload 123 C shM_1 dX5_vote_122 rfl hx17 ?_
                  refine r_icmp_ge 136 126 C dX5_vote_123 rfl rfl (fun c18 => ?_) (fun c18 => ?_)
                  · have hf := oip c18 hf
                    refine r_aload_n 137 C 3 dX5_vote_136 rfl rfl ?_
                    refine r_getr 140 C (k := 0) shM_0 rfl hinX5 (by decide) rfl dX5_vote_137 rfl (by decide +kernel) ?_
                    refine r_bipush (v := 6) 142 C dX5_vote_140 rfl (by decide) ?_
                    refine r_iload_n 143 C 6 dX5_vote_142 rfl rfl ?_
                    refine r_iadd 144 C dX5_vote_143 rfl ?_
                    refine r_iload 146 C 1 dX5_vote_144 rfl rfl ?_
                    obtain ⟨g19, hg19, hf⟩ := ob hf
                    refine r_iastore 147 C shM_1 dX5_vote_146 rfl hg19 ?_
                    refine r_aload_n 148 C 3 dX5_vote_147 rfl rfl ?_
                    refine r_getr 151 C (k := 0) shM_0 rfl hinX5 (by decide) rfl dX5_vote_148 rfl (by decide +kernel) ?_
                    refine r_iload 153 C 0 dX5_vote_151 rfl rfl ?_
                    refine r_iload 155 C 1 dX5_vote_153 rfl rfl ?_
                    obtain ⟨g20, hg20, hf⟩ := ob hf
                    refine r_iastore 156 C shM_1 dX5_vote_155 rfl hg20 ?_
                    refine r_aload_n 157 C 3 dX5_vote_156 rfl rfl ?_
                    refine r_getr 160 C (k := 0) shM_0 rfl hinX5 (by decide) rfl dX5_vote_157 rfl (by decide +kernel) ?_
                    refine r_iload 162 C 0 dX5_vote_160 rfl rfl ?_
                    refine r_iconst (v := 1) 163 C dX5_vote_162 rfl (by decide) ?_
                    refine r_iadd 164 C dX5_vote_163 rfl ?_
                    refine r_iload 166 C 2 dX5_vote_164 rfl rfl ?_
                    obtain ⟨g21, hg21, hf⟩ := ob hf
                    refine r_iastore 167 C shM_1 dX5_vote_166 rfl hg21 ?_
                    refine r_iconst (v := 0) 168 C dX5_vote_167 rfl (by decide) ?_
                    refine r_istore 170 C [(7, .int 0), (6, .int x13), (5, .int x12), (4, .int x4), (0, .ref (G.2.1 0)), (1, .int a1), (2, .int a2), (3, .int a3)] dX5_vote_168 rfl rfl (by decide) rfl ?_
                    refine r_iconst (v := 0) 171 C dX5_vote_170 rfl (by decide) ?_
                    refine r_istore 173 C [(8, .int 0), (7, .int 0), (6, .int x13), (5, .int x12), (4, .int x4), (0, .ref (G.2.1 0)), (1, .int a1), (2, .int a2), (3, .int a3)] dX5_vote_171 rfl rfl (by decide) rfl ?_
                    refine r_sub [(0, .ref (G.2.1 0)), (2, .int a2), (4, .int x4), (5, .int x12), (7, .int 0), (8, .int 0)] [5, 7, 4, 3, 1, 0] rfl ?_
                    refine t_X5_vote_L173 C hr hk0 a1 a2 a3 a2 x4 x12 g21 (fun x33 hf => ?_) fuel0 _ _ hf
                    refine r_iload 227 C 4 dX5_vote_225 rfl rfl ?_
                    refine r_aload_n 228 C 0 dX5_vote_227 rfl rfl ?_
                    refine r_iload_n 229 C 1 dX5_vote_228 rfl rfl ?_
                    obtain ⟨x34, hx34, hf⟩ := ob hf
                    refine r_Vi (As := [.int a2]) 232 C shM_0 rfl (c_X5_secondSize l G A a2 g21 _ hx34) (cwV 1 C.1.2.2.2.2 gX5_vote_X5_secondSize rfl rfl rfl hd_X5_secondSize ⟨Nat.le_of_ble_eq_true rfl, Nat.le_of_ble_eq_true rfl⟩) rfl rfl (Nat.le_of_ble_eq_true rfl) dX5_vote_229 rfl ?_
                    refine r_icmp_lt 271 235 C dX5_vote_232 rfl rfl (fun c35 => ?_) (fun c35 => ?_)
                    · have hf := oip c35 hf
                      refine r_iload 273 C 4 dX5_vote_271 rfl rfl ?_
                      have hf := Option.some.inj hf
                      subst hf
                      exact r_iret C hr hk0 dX5_vote_273
                    · have hf := oin c35 hf
                      refine r_aload_n 236 C 0 dX5_vote_235 rfl rfl ?_
                      refine r_iload_n 237 C 1 dX5_vote_236 rfl rfl ?_
                      obtain ⟨x36, hx36, hf⟩ := ob hf
                      refine r_Vi (As := [.int a2]) 240 C shM_0 rfl (c_X5_chosen l G A a2 g21 _ hx36) (cwV 1 C.1.2.2.2.2 gX5_vote_X5_chosen rfl rfl rfl hd_X5_chosen ⟨Nat.le_of_ble_eq_true rfl, Nat.le_of_ble_eq_true rfl⟩) rfl rfl (Nat.le_of_ble_eq_true rfl) dX5_vote_237 rfl ?_
                      refine r_if_ne 271 243 C dX5_vote_240 rfl rfl (fun c37 => ?_) (fun c37 => ?_)
                      · have hf := oin c37 hf
                        refine r_iload 273 C 4 dX5_vote_271 rfl rfl ?_
                        have hf := Option.some.inj hf
                        subst hf
                        exact r_iret C hr hk0 dX5_vote_273
                      · have hf := oip c37 hf
                        refine r_aload_n 244 C 0 dX5_vote_243 rfl rfl ?_
                        refine r_getr 247 C (k := 0) shM_0 rfl hinX5 (by decide) rfl dX5_vote_244 rfl (by decide +kernel) ?_
                        refine r_sipush (v := 837) 250 C dX5_vote_247 rfl (by decide) ?_
                        refine r_iload_n 251 C 1 dX5_vote_250 rfl rfl ?_
                        refine r_iadd 252 C dX5_vote_251 rfl ?_
                        refine r_iconst (v := 1) 253 C dX5_vote_252 rfl (by decide) ?_
                        refine r_isub 254 C dX5_vote_253 rfl ?_
                        refine r_iload 256 C 2 dX5_vote_254 rfl rfl ?_
                        obtain ⟨g38, hg38, hf⟩ := ob hf
                        refine r_iastore 257 C shM_1 dX5_vote_256 rfl hg38 ?_
                        refine r_aload_n 258 C 0 dX5_vote_257 rfl rfl ?_
                        refine r_getr 261 C (k := 0) shM_0 rfl hinX5 (by decide) rfl dX5_vote_258 rfl (by decide +kernel) ?_
                        refine r_sipush (v := 853) 264 C dX5_vote_261 rfl (by decide) ?_
                        refine r_iload_n 265 C 1 dX5_vote_264 rfl rfl ?_
                        refine r_iadd 266 C dX5_vote_265 rfl ?_
                        refine r_iconst (v := 1) 267 C dX5_vote_266 rfl (by decide) ?_
                        refine r_isub 268 C dX5_vote_267 rfl ?_
                        refine r_iload 270 C 3 dX5_vote_268 rfl rfl ?_
                        obtain ⟨g39, hg39, hf⟩ := ob hf
                        refine r_iastore 271 C shM_1 dX5_vote_270 rfl hg39 ?_
                        refine r_iload 273 C 4 dX5_vote_271 rfl rfl ?_
                        have hf := Option.some.inj hf
                        subst hf
                        exact r_iret C hr hk0 dX5_vote_273
                  · have hf := oin c18 hf
                    refine r_aload_n 127 C 3 dX5_vote_126 rfl rfl ?_
                    refine r_iload_n 128 C 4 dX5_vote_127 rfl rfl ?_
                    refine r_iload_n 129 C 6 dX5_vote_128 rfl rfl ?_
                    refine r_sipush (v := 872) 132 C dX5_vote_129 rfl (by decide) ?_
                    obtain ⟨x40, g41, hx40, hf⟩ := ob2 hf
                    refine r_Vi (As := [.int a1, .int a3, .int 872]) 135 C shM_0 rfl (c_X5_refuses l G A a1 a3 872 g16 _ hx40) (cwV 3 C.1.2.2.2.2 gX5_vote_X5_refuses rfl rfl rfl hd_X5_refuses ⟨Nat.le_of_ble_eq_true rfl, Nat.le_of_ble_eq_true rfl⟩) rfl rfl (Nat.le_of_ble_eq_true rfl) dX5_vote_132 rfl ?_
                    have hf := Option.some.inj hf
                    subst hf
                    exact r_iret C hr hk0 dX5_vote_135
                · have hf := oip c15 hf
                  refine r_bipush (v := (-5)) 107 C dX5_vote_105 rfl (by decide) ?_
                  have hf := Option.some.inj hf
                  subst hf
                  exact r_iret C hr hk0 dX5_vote_107
              · have hf := obf c11 hf
                refine r_bipush (v := (-4)) 73 C dX5_vote_71 rfl (by decide) ?_
                have hf := Option.some.inj hf
                subst hf
                exact r_iret C hr hk0 dX5_vote_73
      · have hf := obt c3 hf
        refine r_iconst (v := (-1)) 22 C dX5_vote_21 rfl (by decide) ?_
        have hf := Option.some.inj hf
        subst hf
        exact r_iret C hr hk0 dX5_vote_22
theorem in_X5_trim_X5 : ∀ w ∈ wsX50, w ∈ wsX5_trim := by decide +kernel
def rm_X5_trim : Room := { frames := 2, cells := 0, slots := 0, locals := 42 }
theorem hd_X5_trim : yX5_trim.cls = RX5 ∧ yX5_trim.cls ≠ "java/lang/invoke/MethodHandle" ∧ yX5_trim.cls ≠ "java/lang/invoke/VarHandle" ∧ (parseMethodDescriptor yX5_trim.desc).map (fun d => d.parameters.length) = some 1 := by decide +kernel
set_option maxRecDepth 100000 in
set_option maxHeartbeats 4000000 in
theorem t_X5_trim_L57 {p : Program} {l : Launch} {e : Env} {s : State} {m : MethodId} {args : Array Value} {below : List Frame} {meth : Method} {c : Code} {G : GG} {A : Nat → Prop} (C : KX p s m args c cX5_trim 5 RX5 wsX5_trim G shM A) (hr : meth.sig.returnType = (some .int)) (hk0 : meth.locks = false) (a1 : Int32)  (v1 : Int32) (v3 : Int32) {res : Int32 × Mem} {k : Int32 → Mem → Option (Int32 × Mem)} (hk : ∀ (v2 : Int32) (g : Mem), k v2 g = some res → JJ p l e rm_X5_trim s m args below meth c 5 G shM A (MQ below (k_Qi G shM A res.1 res.2) args s 0 0 A) 117 [(0, .ref (G.2.1 0)), (1, .int v1), (2, .int v2), (3, .int v3)] [] g) : ∀ (n : Nat) (v2 : Int32) (v4 : Int32) (g : Mem), f_X5_trim_L57 k v1 v3 n v2 v4 g = some res → JJ p l e rm_X5_trim s m args below meth c 5 G shM A (MQ below (k_Qi G shM A res.1 res.2) args s 0 0 A) 57 [(0, .ref (G.2.1 0)), (1, .int v1), (2, .int v2), (3, .int v3), (4, .int v4)] [] g := by
  have hinX5 : ∀ w ∈ wsX50, w ∈ wsX5_trim := in_X5_trim_X5
  intro n
  induction n with
  | zero =>
    intro v2 v4 g hf
    rw [f_X5_trim_L57] at hf
    cases hf
  | succ n ih =>
    intro v2 v4 g hf
    rw [f_X5_trim_L57] at hf
    refine r_iload 59 C 4 dX5_trim_57 rfl rfl ?_
    refine r_iload_n 60 C 1 dX5_trim_59 rfl rfl ?_
    refine r_icmp_gt 117 63 C dX5_trim_60 rfl rfl (fun c9 => ?_) (fun c9 => ?_)
    · have hf := oip c9 hf
      refine r_sub [(0, .ref (G.2.1 0)), (1, .int v1), (2, .int v2), (3, .int v3)] [0, 1, 2, 3] rfl ?_
      exact hk _ _ hf
    · have hf := oin c9 hf
      refine r_iload_n 64 C 2 dX5_trim_63 rfl rfl ?_
      refine r_aload_n 65 C 0 dX5_trim_64 rfl rfl ?_
      refine r_getr 68 C (k := 0) shM_0 rfl hinX5 (by decide) rfl dX5_trim_65 rfl (by decide +kernel) ?_
      refine r_iload_n 69 C 3 dX5_trim_68 rfl rfl ?_
      refine r_iload 71 C 4 dX5_trim_69 rfl rfl ?_
      refine r_Si (As := [.int v3, .int v4]) 74 C (c_X5_voteAt l G A v3 v4 g _ rfl) (va_cwS 2 C.1.2.2.2.2 gX5_trim_X5_voteAt rfl rfl rfl hd_X5_voteAt ⟨Nat.le_of_ble_eq_true rfl, Nat.le_of_ble_eq_true rfl⟩) rfl rfl (Nat.le_of_ble_eq_true rfl) dX5_trim_71 rfl ?_
      obtain ⟨x10, hx10, hf⟩ := ob hf
      refine r_iaload 75 C shM_1 dX5_trim_74 rfl hx10 ?_
      refine r_if_le 82 78 C dX5_trim_75 rfl rfl (fun c11 => ?_) (fun c11 => ?_)
      · have hf := oip c11 hf
        refine r_iconst (v := 0) 83 C dX5_trim_82 rfl (by decide) ?_
        refine r_iadd 84 C dX5_trim_83 rfl ?_
        obtain ⟨x12, hx12, hf⟩ := ol hf
        refine r_istore_n 85 C [(2, .int x12), (0, .ref (G.2.1 0)), (1, .int v1), (3, .int v3), (4, .int v4)] dX5_trim_84 rfl hx12 (by decide) rfl ?_
        refine r_aload_n 86 C 1 dX5_trim_85 rfl rfl ?_
        refine r_getr 89 C (k := 0) shM_0 rfl hinX5 (by decide) rfl dX5_trim_86 rfl (by decide +kernel) ?_
        refine r_iload_n 90 C 3 dX5_trim_89 rfl rfl ?_
        refine r_iload 92 C 4 dX5_trim_90 rfl rfl ?_
        refine r_Si (As := [.int v3, .int v4]) 95 C (c_X5_voteAt l G A v3 v4 g _ rfl) (va_cwS 2 C.1.2.2.2.2 gX5_trim_X5_voteAt rfl rfl rfl hd_X5_voteAt ⟨Nat.le_of_ble_eq_true rfl, Nat.le_of_ble_eq_true rfl⟩) rfl rfl (Nat.le_of_ble_eq_true rfl) dX5_trim_92 rfl ?_
        refine r_iconst (v := 0) 96 C dX5_trim_95 rfl (by decide) ?_
        obtain ⟨g13, hg13, hf⟩ := ob hf
        refine r_iastore 97 C shM_1 dX5_trim_96 rfl hg13 ?_
        refine r_aload_n 98 C 1 dX5_trim_97 rfl rfl ?_
        refine r_getr 101 C (k := 0) shM_0 rfl hinX5 (by decide) rfl dX5_trim_98 rfl (by decide +kernel) ?_
        refine r_iload_n 102 C 3 dX5_trim_101 rfl rfl ?_
        refine r_iload 104 C 4 dX5_trim_102 rfl rfl ?_
        refine r_Si (As := [.int v3, .int v4]) 107 C (c_X5_voteAt l G A v3 v4 g13 _ rfl) (va_cwS 2 C.1.2.2.2.2 gX5_trim_X5_voteAt rfl rfl rfl hd_X5_voteAt ⟨Nat.le_of_ble_eq_true rfl, Nat.le_of_ble_eq_true rfl⟩) rfl rfl (Nat.le_of_ble_eq_true rfl) dX5_trim_104 rfl ?_
        refine r_iconst (v := 1) 108 C dX5_trim_107 rfl (by decide) ?_
        refine r_iadd 109 C dX5_trim_108 rfl ?_
        refine r_iconst (v := 0) 110 C dX5_trim_109 rfl (by decide) ?_
        obtain ⟨g14, hg14, hf⟩ := ob hf
        refine r_iastore 111 C shM_1 dX5_trim_110 rfl hg14 ?_
        obtain ⟨x15, hx15, hf⟩ := ol hf
        refine r_iinc 114 C 4 x15 [(4, .int x15), (2, .int x12), (0, .ref (G.2.1 0)), (1, .int v1), (3, .int v3)] dX5_trim_111 rfl rfl hx15.symm (by decide) rfl ?_
        refine r_goto 57 C dX5_trim_114 rfl ?_
        refine r_sub [(0, .ref (G.2.1 0)), (1, .int v1), (2, .int x12), (3, .int v3), (4, .int x15)] [2, 3, 1, 4, 0] rfl ?_
        exact ih _ _ _ hf
      · have hf := oin c11 hf
        refine r_iconst (v := 1) 79 C dX5_trim_78 rfl (by decide) ?_
        refine r_goto 83 C dX5_trim_79 rfl ?_
        refine r_iadd 84 C dX5_trim_83 rfl ?_
        obtain ⟨x16, hx16, hf⟩ := ol hf
        refine r_istore_n 85 C [(2, .int x16), (0, .ref (G.2.1 0)), (1, .int v1), (3, .int v3), (4, .int v4)] dX5_trim_84 rfl hx16 (by decide) rfl ?_
        refine r_aload_n 86 C 1 dX5_trim_85 rfl rfl ?_
        refine r_getr 89 C (k := 0) shM_0 rfl hinX5 (by decide) rfl dX5_trim_86 rfl (by decide +kernel) ?_
        refine r_iload_n 90 C 3 dX5_trim_89 rfl rfl ?_
        refine r_iload 92 C 4 dX5_trim_90 rfl rfl ?_
        refine r_Si (As := [.int v3, .int v4]) 95 C (c_X5_voteAt l G A v3 v4 g _ rfl) (va_cwS 2 C.1.2.2.2.2 gX5_trim_X5_voteAt rfl rfl rfl hd_X5_voteAt ⟨Nat.le_of_ble_eq_true rfl, Nat.le_of_ble_eq_true rfl⟩) rfl rfl (Nat.le_of_ble_eq_true rfl) dX5_trim_92 rfl ?_
        refine r_iconst (v := 0) 96 C dX5_trim_95 rfl (by decide) ?_
        obtain ⟨g17, hg17, hf⟩ := ob hf
        refine r_iastore 97 C shM_1 dX5_trim_96 rfl hg17 ?_
        refine r_aload_n 98 C 1 dX5_trim_97 rfl rfl ?_
        refine r_getr 101 C (k := 0) shM_0 rfl hinX5 (by decide) rfl dX5_trim_98 rfl (by decide +kernel) ?_
        refine r_iload_n 102 C 3 dX5_trim_101 rfl rfl ?_
        refine r_iload 104 C 4 dX5_trim_102 rfl rfl ?_
        refine r_Si (As := [.int v3, .int v4]) 107 C (c_X5_voteAt l G A v3 v4 g17 _ rfl) (va_cwS 2 C.1.2.2.2.2 gX5_trim_X5_voteAt rfl rfl rfl hd_X5_voteAt ⟨Nat.le_of_ble_eq_true rfl, Nat.le_of_ble_eq_true rfl⟩) rfl rfl (Nat.le_of_ble_eq_true rfl) dX5_trim_104 rfl ?_
        refine r_iconst (v := 1) 108 C dX5_trim_107 rfl (by decide) ?_
        refine r_iadd 109 C dX5_trim_108 rfl ?_
        refine r_iconst (v := 0) 110 C dX5_trim_109 rfl (by decide) ?_
        obtain ⟨g18, hg18, hf⟩ := ob hf
        refine r_iastore 111 C shM_1 dX5_trim_110 rfl hg18 ?_
        obtain ⟨x19, hx19, hf⟩ := ol hf
        refine r_iinc 114 C 4 x19 [(4, .int x19), (2, .int x16), (0, .ref (G.2.1 0)), (1, .int v1), (3, .int v3)] dX5_trim_111 rfl rfl hx19.symm (by decide) rfl ?_
        refine r_goto 57 C dX5_trim_114 rfl ?_
        refine r_sub [(0, .ref (G.2.1 0)), (1, .int v1), (2, .int x16), (3, .int v3), (4, .int x19)] [2, 3, 1, 4, 0] rfl ?_
        exact ih _ _ _ hf
set_option maxRecDepth 100000 in
set_option maxHeartbeats 4000000 in
theorem t_X5_trim_L48 {p : Program} {l : Launch} {e : Env} {s : State} {m : MethodId} {args : Array Value} {below : List Frame} {meth : Method} {c : Code} {G : GG} {A : Nat → Prop} (C : KX p s m args c cX5_trim 5 RX5 wsX5_trim G shM A) (hr : meth.sig.returnType = (some .int)) (hk0 : meth.locks = false) (a1 : Int32)  (v1 : Int32) {res : Int32 × Mem} {k : Int32 → Mem → Option (Int32 × Mem)} (hk : ∀ (v2 : Int32) (g : Mem), k v2 g = some res → JJ p l e rm_X5_trim s m args below meth c 5 G shM A (MQ below (k_Qi G shM A res.1 res.2) args s 0 0 A) 123 [(2, .int v2)] [] g) : ∀ (n : Nat) (v2 : Int32) (v3 : Int32) (g : Mem), f_X5_trim_L48 k v1 n v2 v3 g = some res → JJ p l e rm_X5_trim s m args below meth c 5 G shM A (MQ below (k_Qi G shM A res.1 res.2) args s 0 0 A) 48 [(0, .ref (G.2.1 0)), (1, .int v1), (2, .int v2), (3, .int v3)] [] g := by
  have hinX5 : ∀ w ∈ wsX50, w ∈ wsX5_trim := in_X5_trim_X5
  intro n
  induction n with
  | zero =>
    intro v2 v3 g hf
    rw [f_X5_trim_L48] at hf
    cases hf
  | succ n ih =>
    intro v2 v3 g hf
    rw [f_X5_trim_L48] at hf
    refine r_iload_n 49 C 3 dX5_trim_48 rfl rfl ?_
    refine r_bipush (v := 6) 51 C dX5_trim_49 rfl (by decide) ?_
    refine r_icmp_ge 123 54 C dX5_trim_51 rfl rfl (fun c8 => ?_) (fun c8 => ?_)
    · have hf := oip c8 hf
      refine r_sub [(2, .int v2)] [2] rfl ?_
      exact hk _ _ hf
    · have hf := oin c8 hf
      refine r_iconst (v := 1) 55 C dX5_trim_54 rfl (by decide) ?_
      refine r_istore 57 C [(4, .int 1), (0, .ref (G.2.1 0)), (1, .int v1), (2, .int v2), (3, .int v3)] dX5_trim_55 rfl rfl (by decide) rfl ?_
      refine r_sub [(0, .ref (G.2.1 0)), (1, .int v1), (2, .int v2), (3, .int v3), (4, .int 1)] [1, 2, 3, 4, 0] rfl ?_
      refine t_X5_trim_L57 C hr hk0 a1 v1 v3 (fun x20 g21 hf => ?_) fuel0 _ _ _ hf
      obtain ⟨x22, hx22, hf⟩ := ol hf
      refine r_iinc 120 C 3 x22 [(3, .int x22), (0, .ref (G.2.1 0)), (1, .int v1), (2, .int x20)] dX5_trim_117 rfl rfl hx22.symm (by decide) rfl ?_
      refine r_goto 48 C dX5_trim_120 rfl ?_
      refine r_sub [(0, .ref (G.2.1 0)), (1, .int v1), (2, .int x20), (3, .int x22)] [1, 2, 3, 0] rfl ?_
      exact ih _ _ _ hf
set_option maxRecDepth 100000 in
set_option maxHeartbeats 4000000 in
theorem c_X5_trim (l : Launch) (G : GG) (A : Nat → Prop) (a1 : Int32)  (g : Mem) (res : Int32 × Mem) (hf : f_X5_trim a1 g = some res) : k_Mi l yX5_trim wsX5_trim rm_X5_trim G shM A [.ref (G.2.1 0), .int a1] g res.1 res.2 := by
  have hinX5 : ∀ w ∈ wsX50, w ∈ wsX5_trim := in_X5_trim_X5
  refine k_ofi (cc := cX5_trim) (nL := 5) (own := RX5) (by decide +kernel) rfl rfl (by simp [lg_sl, Value.category]) ⟨rfl, rfl⟩ [(0, .ref (G.2.1 0)), (1, .int a1)] rfl ?_
  intro p e s m args below meth c C hr hk0
  rw [f_X5_trim] at hf
  refine r_iload_n 1 C 1 dX5_trim_0 rfl rfl ?_
  refine r_Si (As := [.int a1]) 4 C (c_X5_noSlot l G A a1 g _ rfl) (va_cwS 1 C.1.2.2.2.2 gX5_trim_X5_noSlot rfl rfl rfl hd_X5_noSlot ⟨Nat.le_of_ble_eq_true rfl, Nat.le_of_ble_eq_true rfl⟩) rfl rfl (Nat.le_of_ble_eq_true rfl) dX5_trim_1 rfl ?_
  refine r_if_eq 9 7 C dX5_trim_4 rfl rfl (fun c1 => ?_) (fun c1 => ?_)
  · have hf := obf c1 hf
    refine r_iload_n 10 C 1 dX5_trim_9 rfl rfl ?_
    refine r_aload_n 11 C 0 dX5_trim_10 rfl rfl ?_
    obtain ⟨x2, hx2, hf⟩ := ob hf
    refine r_Vi (As := []) 14 C shM_0 rfl (c_X5_prefix l G A g _ hx2) (cwV 0 C.1.2.2.2.2 gX5_trim_X5_prefix rfl rfl rfl hd_X5_prefix ⟨Nat.le_of_ble_eq_true rfl, Nat.le_of_ble_eq_true rfl⟩) rfl rfl (Nat.le_of_ble_eq_true rfl) dX5_trim_11 rfl ?_
    refine r_icmp_le 20 17 C dX5_trim_14 rfl rfl (fun c3 => ?_) (fun c3 => ?_)
    · have hf := oip c3 hf
      refine r_aload_n 21 C 0 dX5_trim_20 rfl rfl ?_
      refine r_iload_n 22 C 1 dX5_trim_21 rfl rfl ?_
      obtain ⟨x4, hx4, hf⟩ := ob hf
      refine r_Vi (As := [.int a1]) 25 C shM_0 rfl (c_X5_isTrimmed l G A a1 g _ hx4) (cwV 1 C.1.2.2.2.2 gX5_trim_X5_isTrimmed rfl rfl rfl hd_X5_isTrimmed ⟨Nat.le_of_ble_eq_true rfl, Nat.le_of_ble_eq_true rfl⟩) rfl rfl (Nat.le_of_ble_eq_true rfl) dX5_trim_22 rfl ?_
      refine r_if_eq 31 28 C dX5_trim_25 rfl rfl (fun c5 => ?_) (fun c5 => ?_)
      · have hf := obf c5 hf
        refine r_aload_n 32 C 0 dX5_trim_31 rfl rfl ?_
        obtain ⟨g6, hg6, hf⟩ := ob hf
        refine r_Vv (As := []) 35 C shM_0 rfl (c_X5_record l G A g _ hg6) (cwV 0 C.1.2.2.2.2 gX5_trim_X5_record rfl rfl rfl hd_X5_record ⟨Nat.le_of_ble_eq_true rfl, Nat.le_of_ble_eq_true rfl⟩) rfl rfl (Nat.le_of_ble_eq_true rfl) dX5_trim_32 rfl ?_
        refine r_aload_n 36 C 0 dX5_trim_35 rfl rfl ?_
        refine r_getr 39 C (k := 0) shM_0 rfl hinX5 (by decide) rfl dX5_trim_36 rfl (by decide +kernel) ?_
        refine r_sipush (v := 869) 42 C dX5_trim_39 rfl (by decide) ?_
        refine r_iload_n 43 C 1 dX5_trim_42 rfl rfl ?_
        obtain ⟨g7, hg7, hf⟩ := ob hf
        refine r_iastore 44 C shM_1 dX5_trim_43 rfl hg7 ?_
        refine r_iconst (v := 0) 45 C dX5_trim_44 rfl (by decide) ?_
        refine r_istore_n 46 C [(2, .int 0), (0, .ref (G.2.1 0)), (1, .int a1)] dX5_trim_45 rfl rfl (by decide) rfl ?_
        refine r_iconst (v := 0) 47 C dX5_trim_46 rfl (by decide) ?_
        refine r_istore_n 48 C [(3, .int 0), (2, .int 0), (0, .ref (G.2.1 0)), (1, .int a1)] dX5_trim_47 rfl rfl (by decide) rfl ?_
        refine r_sub [(0, .ref (G.2.1 0)), (1, .int a1), (2, .int 0), (3, .int 0)] [2, 3, 1, 0] rfl ?_
        refine t_X5_trim_L48 C hr hk0 a1 a1 (fun x23 g24 hf => ?_) fuel0 _ _ _ hf
        refine r_iload_n 124 C 0 dX5_trim_123 rfl rfl ?_
        have hf := Option.some.inj hf
        subst hf
        exact r_iret C hr hk0 dX5_trim_124
      · have hf := obt c5 hf
        refine r_bipush (v := (-5)) 30 C dX5_trim_28 rfl (by decide) ?_
        have hf := Option.some.inj hf
        subst hf
        exact r_iret C hr hk0 dX5_trim_30
    · have hf := oin c3 hf
      refine r_bipush (v := (-4)) 19 C dX5_trim_17 rfl (by decide) ?_
      have hf := Option.some.inj hf
      subst hf
      exact r_iret C hr hk0 dX5_trim_19
  · have hf := obt c1 hf
    refine r_iconst (v := (-1)) 8 C dX5_trim_7 rfl (by decide) ?_
    have hf := Option.some.inj hf
    subst hf
    exact r_iret C hr hk0 dX5_trim_8
def rm_X5_copies : Room := { frames := 0, cells := 0, slots := 0, locals := 0 }
theorem hd_X5_copies : yX5_copies.cls = RX5 ∧ yX5_copies.cls ≠ "java/lang/invoke/MethodHandle" ∧ yX5_copies.cls ≠ "java/lang/invoke/VarHandle" ∧ (parseMethodDescriptor yX5_copies.desc).map (fun d => d.parameters.length) = some 2 := by decide +kernel
set_option maxRecDepth 100000 in
set_option maxHeartbeats 4000000 in
theorem t_X5_copies_L2 {p : Program} {l : Launch} {e : Env} {s : State} {m : MethodId} {args : Array Value} {below : List Frame} {meth : Method} {c : Code} {G : GG} {A : Nat → Prop} (C : KX p s m args c cX5_copies 4 RX5 wsX5_copies G shM A) (hr : meth.sig.returnType = none) (hk0 : meth.locks = false) (o1 : Nat) (o2 : Nat) (ho1 : shM[o1]? = some (.inr (.inl (false, 873)))) (ho2 : shM[o2]? = some (.inr (.inl (false, 873)))) {res : Mem} {k : Mem → Option Mem} (hk : ∀ (g : Mem), k g = some res → JJ p l e rm_X5_copies s m args below meth c 4 G shM A (MQ below (k_Qv G shM A res) args s 0 0 A) 21 [] [] g) : ∀ (n : Nat) (v3 : Int32) (g : Mem), f_X5_copies_L2 k o1 o2 n v3 g = some res → JJ p l e rm_X5_copies s m args below meth c 4 G shM A (MQ below (k_Qv G shM A res) args s 0 0 A) 2 [(1, .ref (G.2.1 o1)), (2, .ref (G.2.1 o2)), (3, .int v3)] [] g := by
  intro n
  induction n with
  | zero =>
    intro v3 g hf
    rw [f_X5_copies_L2] at hf
    cases hf
  | succ n ih =>
    intro v3 g hf
    rw [f_X5_copies_L2] at hf
    refine r_iload_n 3 C 2 dX5_copies_2 rfl rfl ?_
    refine r_sipush (v := 873) 6 C dX5_copies_3 rfl (by decide) ?_
    refine r_icmp_ge 21 9 C dX5_copies_6 rfl rfl (fun c1 => ?_) (fun c1 => ?_)
    · have hf := oip c1 hf
      refine r_sub [] [] rfl ?_
      exact hk  _ hf
    · have hf := oin c1 hf
      refine r_aload_n 10 C 1 dX5_copies_9 rfl rfl ?_
      refine r_iload_n 11 C 2 dX5_copies_10 rfl rfl ?_
      refine r_aload_n 12 C 0 dX5_copies_11 rfl rfl ?_
      refine r_iload_n 13 C 2 dX5_copies_12 rfl rfl ?_
      obtain ⟨x2, hx2, hf⟩ := ob hf
      refine r_iaload 14 C ho1 dX5_copies_13 rfl hx2 ?_
      obtain ⟨g3, hg3, hf⟩ := ob hf
      refine r_iastore 15 C ho2 dX5_copies_14 rfl hg3 ?_
      obtain ⟨x4, hx4, hf⟩ := ol hf
      refine r_iinc 18 C 2 x4 [(3, .int x4), (1, .ref (G.2.1 o1)), (2, .ref (G.2.1 o2))] dX5_copies_15 rfl rfl hx4.symm (by decide) rfl ?_
      refine r_goto 2 C dX5_copies_18 rfl ?_
      refine r_sub [(1, .ref (G.2.1 o1)), (2, .ref (G.2.1 o2)), (3, .int x4)] [1, 2, 0] rfl ?_
      exact ih _ _ hf
set_option maxRecDepth 100000 in
set_option maxHeartbeats 4000000 in
theorem c_X5_copies (l : Launch) (G : GG) (A : Nat → Prop) (o1 : Nat) (o2 : Nat) (ho1 : shM[o1]? = some (.inr (.inl (false, 873)))) (ho2 : shM[o2]? = some (.inr (.inl (false, 873)))) (g : Mem) (res : Mem) (hf : f_X5_copies o1 o2 g = some res) : k_Mv l yX5_copies wsX5_copies rm_X5_copies G shM A [.ref (G.2.1 0), .ref (G.2.1 o1), .ref (G.2.1 o2)] g res := by
  refine k_ofv (cc := cX5_copies) (nL := 4) (own := RX5) (by decide +kernel) rfl rfl (by simp [lg_sl, Value.category]) ⟨rfl, rfl⟩ [(0, .ref (G.2.1 0)), (1, .ref (G.2.1 o1)), (2, .ref (G.2.1 o2))] rfl ?_
  intro p e s m args below meth c C hr hk0
  rw [f_X5_copies] at hf
  refine r_iconst (v := 0) 1 C dX5_copies_0 rfl (by decide) ?_
  refine r_istore_n 2 C [(3, .int 0), (0, .ref (G.2.1 0)), (1, .ref (G.2.1 o1)), (2, .ref (G.2.1 o2))] dX5_copies_1 rfl rfl (by decide) rfl ?_
  refine r_sub [(1, .ref (G.2.1 o1)), (2, .ref (G.2.1 o2)), (3, .int 0)] [2, 3, 0] rfl ?_
  refine t_X5_copies_L2 C hr hk0 o1 o2 ho1 ho2 (fun g5 hf => ?_) fuel0 _ _ hf
  have hf := Option.some.inj hf
  subst hf
  exact r_vret C hr hk0 dX5_copies_21
