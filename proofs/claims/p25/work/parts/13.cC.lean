theorem in_X4_settled_X4 : ∀ w ∈ wsX40, w ∈ wsX4_settled := by decide +kernel
def rm_X4_settled : Room := { frames := 2, cells := 0, slots := 0, locals := 41 }
theorem hd_X4_settled : yX4_settled.cls = RX4 ∧ yX4_settled.cls ≠ "java/lang/invoke/MethodHandle" ∧ yX4_settled.cls ≠ "java/lang/invoke/VarHandle" ∧ (parseMethodDescriptor yX4_settled.desc).map (fun d => d.parameters.length) = some 1 := by decide +kernel
set_option maxRecDepth 100000 in
set_option maxHeartbeats 4000000 in
theorem c_X4_settled (l : Launch) (G : GG) (A : Nat → Prop) (a1 : Int32)  (g : Mem) (res : Int32 × Mem) (hf : f_X4_settled a1 g = some res) : k_Mi l yX4_settled wsX4_settled rm_X4_settled G shC A [.ref (G.2.1 0), .int a1] g res.1 res.2 := by
  have hinX4 : ∀ w ∈ wsX40, w ∈ wsX4_settled := in_X4_settled_X4
  refine k_ofi (cc := cX4_settled) (nL := 2) (own := RX4) (by decide +kernel) rfl rfl (by simp [lg_sl, Value.category]) ⟨rfl, rfl⟩ [(0, .ref (G.2.1 0)), (1, .int a1)] rfl ?_
  intro p e s m args below meth c C hr hk0
  rw [f_X4_settled] at hf
  refine r_iload_n 1 C 1 dX4_settled_0 rfl rfl ?_
  refine r_if_lt 11 4 C dX4_settled_1 rfl rfl (fun c1 => ?_) (fun c1 => ?_)
  · have hf := oip c1 hf
    refine r_iload_n 12 C 1 dX4_settled_11 rfl rfl ?_
    have hf := Option.some.inj hf
    subst hf
    exact r_iret C hr hk0 dX4_settled_12
  · have hf := oin c1 hf
    refine r_aload_n 5 C 0 dX4_settled_4 rfl rfl ?_
    refine r_getr 8 C (k := 3) shC_0 rfl hinX4 (by decide) rfl dX4_settled_5 rfl (by decide +kernel) ?_
    obtain ⟨g2, hg2, hf⟩ := ob hf
    refine r_Vv (As := []) 11 C shC_25 rfl (c_X0_commit l G A g _ hg2) (cwV 0 C.1.2.2.2.2 gX4_settled_X0_commit rfl rfl rfl hd_X0_commit ⟨Nat.le_of_ble_eq_true rfl, Nat.le_of_ble_eq_true rfl⟩) rfl rfl (Nat.le_of_ble_eq_true rfl) dX4_settled_8 rfl ?_
    refine r_iload_n 12 C 1 dX4_settled_11 rfl rfl ?_
    have hf := Option.some.inj hf
    subst hf
    exact r_iret C hr hk0 dX4_settled_12
theorem in_X4_setUp_X4 : ∀ w ∈ wsX40, w ∈ wsX4_setUp := by decide +kernel
def rm_X4_setUp : Room := { frames := 4, cells := 0, slots := 0, locals := 103 }
theorem hd_X4_setUp : yX4_setUp.cls = RX4 ∧ yX4_setUp.cls ≠ "java/lang/invoke/MethodHandle" ∧ yX4_setUp.cls ≠ "java/lang/invoke/VarHandle" ∧ (parseMethodDescriptor yX4_setUp.desc).map (fun d => d.parameters.length) = some 2 := by decide +kernel
set_option maxRecDepth 100000 in
set_option maxHeartbeats 4000000 in
theorem c_X4_setUp (l : Launch) (G : GG) (A : Nat → Prop) (a1 : Int32) (b2 : Bool)  (g : Mem) (res : Int32 × Mem) (hf : f_X4_setUp a1 b2 g = some res) : k_Mi l yX4_setUp wsX4_setUp rm_X4_setUp G shC A [.ref (G.2.1 0), .int a1, .int (bI b2)] g res.1 res.2 := by
  have hinX4 : ∀ w ∈ wsX40, w ∈ wsX4_setUp := in_X4_setUp_X4
  refine k_ofi (cc := cX4_setUp) (nL := 3) (own := RX4) (by decide +kernel) rfl rfl (by simp [lg_sl, Value.category]) ⟨rfl, rfl⟩ [(0, .ref (G.2.1 0)), (1, .int a1), (2, .int (bI b2))] rfl ?_
  intro p e s m args below meth c C hr hk0
  rw [f_X4_setUp] at hf
  refine r_aload_n 1 C 0 dX4_setUp_0 rfl rfl ?_
  refine r_getr 4 C (k := 3) shC_0 rfl hinX4 (by decide) rfl dX4_setUp_1 rfl (by decide +kernel) ?_
  refine r_aload_n 5 C 0 dX4_setUp_4 rfl rfl ?_
  refine r_getr 8 C (k := 0) shC_0 rfl hinX4 (by decide) rfl dX4_setUp_5 rfl (by decide +kernel) ?_
  obtain ⟨g1, hg1, hf⟩ := ob hf
  refine r_Vv (As := [.ref (G.2.1 1)]) 11 C shC_25 rfl (c_X0_draft l G A 1 is_1 g _ hg1) (cwV 1 C.1.2.2.2.2 gX4_setUp_X0_draft rfl rfl rfl hd_X0_draft ⟨Nat.le_of_ble_eq_true rfl, Nat.le_of_ble_eq_true rfl⟩) rfl rfl (Nat.le_of_ble_eq_true rfl) dX4_setUp_8 rfl ?_
  refine r_aload_n 12 C 0 dX4_setUp_11 rfl rfl ?_
  refine r_aload_n 13 C 0 dX4_setUp_12 rfl rfl ?_
  refine r_getr 16 C (k := 0) shC_0 rfl hinX4 (by decide) rfl dX4_setUp_13 rfl (by decide +kernel) ?_
  refine r_iload_n 17 C 1 dX4_setUp_16 rfl rfl ?_
  refine r_iload_n 18 C 2 dX4_setUp_17 rfl rfl ?_
  obtain ⟨x2, g3, hx2, hf⟩ := ob2 hf
  refine r_Vi (As := [.int a1, .int (bI b2)]) 21 C (st_0 is_1) rfl (c_X2_turn l G A 1 a1 (b2) is_1 g1 _ hx2) (cwV 2 C.1.2.2.2.2 gX4_setUp_X2_turn rfl rfl rfl hd_X2_turn ⟨Nat.le_of_ble_eq_true rfl, Nat.le_of_ble_eq_true rfl⟩) rfl rfl (Nat.le_of_ble_eq_true rfl) dX4_setUp_18 rfl ?_
  obtain ⟨x4, g5, hx4, hf⟩ := ob2 hf
  refine r_Vi (As := [.int x2]) 24 C shC_0 rfl (c_X4_settled l G A x2 g3 _ hx4) (cwV 1 C.1.2.2.2.2 gX4_setUp_X4_settled rfl rfl rfl hd_X4_settled ⟨Nat.le_of_ble_eq_true rfl, Nat.le_of_ble_eq_true rfl⟩) rfl rfl (Nat.le_of_ble_eq_true rfl) dX4_setUp_21 rfl ?_
  have hf := Option.some.inj hf
  subst hf
  exact r_iret C hr hk0 dX4_setUp_24
theorem in_X4_prepare_X4 : ∀ w ∈ wsX40, w ∈ wsX4_prepare := by decide +kernel
def rm_X4_prepare : Room := { frames := 4, cells := 0, slots := 0, locals := 103 }
theorem hd_X4_prepare : yX4_prepare.cls = RX4 ∧ yX4_prepare.cls ≠ "java/lang/invoke/MethodHandle" ∧ yX4_prepare.cls ≠ "java/lang/invoke/VarHandle" ∧ (parseMethodDescriptor yX4_prepare.desc).map (fun d => d.parameters.length) = some 1 := by decide +kernel
set_option maxRecDepth 100000 in
set_option maxHeartbeats 4000000 in
theorem c_X4_prepare (l : Launch) (G : GG) (A : Nat → Prop) (a1 : Int32)  (g : Mem) (res : Int32 × Mem) (hf : f_X4_prepare a1 g = some res) : k_Mi l yX4_prepare wsX4_prepare rm_X4_prepare G shC A [.ref (G.2.1 0), .int a1] g res.1 res.2 := by
  have hinX4 : ∀ w ∈ wsX40, w ∈ wsX4_prepare := in_X4_prepare_X4
  refine k_ofi (cc := cX4_prepare) (nL := 2) (own := RX4) (by decide +kernel) rfl rfl (by simp [lg_sl, Value.category]) ⟨rfl, rfl⟩ [(0, .ref (G.2.1 0)), (1, .int a1)] rfl ?_
  intro p e s m args below meth c C hr hk0
  rw [f_X4_prepare] at hf
  refine r_aload_n 1 C 0 dX4_prepare_0 rfl rfl ?_
  refine r_getr 4 C (k := 3) shC_0 rfl hinX4 (by decide) rfl dX4_prepare_1 rfl (by decide +kernel) ?_
  refine r_aload_n 5 C 0 dX4_prepare_4 rfl rfl ?_
  refine r_getr 8 C (k := 0) shC_0 rfl hinX4 (by decide) rfl dX4_prepare_5 rfl (by decide +kernel) ?_
  obtain ⟨g1, hg1, hf⟩ := ob hf
  refine r_Vv (As := [.ref (G.2.1 1)]) 11 C shC_25 rfl (c_X0_draft l G A 1 is_1 g _ hg1) (cwV 1 C.1.2.2.2.2 gX4_prepare_X0_draft rfl rfl rfl hd_X0_draft ⟨Nat.le_of_ble_eq_true rfl, Nat.le_of_ble_eq_true rfl⟩) rfl rfl (Nat.le_of_ble_eq_true rfl) dX4_prepare_8 rfl ?_
  refine r_aload_n 12 C 0 dX4_prepare_11 rfl rfl ?_
  refine r_aload_n 13 C 0 dX4_prepare_12 rfl rfl ?_
  refine r_getr 16 C (k := 0) shC_0 rfl hinX4 (by decide) rfl dX4_prepare_13 rfl (by decide +kernel) ?_
  refine r_iload_n 17 C 1 dX4_prepare_16 rfl rfl ?_
  obtain ⟨x2, g3, hx2, hf⟩ := ob2 hf
  refine r_Vi (As := [.int a1]) 20 C (st_0 is_1) rfl (c_X2_startBallot l G A 1 a1 is_1 g1 _ hx2) (cwV 1 C.1.2.2.2.2 gX4_prepare_X2_startBallot rfl rfl rfl hd_X2_startBallot ⟨Nat.le_of_ble_eq_true rfl, Nat.le_of_ble_eq_true rfl⟩) rfl rfl (Nat.le_of_ble_eq_true rfl) dX4_prepare_17 rfl ?_
  obtain ⟨x4, g5, hx4, hf⟩ := ob2 hf
  refine r_Vi (As := [.int x2]) 23 C shC_0 rfl (c_X4_settled l G A x2 g3 _ hx4) (cwV 1 C.1.2.2.2.2 gX4_prepare_X4_settled rfl rfl rfl hd_X4_settled ⟨Nat.le_of_ble_eq_true rfl, Nat.le_of_ble_eq_true rfl⟩) rfl rfl (Nat.le_of_ble_eq_true rfl) dX4_prepare_20 rfl ?_
  have hf := Option.some.inj hf
  subst hf
  exact r_iret C hr hk0 dX4_prepare_23
theorem in_X4_promise_X4 : ∀ w ∈ wsX40, w ∈ wsX4_promise := by decide +kernel
def rm_X4_promise : Room := { frames := 4, cells := 0, slots := 0, locals := 103 }
theorem hd_X4_promise : yX4_promise.cls = RX4 ∧ yX4_promise.cls ≠ "java/lang/invoke/MethodHandle" ∧ yX4_promise.cls ≠ "java/lang/invoke/VarHandle" ∧ (parseMethodDescriptor yX4_promise.desc).map (fun d => d.parameters.length) = some 2 := by decide +kernel
set_option maxRecDepth 100000 in
set_option maxHeartbeats 4000000 in
theorem c_X4_promise (l : Launch) (G : GG) (A : Nat → Prop) (a1 : Int32) (a2 : Int32)  (g : Mem) (res : Int32 × Mem) (hf : f_X4_promise a1 a2 g = some res) : k_Mi l yX4_promise wsX4_promise rm_X4_promise G shC A [.ref (G.2.1 0), .int a1, .int a2] g res.1 res.2 := by
  have hinX4 : ∀ w ∈ wsX40, w ∈ wsX4_promise := in_X4_promise_X4
  refine k_ofi (cc := cX4_promise) (nL := 3) (own := RX4) (by decide +kernel) rfl rfl (by simp [lg_sl, Value.category]) ⟨rfl, rfl⟩ [(0, .ref (G.2.1 0)), (1, .int a1), (2, .int a2)] rfl ?_
  intro p e s m args below meth c C hr hk0
  rw [f_X4_promise] at hf
  refine r_aload_n 1 C 0 dX4_promise_0 rfl rfl ?_
  refine r_getr 4 C (k := 3) shC_0 rfl hinX4 (by decide) rfl dX4_promise_1 rfl (by decide +kernel) ?_
  refine r_aload_n 5 C 0 dX4_promise_4 rfl rfl ?_
  refine r_getr 8 C (k := 0) shC_0 rfl hinX4 (by decide) rfl dX4_promise_5 rfl (by decide +kernel) ?_
  obtain ⟨g1, hg1, hf⟩ := ob hf
  refine r_Vv (As := [.ref (G.2.1 1)]) 11 C shC_25 rfl (c_X0_draft l G A 1 is_1 g _ hg1) (cwV 1 C.1.2.2.2.2 gX4_promise_X0_draft rfl rfl rfl hd_X0_draft ⟨Nat.le_of_ble_eq_true rfl, Nat.le_of_ble_eq_true rfl⟩) rfl rfl (Nat.le_of_ble_eq_true rfl) dX4_promise_8 rfl ?_
  refine r_aload_n 12 C 0 dX4_promise_11 rfl rfl ?_
  refine r_aload_n 13 C 0 dX4_promise_12 rfl rfl ?_
  refine r_getr 16 C (k := 0) shC_0 rfl hinX4 (by decide) rfl dX4_promise_13 rfl (by decide +kernel) ?_
  refine r_iload_n 17 C 1 dX4_promise_16 rfl rfl ?_
  refine r_iload_n 18 C 2 dX4_promise_17 rfl rfl ?_
  obtain ⟨x2, g3, hx2, hf⟩ := ob2 hf
  refine r_Vi (As := [.int a1, .int a2]) 21 C (st_0 is_1) rfl (c_X2_askPromise l G A 1 a1 a2 is_1 g1 _ hx2) (cwV 2 C.1.2.2.2.2 gX4_promise_X2_askPromise rfl rfl rfl hd_X2_askPromise ⟨Nat.le_of_ble_eq_true rfl, Nat.le_of_ble_eq_true rfl⟩) rfl rfl (Nat.le_of_ble_eq_true rfl) dX4_promise_18 rfl ?_
  obtain ⟨x4, g5, hx4, hf⟩ := ob2 hf
  refine r_Vi (As := [.int x2]) 24 C shC_0 rfl (c_X4_settled l G A x2 g3 _ hx4) (cwV 1 C.1.2.2.2.2 gX4_promise_X4_settled rfl rfl rfl hd_X4_settled ⟨Nat.le_of_ble_eq_true rfl, Nat.le_of_ble_eq_true rfl⟩) rfl rfl (Nat.le_of_ble_eq_true rfl) dX4_promise_21 rfl ?_
  have hf := Option.some.inj hf
  subst hf
  exact r_iret C hr hk0 dX4_promise_24
theorem in_X4_propose_X4 : ∀ w ∈ wsX40, w ∈ wsX4_propose := by decide +kernel
def rm_X4_propose : Room := { frames := 6, cells := 0, slots := 0, locals := 133 }
theorem hd_X4_propose : yX4_propose.cls = RX4 ∧ yX4_propose.cls ≠ "java/lang/invoke/MethodHandle" ∧ yX4_propose.cls ≠ "java/lang/invoke/VarHandle" ∧ (parseMethodDescriptor yX4_propose.desc).map (fun d => d.parameters.length) = some 3 := by decide +kernel
set_option maxRecDepth 100000 in
set_option maxHeartbeats 4000000 in
theorem c_X4_propose (l : Launch) (G : GG) (A : Nat → Prop) (a1 : Int32) (a2 : Int32) (a3 : Int32)  (g : Mem) (res : Int32 × Mem) (hf : f_X4_propose a1 a2 a3 g = some res) : k_Mi l yX4_propose wsX4_propose rm_X4_propose G shC A [.ref (G.2.1 0), .int a1, .int a2, .int a3] g res.1 res.2 := by
  have hinX4 : ∀ w ∈ wsX40, w ∈ wsX4_propose := in_X4_propose_X4
  refine k_ofi (cc := cX4_propose) (nL := 4) (own := RX4) (by decide +kernel) rfl rfl (by simp [lg_sl, Value.category]) ⟨rfl, rfl⟩ [(0, .ref (G.2.1 0)), (1, .int a1), (2, .int a2), (3, .int a3)] rfl ?_
  intro p e s m args below meth c C hr hk0
  rw [f_X4_propose] at hf
  refine r_aload_n 1 C 0 dX4_propose_0 rfl rfl ?_
  refine r_getr 4 C (k := 3) shC_0 rfl hinX4 (by decide) rfl dX4_propose_1 rfl (by decide +kernel) ?_
  refine r_aload_n 5 C 0 dX4_propose_4 rfl rfl ?_
  refine r_getr 8 C (k := 0) shC_0 rfl hinX4 (by decide) rfl dX4_propose_5 rfl (by decide +kernel) ?_
  obtain ⟨g1, hg1, hf⟩ := ob hf
  refine r_Vv (As := [.ref (G.2.1 1)]) 11 C shC_25 rfl (c_X0_draft l G A 1 is_1 g _ hg1) (cwV 1 C.1.2.2.2.2 gX4_propose_X0_draft rfl rfl rfl hd_X0_draft ⟨Nat.le_of_ble_eq_true rfl, Nat.le_of_ble_eq_true rfl⟩) rfl rfl (Nat.le_of_ble_eq_true rfl) dX4_propose_8 rfl ?_
  refine r_aload_n 12 C 0 dX4_propose_11 rfl rfl ?_
  refine r_aload_n 13 C 0 dX4_propose_12 rfl rfl ?_
  refine r_getr 16 C (k := 0) shC_0 rfl hinX4 (by decide) rfl dX4_propose_13 rfl (by decide +kernel) ?_
  refine r_iload_n 17 C 1 dX4_propose_16 rfl rfl ?_
  refine r_iload_n 18 C 2 dX4_propose_17 rfl rfl ?_
  refine r_iload_n 19 C 3 dX4_propose_18 rfl rfl ?_
  obtain ⟨x2, g3, hx2, hf⟩ := ob2 hf
  refine r_Vi (As := [.int a1, .int a2, .int a3]) 22 C (st_0 is_1) rfl (c_X2_offerValue l G A 1 a1 a2 a3 is_1 g1 _ hx2) (cwV 3 C.1.2.2.2.2 gX4_propose_X2_offerValue rfl rfl rfl hd_X2_offerValue ⟨Nat.le_of_ble_eq_true rfl, Nat.le_of_ble_eq_true rfl⟩) rfl rfl (Nat.le_of_ble_eq_true rfl) dX4_propose_19 rfl ?_
  obtain ⟨x4, g5, hx4, hf⟩ := ob2 hf
  refine r_Vi (As := [.int x2]) 25 C shC_0 rfl (c_X4_settled l G A x2 g3 _ hx4) (cwV 1 C.1.2.2.2.2 gX4_propose_X4_settled rfl rfl rfl hd_X4_settled ⟨Nat.le_of_ble_eq_true rfl, Nat.le_of_ble_eq_true rfl⟩) rfl rfl (Nat.le_of_ble_eq_true rfl) dX4_propose_22 rfl ?_
  have hf := Option.some.inj hf
  subst hf
  exact r_iret C hr hk0 dX4_propose_25
theorem in_X4_vote_X4 : ∀ w ∈ wsX40, w ∈ wsX4_vote := by decide +kernel
def rm_X4_vote : Room := { frames := 4, cells := 0, slots := 0, locals := 103 }
theorem hd_X4_vote : yX4_vote.cls = RX4 ∧ yX4_vote.cls ≠ "java/lang/invoke/MethodHandle" ∧ yX4_vote.cls ≠ "java/lang/invoke/VarHandle" ∧ (parseMethodDescriptor yX4_vote.desc).map (fun d => d.parameters.length) = some 3 := by decide +kernel
set_option maxRecDepth 100000 in
set_option maxHeartbeats 4000000 in
theorem c_X4_vote (l : Launch) (G : GG) (A : Nat → Prop) (a1 : Int32) (a2 : Int32) (a3 : Int32)  (g : Mem) (res : Int32 × Mem) (hf : f_X4_vote a1 a2 a3 g = some res) : k_Mi l yX4_vote wsX4_vote rm_X4_vote G shC A [.ref (G.2.1 0), .int a1, .int a2, .int a3] g res.1 res.2 := by
  have hinX4 : ∀ w ∈ wsX40, w ∈ wsX4_vote := in_X4_vote_X4
  refine k_ofi (cc := cX4_vote) (nL := 4) (own := RX4) (by decide +kernel) rfl rfl (by simp [lg_sl, Value.category]) ⟨rfl, rfl⟩ [(0, .ref (G.2.1 0)), (1, .int a1), (2, .int a2), (3, .int a3)] rfl ?_
  intro p e s m args below meth c C hr hk0
  rw [f_X4_vote] at hf
  refine r_aload_n 1 C 0 dX4_vote_0 rfl rfl ?_
  refine r_getr 4 C (k := 3) shC_0 rfl hinX4 (by decide) rfl dX4_vote_1 rfl (by decide +kernel) ?_
  refine r_aload_n 5 C 0 dX4_vote_4 rfl rfl ?_
  refine r_getr 8 C (k := 0) shC_0 rfl hinX4 (by decide) rfl dX4_vote_5 rfl (by decide +kernel) ?_
  obtain ⟨g1, hg1, hf⟩ := ob hf
  refine r_Vv (As := [.ref (G.2.1 1)]) 11 C shC_25 rfl (c_X0_draft l G A 1 is_1 g _ hg1) (cwV 1 C.1.2.2.2.2 gX4_vote_X0_draft rfl rfl rfl hd_X0_draft ⟨Nat.le_of_ble_eq_true rfl, Nat.le_of_ble_eq_true rfl⟩) rfl rfl (Nat.le_of_ble_eq_true rfl) dX4_vote_8 rfl ?_
  refine r_aload_n 12 C 0 dX4_vote_11 rfl rfl ?_
  refine r_aload_n 13 C 0 dX4_vote_12 rfl rfl ?_
  refine r_getr 16 C (k := 0) shC_0 rfl hinX4 (by decide) rfl dX4_vote_13 rfl (by decide +kernel) ?_
  refine r_iload_n 17 C 1 dX4_vote_16 rfl rfl ?_
  refine r_iload_n 18 C 2 dX4_vote_17 rfl rfl ?_
  refine r_iload_n 19 C 3 dX4_vote_18 rfl rfl ?_
  obtain ⟨x2, g3, hx2, hf⟩ := ob2 hf
  refine r_Vi (As := [.int a1, .int a2, .int a3]) 22 C (st_0 is_1) rfl (c_X2_askVote l G A 1 a1 a2 a3 is_1 g1 _ hx2) (cwV 3 C.1.2.2.2.2 gX4_vote_X2_askVote rfl rfl rfl hd_X2_askVote ⟨Nat.le_of_ble_eq_true rfl, Nat.le_of_ble_eq_true rfl⟩) rfl rfl (Nat.le_of_ble_eq_true rfl) dX4_vote_19 rfl ?_
  obtain ⟨x4, g5, hx4, hf⟩ := ob2 hf
  refine r_Vi (As := [.int x2]) 25 C shC_0 rfl (c_X4_settled l G A x2 g3 _ hx4) (cwV 1 C.1.2.2.2.2 gX4_vote_X4_settled rfl rfl rfl hd_X4_settled ⟨Nat.le_of_ble_eq_true rfl, Nat.le_of_ble_eq_true rfl⟩) rfl rfl (Nat.le_of_ble_eq_true rfl) dX4_vote_22 rfl ?_
  have hf := Option.some.inj hf
  subst hf
  exact r_iret C hr hk0 dX4_vote_25
theorem in_X4_trim_X4 : ∀ w ∈ wsX40, w ∈ wsX4_trim := by decide +kernel
def rm_X4_trim : Room := { frames := 4, cells := 0, slots := 0, locals := 103 }
theorem hd_X4_trim : yX4_trim.cls = RX4 ∧ yX4_trim.cls ≠ "java/lang/invoke/MethodHandle" ∧ yX4_trim.cls ≠ "java/lang/invoke/VarHandle" ∧ (parseMethodDescriptor yX4_trim.desc).map (fun d => d.parameters.length) = some 1 := by decide +kernel
set_option maxRecDepth 100000 in
set_option maxHeartbeats 4000000 in
theorem c_X4_trim (l : Launch) (G : GG) (A : Nat → Prop) (a1 : Int32)  (g : Mem) (res : Int32 × Mem) (hf : f_X4_trim a1 g = some res) : k_Mi l yX4_trim wsX4_trim rm_X4_trim G shC A [.ref (G.2.1 0), .int a1] g res.1 res.2 := by
  have hinX4 : ∀ w ∈ wsX40, w ∈ wsX4_trim := in_X4_trim_X4
  refine k_ofi (cc := cX4_trim) (nL := 2) (own := RX4) (by decide +kernel) rfl rfl (by simp [lg_sl, Value.category]) ⟨rfl, rfl⟩ [(0, .ref (G.2.1 0)), (1, .int a1)] rfl ?_
  intro p e s m args below meth c C hr hk0
  rw [f_X4_trim] at hf
  refine r_aload_n 1 C 0 dX4_trim_0 rfl rfl ?_
  refine r_getr 4 C (k := 3) shC_0 rfl hinX4 (by decide) rfl dX4_trim_1 rfl (by decide +kernel) ?_
  refine r_aload_n 5 C 0 dX4_trim_4 rfl rfl ?_
  refine r_getr 8 C (k := 0) shC_0 rfl hinX4 (by decide) rfl dX4_trim_5 rfl (by decide +kernel) ?_
  obtain ⟨g1, hg1, hf⟩ := ob hf
  refine r_Vv (As := [.ref (G.2.1 1)]) 11 C shC_25 rfl (c_X0_draft l G A 1 is_1 g _ hg1) (cwV 1 C.1.2.2.2.2 gX4_trim_X0_draft rfl rfl rfl hd_X0_draft ⟨Nat.le_of_ble_eq_true rfl, Nat.le_of_ble_eq_true rfl⟩) rfl rfl (Nat.le_of_ble_eq_true rfl) dX4_trim_8 rfl ?_
  refine r_aload_n 12 C 0 dX4_trim_11 rfl rfl ?_
  refine r_aload_n 13 C 0 dX4_trim_12 rfl rfl ?_
  refine r_getr 16 C (k := 0) shC_0 rfl hinX4 (by decide) rfl dX4_trim_13 rfl (by decide +kernel) ?_
  refine r_iload_n 17 C 1 dX4_trim_16 rfl rfl ?_
  obtain ⟨x2, g3, hx2, hf⟩ := ob2 hf
  refine r_Vi (As := [.int a1]) 20 C (st_0 is_1) rfl (c_X2_forgetUpTo l G A 1 a1 is_1 g1 _ hx2) (cwV 1 C.1.2.2.2.2 gX4_trim_X2_forgetUpTo rfl rfl rfl hd_X2_forgetUpTo ⟨Nat.le_of_ble_eq_true rfl, Nat.le_of_ble_eq_true rfl⟩) rfl rfl (Nat.le_of_ble_eq_true rfl) dX4_trim_17 rfl ?_
  obtain ⟨x4, g5, hx4, hf⟩ := ob2 hf
  refine r_Vi (As := [.int x2]) 23 C shC_0 rfl (c_X4_settled l G A x2 g3 _ hx4) (cwV 1 C.1.2.2.2.2 gX4_trim_X4_settled rfl rfl rfl hd_X4_settled ⟨Nat.le_of_ble_eq_true rfl, Nat.le_of_ble_eq_true rfl⟩) rfl rfl (Nat.le_of_ble_eq_true rfl) dX4_trim_20 rfl ?_
  have hf := Option.some.inj hf
  subst hf
  exact r_iret C hr hk0 dX4_trim_23
theorem in_X4_type_X4 : ∀ w ∈ wsX40, w ∈ wsX4_type := by decide +kernel
def rm_X4_type : Room := { frames := 1, cells := 0, slots := 0, locals := 21 }
theorem hd_X4_type : yX4_type.cls = RX4 ∧ yX4_type.cls ≠ "java/lang/invoke/MethodHandle" ∧ yX4_type.cls ≠ "java/lang/invoke/VarHandle" ∧ (parseMethodDescriptor yX4_type.desc).map (fun d => d.parameters.length) = some 1 := by decide +kernel
set_option maxRecDepth 100000 in
set_option maxHeartbeats 4000000 in
theorem c_X4_type (l : Launch) (G : GG) (A : Nat → Prop) (a1 : Int32)  (g : Mem) (res : Int32 × Mem) (hf : f_X4_type a1 g = some res) : k_Mi l yX4_type wsX4_type rm_X4_type G shC A [.ref (G.2.1 0), .int a1] g res.1 res.2 := by
  have hinX4 : ∀ w ∈ wsX40, w ∈ wsX4_type := in_X4_type_X4
  refine k_ofi (cc := cX4_type) (nL := 2) (own := RX4) (by decide +kernel) rfl rfl (by simp [lg_sl, Value.category]) ⟨rfl, rfl⟩ [(0, .ref (G.2.1 0)), (1, .int a1)] rfl ?_
  intro p e s m args below meth c C hr hk0
  rw [f_X4_type] at hf
  refine r_aload_n 1 C 0 dX4_type_0 rfl rfl ?_
  refine r_getr 4 C (k := 4) shC_0 rfl hinX4 (by decide) rfl dX4_type_1 rfl (by decide +kernel) ?_
  refine r_iload_n 5 C 1 dX4_type_4 rfl rfl ?_
  obtain ⟨x1, g2, hx1, hf⟩ := ob2 hf
  refine r_Vi (As := [.int a1]) 8 C shC_87 rfl (c_X3_append l G A a1 g _ hx1) (cwV 1 C.1.2.2.2.2 gX4_type_X3_append rfl rfl rfl hd_X3_append ⟨Nat.le_of_ble_eq_true rfl, Nat.le_of_ble_eq_true rfl⟩) rfl rfl (Nat.le_of_ble_eq_true rfl) dX4_type_5 rfl ?_
  have hf := Option.some.inj hf
  subst hf
  exact r_iret C hr hk0 dX4_type_8
theorem in_X4_clearText_X4 : ∀ w ∈ wsX40, w ∈ wsX4_clearText := by decide +kernel
def rm_X4_clearText : Room := { frames := 1, cells := 0, slots := 0, locals := 21 }
theorem hd_X4_clearText : yX4_clearText.cls = RX4 ∧ yX4_clearText.cls ≠ "java/lang/invoke/MethodHandle" ∧ yX4_clearText.cls ≠ "java/lang/invoke/VarHandle" ∧ (parseMethodDescriptor yX4_clearText.desc).map (fun d => d.parameters.length) = some 0 := by decide +kernel
set_option maxRecDepth 100000 in
set_option maxHeartbeats 4000000 in
theorem c_X4_clearText (l : Launch) (G : GG) (A : Nat → Prop)   (g : Mem) (res : Int32 × Mem) (hf : f_X4_clearText  g = some res) : k_Mi l yX4_clearText wsX4_clearText rm_X4_clearText G shC A [.ref (G.2.1 0)] g res.1 res.2 := by
  have hinX4 : ∀ w ∈ wsX40, w ∈ wsX4_clearText := in_X4_clearText_X4
  refine k_ofi (cc := cX4_clearText) (nL := 1) (own := RX4) (by decide +kernel) rfl rfl (by simp [lg_sl, Value.category]) ⟨rfl, rfl⟩ [(0, .ref (G.2.1 0))] rfl ?_
  intro p e s m args below meth c C hr hk0
  rw [f_X4_clearText] at hf
  refine r_aload_n 1 C 0 dX4_clearText_0 rfl rfl ?_
  refine r_getr 4 C (k := 4) shC_0 rfl hinX4 (by decide) rfl dX4_clearText_1 rfl (by decide +kernel) ?_
  obtain ⟨x1, g2, hx1, hf⟩ := ob2 hf
  refine r_Vi (As := []) 7 C shC_87 rfl (c_X3_empty l G A g _ hx1) (cwV 0 C.1.2.2.2.2 gX4_clearText_X3_empty rfl rfl rfl hd_X3_empty ⟨Nat.le_of_ble_eq_true rfl, Nat.le_of_ble_eq_true rfl⟩) rfl rfl (Nat.le_of_ble_eq_true rfl) dX4_clearText_4 rfl ?_
  have hf := Option.some.inj hf
  subst hf
  exact r_iret C hr hk0 dX4_clearText_7
def rm_X4_isError : Room := { frames := 0, cells := 0, slots := 0, locals := 0 }
theorem hd_X4_isError : yX4_isError.cls ≠ "java/lang/invoke/MethodHandle" ∧ yX4_isError.cls ≠ "java/lang/invoke/VarHandle" ∧ (parseMethodDescriptor yX4_isError.desc).map (fun d => d.parameters.length) = some 1 := by decide +kernel
set_option maxRecDepth 100000 in
set_option maxHeartbeats 4000000 in
theorem c_X4_isError (l : Launch) (G : GG) (A : Nat → Prop) (a1 : Int32)  (g : Mem) (res : Bool) (hf : f_X4_isError a1 = res) : k_Mi l yX4_isError wsX4_isError rm_X4_isError G shC A [.int a1] g (bI res) g := by
  refine k_ofi (cc := cX4_isError) (nL := 1) (own := RX4) (by decide +kernel) rfl rfl (by simp [lg_sl, Value.category]) ⟨rfl, rfl⟩ [(0, .int a1)] rfl ?_
  intro p e s m args below meth c C hr hk0
  rw [f_X4_isError] at hf
  refine r_iload_n 1 C 0 dX4_isError_0 rfl rfl ?_
  refine r_if_ge 14 4 C dX4_isError_1 rfl rfl (fun c1 => ?_) (fun c1 => ?_)
  · have hf := oip c1 hf
    refine r_iconst (v := 0) 15 C dX4_isError_14 rfl (by decide) ?_
    subst hf
    exact r_zret C hr hk0 false rfl dX4_isError_15
  · have hf := oin c1 hf
    refine r_iload_n 5 C 0 dX4_isError_4 rfl rfl ?_
    refine r_bipush (v := (-5)) 7 C dX4_isError_5 rfl (by decide) ?_
    refine r_icmp_eq 14 10 C dX4_isError_7 rfl rfl (fun c2 => ?_) (fun c2 => ?_)
    · have hf := oip c2 hf
      refine r_iconst (v := 0) 15 C dX4_isError_14 rfl (by decide) ?_
      subst hf
      exact r_zret C hr hk0 false rfl dX4_isError_15
    · have hf := oin c2 hf
      refine r_iconst (v := 1) 11 C dX4_isError_10 rfl (by decide) ?_
      refine r_goto 15 C dX4_isError_11 rfl ?_
      subst hf
      exact r_zret C hr hk0 true rfl dX4_isError_15
theorem in_X4_noteRefusal_X4 : ∀ w ∈ wsX40, w ∈ wsX4_noteRefusal := by decide +kernel
def rm_X4_noteRefusal : Room := { frames := 1, cells := 0, slots := 0, locals := 21 }
theorem hd_X4_noteRefusal : yX4_noteRefusal.cls = RX4 ∧ yX4_noteRefusal.cls ≠ "java/lang/invoke/MethodHandle" ∧ yX4_noteRefusal.cls ≠ "java/lang/invoke/VarHandle" ∧ (parseMethodDescriptor yX4_noteRefusal.desc).map (fun d => d.parameters.length) = some 2 := by decide +kernel
set_option maxRecDepth 100000 in
set_option maxHeartbeats 4000000 in
theorem c_X4_noteRefusal (l : Launch) (G : GG) (A : Nat → Prop) (a1 : Int32) (a2 : Int32)  (g : Mem) (res : Mem) (hf : f_X4_noteRefusal a1 a2 g = some res) : k_Mv l yX4_noteRefusal wsX4_noteRefusal rm_X4_noteRefusal G shC A [.ref (G.2.1 0), .int a1, .int a2] g res := by
  have hinX4 : ∀ w ∈ wsX40, w ∈ wsX4_noteRefusal := in_X4_noteRefusal_X4
  refine k_ofv (cc := cX4_noteRefusal) (nL := 3) (own := RX4) (by decide +kernel) rfl rfl (by simp [lg_sl, Value.category]) ⟨rfl, rfl⟩ [(0, .ref (G.2.1 0)), (1, .int a1), (2, .int a2)] rfl ?_
  intro p e s m args below meth c C hr hk0
  rw [f_X4_noteRefusal] at hf
  refine r_aload_n 1 C 0 dX4_noteRefusal_0 rfl rfl ?_
  refine r_iconst (v := 1) 2 C dX4_noteRefusal_1 rfl (by decide) ?_
  obtain ⟨g1, hg1, hf⟩ := ol hf
  refine r_puti 5 C (k := 6) (ty := .boolean) tyX4 tyX4_ok nmX4 shC_0 rfl hinX4 (by decide) rfl rfl (by decide +kernel) rfl rfl hg1 dX4_noteRefusal_2 rfl (by decide +kernel) ?_
  refine r_aload_n 6 C 0 dX4_noteRefusal_5 rfl rfl ?_
  refine r_iload_n 7 C 1 dX4_noteRefusal_6 rfl rfl ?_
  obtain ⟨g2, hg2, hf⟩ := ol hf
  refine r_puti 10 C (k := 7) (ty := .int) tyX4 tyX4_ok nmX4 shC_0 rfl hinX4 (by decide) rfl rfl (by decide +kernel) rfl rfl hg2 dX4_noteRefusal_7 rfl (by decide +kernel) ?_
  refine r_aload_n 11 C 0 dX4_noteRefusal_10 rfl rfl ?_
  refine r_iload_n 12 C 2 dX4_noteRefusal_11 rfl rfl ?_
  obtain ⟨g3, hg3, hf⟩ := ol hf
  refine r_puti 15 C (k := 8) (ty := .int) tyX4 tyX4_ok nmX4 shC_0 rfl hinX4 (by decide) rfl rfl (by decide +kernel) rfl rfl hg3 dX4_noteRefusal_12 rfl (by decide +kernel) ?_
  refine r_aload_n 16 C 0 dX4_noteRefusal_15 rfl rfl ?_
  refine r_aload_n 17 C 0 dX4_noteRefusal_16 rfl rfl ?_
  refine r_getr 20 C (k := 5) shC_0 rfl hinX4 (by decide) rfl dX4_noteRefusal_17 rfl (by decide +kernel) ?_
  refine r_iload_n 21 C 1 dX4_noteRefusal_20 rfl rfl ?_
  obtain ⟨x4, hx4, hf⟩ := ob hf
  refine r_Vi (As := [.int a1]) 24 C shC_89 rfl (c_X1_placeOf l G A a1 g3 _ hx4) (cwV 1 C.1.2.2.2.2 gX4_noteRefusal_X1_placeOf rfl rfl rfl hd_X1_placeOf ⟨Nat.le_of_ble_eq_true rfl, Nat.le_of_ble_eq_true rfl⟩) rfl rfl (Nat.le_of_ble_eq_true rfl) dX4_noteRefusal_21 rfl ?_
  obtain ⟨g5, hg5, hf⟩ := ol hf
  refine r_puti 27 C (k := 9) (ty := .int) tyX4 tyX4_ok nmX4 shC_0 rfl hinX4 (by decide) rfl rfl (by decide +kernel) rfl rfl hg5 dX4_noteRefusal_24 rfl (by decide +kernel) ?_
  have hf := Option.some.inj hf
  subst hf
  exact r_vret C hr hk0 dX4_noteRefusal_27
theorem in_X4_perform_X1 : ∀ w ∈ wsX10, w ∈ wsX4_perform := by decide +kernel
theorem in_X4_perform_X4 : ∀ w ∈ wsX40, w ∈ wsX4_perform := by decide +kernel
def rm_X4_perform : Room := { frames := 7, cells := 0, slots := 0, locals := 187 }
theorem hd_X4_perform : yX4_perform.cls = RX4 ∧ yX4_perform.cls ≠ "java/lang/invoke/MethodHandle" ∧ yX4_perform.cls ≠ "java/lang/invoke/VarHandle" ∧ (parseMethodDescriptor yX4_perform.desc).map (fun d => d.parameters.length) = some 0 := by decide +kernel
set_option maxRecDepth 100000 in
set_option maxHeartbeats 4000000 in
theorem t_X4_perform_L35 {p : Program} {l : Launch} {e : Env} {s : State} {m : MethodId} {args : Array Value} {below : List Frame} {meth : Method} {c : Code} {G : GG} {A : Nat → Prop} (C : KX p s m args c cX4_perform 4 RX4 wsX4_perform G shC A) (hr : meth.sig.returnType = (some .int)) (hk0 : meth.locks = false)  {res : Int32 × Mem} {k : Mem → Option (Int32 × Mem)} (hk : ∀ (g : Mem), k g = some res → JJ p l e rm_X4_perform s m args below meth c 4 G shC A (MQ below (k_Qi G shC A res.1 res.2) args s 0 0 A) 92 [(0, .ref (G.2.1 0))] [] g) : ∀ (n : Nat) (v2 : Int32) (g : Mem), f_X4_perform_L35 k n v2 g = some res → JJ p l e rm_X4_perform s m args below meth c 4 G shC A (MQ below (k_Qi G shC A res.1 res.2) args s 0 0 A) 35 [(0, .ref (G.2.1 0)), (2, .int v2)] [] g := by
  have hinX1 : ∀ w ∈ wsX10, w ∈ wsX4_perform := in_X4_perform_X1
  have hinX4 : ∀ w ∈ wsX40, w ∈ wsX4_perform := in_X4_perform_X4
  intro n
  induction n with
  | zero =>
    intro v2 g hf
    rw [f_X4_perform_L35] at hf
    cases hf
  | succ n ih =>
    intro v2 g hf
    rw [f_X4_perform_L35] at hf
    refine r_iload_n 36 C 1 dX4_perform_35 rfl rfl ?_
    refine r_aload_n 37 C 0 dX4_perform_36 rfl rfl ?_
    refine r_getr 40 C (k := 5) shC_0 rfl hinX4 (by decide) rfl dX4_perform_37 rfl (by decide +kernel) ?_
    refine r_geti 43 C (k := 5) shC_89 rfl hinX1 (by decide) rfl dX4_perform_40 rfl (by decide +kernel) ?_
    refine r_icmp_ge 92 46 C dX4_perform_43 rfl rfl (fun c5 => ?_) (fun c5 => ?_)
    · have hf := oip c5 hf
      refine r_sub [(0, .ref (G.2.1 0))] [0] rfl ?_
      exact hk  _ hf
    · have hf := oin c5 hf
      refine r_aload_n 47 C 0 dX4_perform_46 rfl rfl ?_
      refine r_getr 50 C (k := 5) shC_0 rfl hinX4 (by decide) rfl dX4_perform_47 rfl (by decide +kernel) ?_
      refine r_iload_n 51 C 1 dX4_perform_50 rfl rfl ?_
      refine r_aload_n 52 C 0 dX4_perform_51 rfl rfl ?_
      refine r_getr 55 C (k := 0) shC_0 rfl hinX4 (by decide) rfl dX4_perform_52 rfl (by decide +kernel) ?_
      obtain ⟨x6, g7, hx6, hf⟩ := ob2 hf
      refine r_Vi (As := [.int v2, .ref (G.2.1 1)]) 58 C shC_89 rfl (c_X1_carryOut l G A v2 1 is_1 g _ hx6) (cwV 2 C.1.2.2.2.2 gX4_perform_X1_carryOut rfl rfl rfl hd_X1_carryOut ⟨Nat.le_of_ble_eq_true rfl, Nat.le_of_ble_eq_true rfl⟩) rfl rfl (Nat.le_of_ble_eq_true rfl) dX4_perform_55 rfl ?_
      refine r_istore_n 59 C [(3, .int x6), (0, .ref (G.2.1 0)), (2, .int v2)] dX4_perform_58 rfl rfl (by decide) rfl ?_
      refine r_iload_n 60 C 0 dX4_perform_59 rfl rfl ?_
      refine r_Si (As := [.int x6]) 63 C (c_X4_isError l G A x6 g7 _ rfl) (va_cwS 1 C.1.2.2.2.2 gX4_perform_X4_isError rfl rfl rfl hd_X4_isError ⟨Nat.le_of_ble_eq_true rfl, Nat.le_of_ble_eq_true rfl⟩) rfl rfl (Nat.le_of_ble_eq_true rfl) dX4_perform_60 rfl ?_
      refine r_if_eq 86 66 C dX4_perform_63 rfl rfl (fun c8 => ?_) (fun c8 => ?_)
      · have hf := obf c8 hf
        obtain ⟨x9, hx9, hf⟩ := ol hf
        refine r_iinc 89 C 2 x9 [(2, .int x9), (3, .int x6), (0, .ref (G.2.1 0))] dX4_perform_86 rfl rfl hx9.symm (by decide) rfl ?_
        refine r_goto 35 C dX4_perform_89 rfl ?_
        refine r_sub [(0, .ref (G.2.1 0)), (2, .int x9)] [2, 0] rfl ?_
        exact ih _ _ hf
      · have hf := obt c8 hf
        refine r_aload_n 67 C 1 dX4_perform_66 rfl rfl ?_
        refine r_iload_n 68 C 2 dX4_perform_67 rfl rfl ?_
        refine r_iload_n 69 C 0 dX4_perform_68 rfl rfl ?_
        obtain ⟨g10, hg10, hf⟩ := ob hf
        refine r_Vv (As := [.int v2, .int x6]) 72 C shC_0 rfl (c_X4_noteRefusal l G A v2 x6 g7 _ hg10) (cwV 2 C.1.2.2.2.2 gX4_perform_X4_noteRefusal rfl rfl rfl hd_X4_noteRefusal ⟨Nat.le_of_ble_eq_true rfl, Nat.le_of_ble_eq_true rfl⟩) rfl rfl (Nat.le_of_ble_eq_true rfl) dX4_perform_69 rfl ?_
        refine r_aload_n 73 C 1 dX4_perform_72 rfl rfl ?_
        refine r_getr 76 C (k := 3) shC_0 rfl hinX4 (by decide) rfl dX4_perform_73 rfl (by decide +kernel) ?_
        refine r_aload_n 77 C 1 dX4_perform_76 rfl rfl ?_
        refine r_getr 80 C (k := 0) shC_0 rfl hinX4 (by decide) rfl dX4_perform_77 rfl (by decide +kernel) ?_
        obtain ⟨g11, hg11, hf⟩ := ob hf
        refine r_Vv (As := [.ref (G.2.1 1)]) 83 C shC_25 rfl (c_X0_bringBackDraft l G A 1 is_1 g10 _ hg11) (cwV 1 C.1.2.2.2.2 gX4_perform_X0_bringBackDraft rfl rfl rfl hd_X0_bringBackDraft ⟨Nat.le_of_ble_eq_true rfl, Nat.le_of_ble_eq_true rfl⟩) rfl rfl (Nat.le_of_ble_eq_true rfl) dX4_perform_80 rfl ?_
        refine r_bipush (v := (-4)) 85 C dX4_perform_83 rfl (by decide) ?_
        have hf := Option.some.inj hf
        subst hf
        exact r_iret C hr hk0 dX4_perform_85
set_option maxRecDepth 100000 in
set_option maxHeartbeats 4000000 in
theorem c_X4_perform (l : Launch) (G : GG) (A : Nat → Prop)   (g : Mem) (res : Int32 × Mem) (hf : f_X4_perform  g = some res) : k_Mi l yX4_perform wsX4_perform rm_X4_perform G shC A [.ref (G.2.1 0)] g res.1 res.2 := by
  have hinX1 : ∀ w ∈ wsX10, w ∈ wsX4_perform := in_X4_perform_X1
  have hinX4 : ∀ w ∈ wsX40, w ∈ wsX4_perform := in_X4_perform_X4
  refine k_ofi (cc := cX4_perform) (nL := 4) (own := RX4) (by decide +kernel) rfl rfl (by simp [lg_sl, Value.category]) ⟨rfl, rfl⟩ [(0, .ref (G.2.1 0))] rfl ?_
  intro p e s m args below meth c C hr hk0
  rw [f_X4_perform] at hf
  refine r_aload_n 1 C 0 dX4_perform_0 rfl rfl ?_
  refine r_getr 4 C (k := 5) shC_0 rfl hinX4 (by decide) rfl dX4_perform_1 rfl (by decide +kernel) ?_
  refine r_aload_n 5 C 0 dX4_perform_4 rfl rfl ?_
  refine r_getr 8 C (k := 4) shC_0 rfl hinX4 (by decide) rfl dX4_perform_5 rfl (by decide +kernel) ?_
  obtain ⟨x1, g2, hx1, hf⟩ := ob2 hf
  refine r_Vi (As := [.ref (G.2.1 87)]) 11 C shC_89 rfl (c_X1_read l G A g _ hx1) (cwV 1 C.1.2.2.2.2 gX4_perform_X1_read rfl rfl rfl hd_X1_read ⟨Nat.le_of_ble_eq_true rfl, Nat.le_of_ble_eq_true rfl⟩) rfl rfl (Nat.le_of_ble_eq_true rfl) dX4_perform_8 rfl ?_
  refine r_istore_n 12 C [(1, .int x1), (0, .ref (G.2.1 0))] dX4_perform_11 rfl rfl (by decide) rfl ?_
  refine r_iload_n 13 C 0 dX4_perform_12 rfl rfl ?_
  refine r_iconst (v := (-1)) 14 C dX4_perform_13 rfl (by decide) ?_
  refine r_icmp_eq 22 17 C dX4_perform_14 rfl rfl (fun c3 => ?_) (fun c3 => ?_)
  · have hf := oip c3 hf
    refine r_aload_n 23 C 1 dX4_perform_22 rfl rfl ?_
    refine r_getr 26 C (k := 3) shC_0 rfl hinX4 (by decide) rfl dX4_perform_23 rfl (by decide +kernel) ?_
    refine r_aload_n 27 C 1 dX4_perform_26 rfl rfl ?_
    refine r_getr 30 C (k := 0) shC_0 rfl hinX4 (by decide) rfl dX4_perform_27 rfl (by decide +kernel) ?_
    obtain ⟨g4, hg4, hf⟩ := ob hf
    refine r_Vv (As := [.ref (G.2.1 1)]) 33 C shC_25 rfl (c_X0_draft l G A 1 is_1 g2 _ hg4) (cwV 1 C.1.2.2.2.2 gX4_perform_X0_draft rfl rfl rfl hd_X0_draft ⟨Nat.le_of_ble_eq_true rfl, Nat.le_of_ble_eq_true rfl⟩) rfl rfl (Nat.le_of_ble_eq_true rfl) dX4_perform_30 rfl ?_
    refine r_iconst (v := 0) 34 C dX4_perform_33 rfl (by decide) ?_
    refine r_istore_n 35 C [(2, .int 0), (1, .int x1), (0, .ref (G.2.1 0))] dX4_perform_34 rfl rfl (by decide) rfl ?_
    refine r_sub [(0, .ref (G.2.1 0)), (2, .int 0)] [2, 0] rfl ?_
    refine t_X4_perform_L35 C hr hk0 (fun g12 hf => ?_) fuel0 _ _ hf
    refine r_aload_n 93 C 0 dX4_perform_92 rfl rfl ?_
    refine r_getr 96 C (k := 3) shC_0 rfl hinX4 (by decide) rfl dX4_perform_93 rfl (by decide +kernel) ?_
    obtain ⟨g13, hg13, hf⟩ := ob hf
    refine r_Vv (As := []) 99 C shC_25 rfl (c_X0_commit l G A g12 _ hg13) (cwV 0 C.1.2.2.2.2 gX4_perform_X0_commit rfl rfl rfl hd_X0_commit ⟨Nat.le_of_ble_eq_true rfl, Nat.le_of_ble_eq_true rfl⟩) rfl rfl (Nat.le_of_ble_eq_true rfl) dX4_perform_96 rfl ?_
    refine r_aload_n 100 C 0 dX4_perform_99 rfl rfl ?_
    refine r_getr 103 C (k := 5) shC_0 rfl hinX4 (by decide) rfl dX4_perform_100 rfl (by decide +kernel) ?_
    refine r_geti 106 C (k := 5) shC_89 rfl hinX1 (by decide) rfl dX4_perform_103 rfl (by decide +kernel) ?_
    have hf := Option.some.inj hf
    subst hf
    exact r_iret C hr hk0 dX4_perform_106
  · have hf := oin c3 hf
    refine r_bipush (v := (-100)) 19 C dX4_perform_17 rfl (by decide) ?_
    refine r_iload_n 20 C 0 dX4_perform_19 rfl rfl ?_
    refine r_isub 21 C dX4_perform_20 rfl ?_
    have hf := Option.some.inj hf
    subst hf
    exact r_iret C hr hk0 dX4_perform_21
theorem in_X4_refusal_X4 : ∀ w ∈ wsX40, w ∈ wsX4_refusal := by decide +kernel
def rm_X4_refusal : Room := { frames := 0, cells := 0, slots := 0, locals := 0 }
theorem hd_X4_refusal : yX4_refusal.cls = RX4 ∧ yX4_refusal.cls ≠ "java/lang/invoke/MethodHandle" ∧ yX4_refusal.cls ≠ "java/lang/invoke/VarHandle" ∧ (parseMethodDescriptor yX4_refusal.desc).map (fun d => d.parameters.length) = some 1 := by decide +kernel
set_option maxRecDepth 100000 in
set_option maxHeartbeats 4000000 in
theorem c_X4_refusal (l : Launch) (G : GG) (A : Nat → Prop) (a1 : Int32)  (g : Mem) (res : Int32) (hf : f_X4_refusal a1 g = res) : k_Mi l yX4_refusal wsX4_refusal rm_X4_refusal G shC A [.ref (G.2.1 0), .int a1] g res g := by
  have hinX4 : ∀ w ∈ wsX40, w ∈ wsX4_refusal := in_X4_refusal_X4
  refine k_ofi (cc := cX4_refusal) (nL := 2) (own := RX4) (by decide +kernel) rfl rfl (by simp [lg_sl, Value.category]) ⟨rfl, rfl⟩ [(0, .ref (G.2.1 0)), (1, .int a1)] rfl ?_
  intro p e s m args below meth c C hr hk0
  rw [f_X4_refusal] at hf
  refine r_iload_n 1 C 1 dX4_refusal_0 rfl rfl ?_
  refine r_if_lt 9 4 C dX4_refusal_1 rfl rfl (fun c1 => ?_) (fun c1 => ?_)
  · have hf := oip c1 hf
    refine r_bipush (v := (-2)) 11 C dX4_refusal_9 rfl (by decide) ?_
    subst hf
    exact r_iret C hr hk0 dX4_refusal_11
  · have hf := oin c1 hf
    refine r_iload_n 5 C 1 dX4_refusal_4 rfl rfl ?_
    refine r_iconst (v := 2) 6 C dX4_refusal_5 rfl (by decide) ?_
    refine r_icmp_le 12 9 C dX4_refusal_6 rfl rfl (fun c2 => ?_) (fun c2 => ?_)
    · have hf := oip c2 hf
      refine r_aload_n 13 C 0 dX4_refusal_12 rfl rfl ?_
      refine r_geti 16 C (k := 6) shC_0 rfl hinX4 (by decide) rfl dX4_refusal_13 rfl (by decide +kernel) ?_
      refine r_if_ne 22 19 C dX4_refusal_16 rfl rfl (fun c3 => ?_) (fun c3 => ?_)
      · have hf := oin c3 hf
        refine r_iload_n 23 C 1 dX4_refusal_22 rfl rfl ?_
        by_cases c4 : a1 = 0
        · have hf := oip c4 hf
          refine r_lookup 48 C (off := 25) dX4_refusal_23 (by decide) (by rw [c4]; rfl) rfl ?_
          refine r_aload_n 49 C 0 dX4_refusal_48 rfl rfl ?_
          refine r_geti 52 C (k := 7) shC_0 rfl hinX4 (by decide) rfl dX4_refusal_49 rfl (by decide +kernel) ?_
          subst hf
          exact r_iret C hr hk0 dX4_refusal_52
        have hf := oin c4 hf
        by_cases c5 : a1 = 1
        · have hf := oip c5 hf
          refine r_lookup 53 C (off := 30) dX4_refusal_23 (by decide) (by rw [c5]; rfl) rfl ?_
          refine r_aload_n 54 C 0 dX4_refusal_53 rfl rfl ?_
          refine r_geti 57 C (k := 8) shC_0 rfl hinX4 (by decide) rfl dX4_refusal_54 rfl (by decide +kernel) ?_
          subst hf
          exact r_iret C hr hk0 dX4_refusal_57
        have hf := oin c5 hf
        refine r_lookup 58 C (off := 35) dX4_refusal_23 (by decide) (by
          simp only [Op.lookupswitch.offset_cons, Op.lookupswitch.offset_nil]
          rw [if_neg (ne_i c4 (by decide))]
          rw [if_neg (ne_i c5 (by decide))]) rfl ?_
        refine r_aload_n 59 C 0 dX4_refusal_58 rfl rfl ?_
        refine r_geti 62 C (k := 9) shC_0 rfl hinX4 (by decide) rfl dX4_refusal_59 rfl (by decide +kernel) ?_
        subst hf
        exact r_iret C hr hk0 dX4_refusal_62
      · have hf := oip c3 hf
        refine r_bipush (v := (-5)) 21 C dX4_refusal_19 rfl (by decide) ?_
        subst hf
        exact r_iret C hr hk0 dX4_refusal_21
    · have hf := oin c2 hf
      refine r_bipush (v := (-2)) 11 C dX4_refusal_9 rfl (by decide) ?_
      subst hf
      exact r_iret C hr hk0 dX4_refusal_11
theorem in_X4_undo_X4 : ∀ w ∈ wsX40, w ∈ wsX4_undo := by decide +kernel
def rm_X4_undo : Room := { frames := 4, cells := 0, slots := 0, locals := 103 }
theorem hd_X4_undo : yX4_undo.cls = RX4 ∧ yX4_undo.cls ≠ "java/lang/invoke/MethodHandle" ∧ yX4_undo.cls ≠ "java/lang/invoke/VarHandle" ∧ (parseMethodDescriptor yX4_undo.desc).map (fun d => d.parameters.length) = some 0 := by decide +kernel
set_option maxRecDepth 100000 in
set_option maxHeartbeats 4000000 in
theorem c_X4_undo (l : Launch) (G : GG) (A : Nat → Prop)   (g : Mem) (res : Int32 × Mem) (hf : f_X4_undo  g = some res) : k_Mi l yX4_undo wsX4_undo rm_X4_undo G shC A [.ref (G.2.1 0)] g res.1 res.2 := by
  have hinX4 : ∀ w ∈ wsX40, w ∈ wsX4_undo := in_X4_undo_X4
  refine k_ofi (cc := cX4_undo) (nL := 1) (own := RX4) (by decide +kernel) rfl rfl (by simp [lg_sl, Value.category]) ⟨rfl, rfl⟩ [(0, .ref (G.2.1 0))] rfl ?_
  intro p e s m args below meth c C hr hk0
  rw [f_X4_undo] at hf
  refine r_aload_n 1 C 0 dX4_undo_0 rfl rfl ?_
  refine r_getr 4 C (k := 3) shC_0 rfl hinX4 (by decide) rfl dX4_undo_1 rfl (by decide +kernel) ?_
  refine r_aload_n 5 C 0 dX4_undo_4 rfl rfl ?_
  refine r_getr 8 C (k := 0) shC_0 rfl hinX4 (by decide) rfl dX4_undo_5 rfl (by decide +kernel) ?_
  obtain ⟨x1, g2, hx1, hf⟩ := ob2 hf
  refine r_Vi (As := [.ref (G.2.1 1)]) 11 C shC_25 rfl (c_X0_bringBackLatest l G A 1 is_1 g _ hx1) (cwV 1 C.1.2.2.2.2 gX4_undo_X0_bringBackLatest rfl rfl rfl hd_X0_bringBackLatest ⟨Nat.le_of_ble_eq_true rfl, Nat.le_of_ble_eq_true rfl⟩) rfl rfl (Nat.le_of_ble_eq_true rfl) dX4_undo_8 rfl ?_
  have hf := Option.some.inj hf
  subst hf
  exact r_iret C hr hk0 dX4_undo_11
theorem in_X4_restore_X4 : ∀ w ∈ wsX40, w ∈ wsX4_restore := by decide +kernel
def rm_X4_restore : Room := { frames := 4, cells := 0, slots := 0, locals := 103 }
theorem hd_X4_restore : yX4_restore.cls = RX4 ∧ yX4_restore.cls ≠ "java/lang/invoke/MethodHandle" ∧ yX4_restore.cls ≠ "java/lang/invoke/VarHandle" ∧ (parseMethodDescriptor yX4_restore.desc).map (fun d => d.parameters.length) = some 0 := by decide +kernel
set_option maxRecDepth 100000 in
set_option maxHeartbeats 4000000 in
theorem c_X4_restore (l : Launch) (G : GG) (A : Nat → Prop)   (g : Mem) (res : Int32 × Mem) (hf : f_X4_restore  g = some res) : k_Mi l yX4_restore wsX4_restore rm_X4_restore G shC A [.ref (G.2.1 0)] g res.1 res.2 := by
  have hinX4 : ∀ w ∈ wsX40, w ∈ wsX4_restore := in_X4_restore_X4
  refine k_ofi (cc := cX4_restore) (nL := 1) (own := RX4) (by decide +kernel) rfl rfl (by simp [lg_sl, Value.category]) ⟨rfl, rfl⟩ [(0, .ref (G.2.1 0))] rfl ?_
  intro p e s m args below meth c C hr hk0
  rw [f_X4_restore] at hf
  refine r_aload_n 1 C 0 dX4_restore_0 rfl rfl ?_
  refine r_geti 4 C (k := 2) shC_0 rfl hinX4 (by decide) rfl dX4_restore_1 rfl (by decide +kernel) ?_
  refine r_if_ne 10 7 C dX4_restore_4 rfl rfl (fun c1 => ?_) (fun c1 => ?_)
  · have hf := oin c1 hf
    refine r_aload_n 11 C 0 dX4_restore_10 rfl rfl ?_
    refine r_getr 14 C (k := 3) shC_0 rfl hinX4 (by decide) rfl dX4_restore_11 rfl (by decide +kernel) ?_
    refine r_aload_n 15 C 0 dX4_restore_14 rfl rfl ?_
    refine r_getr 18 C (k := 0) shC_0 rfl hinX4 (by decide) rfl dX4_restore_15 rfl (by decide +kernel) ?_
    obtain ⟨g2, hg2, hf⟩ := ob hf
    refine r_Vv (As := [.ref (G.2.1 1)]) 21 C shC_25 rfl (c_X0_draft l G A 1 is_1 g _ hg2) (cwV 1 C.1.2.2.2.2 gX4_restore_X0_draft rfl rfl rfl hd_X0_draft ⟨Nat.le_of_ble_eq_true rfl, Nat.le_of_ble_eq_true rfl⟩) rfl rfl (Nat.le_of_ble_eq_true rfl) dX4_restore_18 rfl ?_
    refine r_aload_n 22 C 0 dX4_restore_21 rfl rfl ?_
    refine r_getr 25 C (k := 0) shC_0 rfl hinX4 (by decide) rfl dX4_restore_22 rfl (by decide +kernel) ?_
    refine r_aload_n 26 C 0 dX4_restore_25 rfl rfl ?_
    refine r_getr 29 C (k := 1) shC_0 rfl hinX4 (by decide) rfl dX4_restore_26 rfl (by decide +kernel) ?_
    obtain ⟨g3, hg3, hf⟩ := ob hf
    refine r_Vv (As := [.ref (G.2.1 13)]) 32 C (st_0 is_1) rfl (c_X2_copy l G A 1 13 is_1 is_13 g2 _ hg3) (cwV 1 C.1.2.2.2.2 gX4_restore_X2_copy rfl rfl rfl hd_X2_copy ⟨Nat.le_of_ble_eq_true rfl, Nat.le_of_ble_eq_true rfl⟩) rfl rfl (Nat.le_of_ble_eq_true rfl) dX4_restore_29 rfl ?_
    refine r_aload_n 33 C 0 dX4_restore_32 rfl rfl ?_
    refine r_aload_n 34 C 0 dX4_restore_33 rfl rfl ?_
    refine r_getr 37 C (k := 0) shC_0 rfl hinX4 (by decide) rfl dX4_restore_34 rfl (by decide +kernel) ?_
    obtain ⟨x4, hx4, hf⟩ := ob hf
    refine r_Vi (As := []) 40 C (st_0 is_1) rfl (c_X2_prefix l G A 1 is_1 g3 _ hx4) (cwV 0 C.1.2.2.2.2 gX4_restore_X2_prefix rfl rfl rfl hd_X2_prefix ⟨Nat.le_of_ble_eq_true rfl, Nat.le_of_ble_eq_true rfl⟩) rfl rfl (Nat.le_of_ble_eq_true rfl) dX4_restore_37 rfl ?_
    obtain ⟨x5, g6, hx5, hf⟩ := ob2 hf
    refine r_Vi (As := [.int x4]) 43 C shC_0 rfl (c_X4_settled l G A x4 g3 _ hx5) (cwV 1 C.1.2.2.2.2 gX4_restore_X4_settled rfl rfl rfl hd_X4_settled ⟨Nat.le_of_ble_eq_true rfl, Nat.le_of_ble_eq_true rfl⟩) rfl rfl (Nat.le_of_ble_eq_true rfl) dX4_restore_40 rfl ?_
    have hf := Option.some.inj hf
    subst hf
    exact r_iret C hr hk0 dX4_restore_43
  · have hf := oip c1 hf
    refine r_bipush (v := (-5)) 9 C dX4_restore_7 rfl (by decide) ?_
    have hf := Option.some.inj hf
    subst hf
    exact r_iret C hr hk0 dX4_restore_9
theorem in_X4_acceptor_X2 : ∀ w ∈ wsX20, w ∈ wsX4_acceptor := by decide +kernel
theorem in_X4_acceptor_X4 : ∀ w ∈ wsX40, w ∈ wsX4_acceptor := by decide +kernel
def rm_X4_acceptor : Room := { frames := 2, cells := 0, slots := 0, locals := 45 }
theorem hd_X4_acceptor : yX4_acceptor.cls = RX4 ∧ yX4_acceptor.cls ≠ "java/lang/invoke/MethodHandle" ∧ yX4_acceptor.cls ≠ "java/lang/invoke/VarHandle" ∧ (parseMethodDescriptor yX4_acceptor.desc).map (fun d => d.parameters.length) = some 2 := by decide +kernel
set_option maxRecDepth 100000 in
set_option maxHeartbeats 4000000 in
theorem c_X4_acceptor (l : Launch) (G : GG) (A : Nat → Prop) (a1 : Int32) (a2 : Int32)  (g : Mem) (res : Int32) (hf : f_X4_acceptor a1 a2 g = some res) : k_Mi l yX4_acceptor wsX4_acceptor rm_X4_acceptor G shC A [.ref (G.2.1 0), .int a1, .int a2] g res g := by
  have hinX2 : ∀ w ∈ wsX20, w ∈ wsX4_acceptor := in_X4_acceptor_X2
  have hinX4 : ∀ w ∈ wsX40, w ∈ wsX4_acceptor := in_X4_acceptor_X4
  refine k_ofi (cc := cX4_acceptor) (nL := 3) (own := RX4) (by decide +kernel) rfl rfl (by simp [lg_sl, Value.category]) ⟨rfl, rfl⟩ [(0, .ref (G.2.1 0)), (1, .int a1), (2, .int a2)] rfl ?_
  intro p e s m args below meth c C hr hk0
  rw [f_X4_acceptor] at hf
  refine r_iload_n 1 C 1 dX4_acceptor_0 rfl rfl ?_
  refine r_Si (As := [.int a1]) 4 C (c_X4_isAcceptor l G A a1 g _ rfl) (va_cwS 1 C.1.2.2.2.2 gX4_acceptor_X4_isAcceptor rfl rfl rfl hd_X4_isAcceptor ⟨Nat.le_of_ble_eq_true rfl, Nat.le_of_ble_eq_true rfl⟩) rfl rfl (Nat.le_of_ble_eq_true rfl) dX4_acceptor_1 rfl ?_
  refine r_if_ne 9 7 C dX4_acceptor_4 rfl rfl (fun c1 => ?_) (fun c1 => ?_)
  · have hf := obt c1 hf
    refine r_iload_n 10 C 2 dX4_acceptor_9 rfl rfl ?_
    by_cases c3 : a2 = 0
    · have hf := oip c3 hf
      refine r_tabIn 36 C (off := 26) dX4_acceptor_10 (by rw [c3]; decide) (by rw [c3]; decide) (by rw [c3]; rfl) rfl ?_
      refine r_aload_n 37 C 0 dX4_acceptor_36 rfl rfl ?_
      refine r_getr 40 C (k := 0) shC_0 rfl hinX4 (by decide) rfl dX4_acceptor_37 rfl (by decide +kernel) ?_
      refine r_geti 43 C (k := 0) (st_0 is_1) rfl hinX2 (by decide) rfl dX4_acceptor_40 rfl (by decide +kernel) ?_
      refine r_iload_n 44 C 1 dX4_acceptor_43 rfl rfl ?_
      refine r_Si (As := [.int (g 1 0), .int a1]) 47 C (c_X4_has l G A (g 1 0) a1 g _ rfl) (va_cwS 2 C.1.2.2.2.2 gX4_acceptor_X4_has rfl rfl rfl hd_X4_has ⟨Nat.le_of_ble_eq_true rfl, Nat.le_of_ble_eq_true rfl⟩) rfl rfl (Nat.le_of_ble_eq_true rfl) dX4_acceptor_44 rfl ?_
      refine r_if_eq 54 50 C dX4_acceptor_47 rfl rfl (fun c2 => ?_) (fun c2 => ?_)
      · have hf := obf c2 hf
        refine r_iconst (v := 0) 55 C dX4_acceptor_54 rfl (by decide) ?_
        have hf := Option.some.inj hf
        subst hf
        exact r_iret C hr hk0 dX4_acceptor_55
      · have hf := obt c2 hf
        refine r_iconst (v := 1) 51 C dX4_acceptor_50 rfl (by decide) ?_
        refine r_goto 55 C dX4_acceptor_51 rfl ?_
        have hf := Option.some.inj hf
        subst hf
        exact r_iret C hr hk0 dX4_acceptor_55
    have hf := oin c3 hf
    by_cases c5 : a2 = 1
    · have hf := oip c5 hf
      refine r_tabIn 56 C (off := 46) dX4_acceptor_10 (by rw [c5]; decide) (by rw [c5]; decide) (by rw [c5]; rfl) rfl ?_
      refine r_aload_n 57 C 0 dX4_acceptor_56 rfl rfl ?_
      refine r_getr 60 C (k := 0) shC_0 rfl hinX4 (by decide) rfl dX4_acceptor_57 rfl (by decide +kernel) ?_
      refine r_getr 63 C (k := 5) (st_0 is_1) rfl hinX2 (by decide) rfl dX4_acceptor_60 rfl (by decide +kernel) ?_
      refine r_iload_n 64 C 1 dX4_acceptor_63 rfl rfl ?_
      obtain ⟨x4, hx4, hf⟩ := ob hf
      refine r_iaload 65 C (st_1 is_1) dX4_acceptor_64 rfl hx4 ?_
      have hf := Option.some.inj hf
      subst hf
      exact r_iret C hr hk0 dX4_acceptor_65
    have hf := oin c5 hf
    by_cases c7 : a2 = 2
    · have hf := oip c7 hf
      refine r_tabIn 66 C (off := 56) dX4_acceptor_10 (by rw [c7]; decide) (by rw [c7]; decide) (by rw [c7]; rfl) rfl ?_
      refine r_aload_n 67 C 0 dX4_acceptor_66 rfl rfl ?_
      refine r_getr 70 C (k := 0) shC_0 rfl hinX4 (by decide) rfl dX4_acceptor_67 rfl (by decide +kernel) ?_
      refine r_iload_n 71 C 1 dX4_acceptor_70 rfl rfl ?_
      refine r_bipush (v := 16) 73 C dX4_acceptor_71 rfl (by decide) ?_
      obtain ⟨x6, hx6, hf⟩ := ob hf
      refine r_Vi (As := [.int a1, .int 16]) 76 C (st_0 is_1) rfl (c_X2_votesOf l G A 1 a1 16 is_1 g _ hx6) (cwV 2 C.1.2.2.2.2 gX4_acceptor_X2_votesOf rfl rfl rfl hd_X2_votesOf ⟨Nat.le_of_ble_eq_true rfl, Nat.le_of_ble_eq_true rfl⟩) rfl rfl (Nat.le_of_ble_eq_true rfl) dX4_acceptor_73 rfl ?_
      have hf := Option.some.inj hf
      subst hf
      exact r_iret C hr hk0 dX4_acceptor_76
    have hf := oin c7 hf
    refine r_tabOut 77 C dX4_acceptor_10 (tab_o (fun k h1 h2 => by
      have h3 : k = 0 ∨ k = 1 ∨ k = 2 := by omega
      rcases h3 with rfl | rfl | rfl
      · exact c3
      · exact c5
      · exact c7)) rfl ?_
    refine r_bipush (v := (-2)) 79 C dX4_acceptor_77 rfl (by decide) ?_
    have hf := Option.some.inj hf
    subst hf
    exact r_iret C hr hk0 dX4_acceptor_79
  · have hf := obf c1 hf
    refine r_iconst (v := (-1)) 8 C dX4_acceptor_7 rfl (by decide) ?_
    have hf := Option.some.inj hf
    subst hf
    exact r_iret C hr hk0 dX4_acceptor_8
theorem in_X4_voted_X2 : ∀ w ∈ wsX20, w ∈ wsX4_voted := by decide +kernel
theorem in_X4_voted_X4 : ∀ w ∈ wsX40, w ∈ wsX4_voted := by decide +kernel
def rm_X4_voted : Room := { frames := 1, cells := 0, slots := 0, locals := 21 }
theorem hd_X4_voted : yX4_voted.cls = RX4 ∧ yX4_voted.cls ≠ "java/lang/invoke/MethodHandle" ∧ yX4_voted.cls ≠ "java/lang/invoke/VarHandle" ∧ (parseMethodDescriptor yX4_voted.desc).map (fun d => d.parameters.length) = some 3 := by decide +kernel
set_option maxRecDepth 100000 in
set_option maxHeartbeats 4000000 in
theorem c_X4_voted (l : Launch) (G : GG) (A : Nat → Prop) (a1 : Int32) (a2 : Int32) (a3 : Int32)  (g : Mem) (res : Int32) (hf : f_X4_voted a1 a2 a3 g = some res) : k_Mi l yX4_voted wsX4_voted rm_X4_voted G shC A [.ref (G.2.1 0), .int a1, .int a2, .int a3] g res g := by
  have hinX2 : ∀ w ∈ wsX20, w ∈ wsX4_voted := in_X4_voted_X2
  have hinX4 : ∀ w ∈ wsX40, w ∈ wsX4_voted := in_X4_voted_X4
  refine k_ofi (cc := cX4_voted) (nL := 5) (own := RX4) (by decide +kernel) rfl rfl (by simp [lg_sl, Value.category]) ⟨rfl, rfl⟩ [(0, .ref (G.2.1 0)), (1, .int a1), (2, .int a2), (3, .int a3)] rfl ?_
  intro p e s m args below meth c C hr hk0
  rw [f_X4_voted] at hf
  refine r_iload_n 1 C 1 dX4_voted_0 rfl rfl ?_
  refine r_Si (As := [.int a1]) 4 C (c_X4_isAcceptor l G A a1 g _ rfl) (va_cwS 1 C.1.2.2.2.2 gX4_voted_X4_isAcceptor rfl rfl rfl hd_X4_isAcceptor ⟨Nat.le_of_ble_eq_true rfl, Nat.le_of_ble_eq_true rfl⟩) rfl rfl (Nat.le_of_ble_eq_true rfl) dX4_voted_1 rfl ?_
  refine r_if_eq 14 7 C dX4_voted_4 rfl rfl (fun c1 => ?_) (fun c1 => ?_)
  · have hf := obf c1 hf
    refine r_iconst (v := (-1)) 15 C dX4_voted_14 rfl (by decide) ?_
    have hf := Option.some.inj hf
    subst hf
    exact r_iret C hr hk0 dX4_voted_15
  · have hf := obt c1 hf
    refine r_iload_n 8 C 2 dX4_voted_7 rfl rfl ?_
    refine r_Si (As := [.int a2]) 11 C (c_X4_isSlot l G A a2 g _ rfl) (va_cwS 1 C.1.2.2.2.2 gX4_voted_X4_isSlot rfl rfl rfl hd_X4_isSlot ⟨Nat.le_of_ble_eq_true rfl, Nat.le_of_ble_eq_true rfl⟩) rfl rfl (Nat.le_of_ble_eq_true rfl) dX4_voted_8 rfl ?_
    refine r_if_ne 16 14 C dX4_voted_11 rfl rfl (fun c2 => ?_) (fun c2 => ?_)
    · have hf := obt c2 hf
      refine r_iload_n 17 C 3 dX4_voted_16 rfl rfl ?_
      refine r_if_lt 25 20 C dX4_voted_17 rfl rfl (fun c3 => ?_) (fun c3 => ?_)
      · have hf := oip c3 hf
        refine r_bipush (v := (-2)) 27 C dX4_voted_25 rfl (by decide) ?_
        have hf := Option.some.inj hf
        subst hf
        exact r_iret C hr hk0 dX4_voted_27
      · have hf := oin c3 hf
        refine r_iload_n 21 C 3 dX4_voted_20 rfl rfl ?_
        refine r_iconst (v := 1) 22 C dX4_voted_21 rfl (by decide) ?_
        refine r_icmp_le 28 25 C dX4_voted_22 rfl rfl (fun c4 => ?_) (fun c4 => ?_)
        · have hf := oip c4 hf
          refine r_iload_n 29 C 1 dX4_voted_28 rfl rfl ?_
          refine r_iload_n 30 C 2 dX4_voted_29 rfl rfl ?_
          refine r_Si (As := [.int a1, .int a2]) 33 C (c_X4_cell l G A a1 a2 g _ rfl) (va_cwS 2 C.1.2.2.2.2 gX4_voted_X4_cell rfl rfl rfl hd_X4_cell ⟨Nat.le_of_ble_eq_true rfl, Nat.le_of_ble_eq_true rfl⟩) rfl rfl (Nat.le_of_ble_eq_true rfl) dX4_voted_30 rfl ?_
          obtain ⟨x5, hx5, hf⟩ := ol hf
          refine r_istore 35 C [(4, .int x5), (0, .ref (G.2.1 0)), (1, .int a1), (2, .int a2), (3, .int a3)] dX4_voted_33 rfl hx5 (by decide) rfl ?_
          refine r_aload_n 36 C 1 dX4_voted_35 rfl rfl ?_
          refine r_getr 39 C (k := 0) shC_0 rfl hinX4 (by decide) rfl dX4_voted_36 rfl (by decide +kernel) ?_
          refine r_getr 42 C (k := 6) (st_0 is_1) rfl hinX2 (by decide) rfl dX4_voted_39 rfl (by decide +kernel) ?_
          refine r_iload 44 C 0 dX4_voted_42 rfl rfl ?_
          obtain ⟨x6, hx6, hf⟩ := ob hf
          refine r_iaload 45 C (st_2 is_1) dX4_voted_44 rfl hx6 ?_
          refine r_if_ne 51 48 C dX4_voted_45 rfl rfl (fun c7 => ?_) (fun c7 => ?_)
          · have hf := oin c7 hf
            refine r_iload_n 52 C 4 dX4_voted_51 rfl rfl ?_
            refine r_if_ne 68 55 C dX4_voted_52 rfl rfl (fun c8 => ?_) (fun c8 => ?_)
            · have hf := oin c8 hf
              refine r_aload_n 69 C 1 dX4_voted_68 rfl rfl ?_
              refine r_getr 72 C (k := 0) shC_0 rfl hinX4 (by decide) rfl dX4_voted_69 rfl (by decide +kernel) ?_
              refine r_getr 75 C (k := 7) (st_0 is_1) rfl hinX2 (by decide) rfl dX4_voted_72 rfl (by decide +kernel) ?_
              refine r_iload 77 C 0 dX4_voted_75 rfl rfl ?_
              obtain ⟨x9, hx9, hf⟩ := ob hf
              refine r_iaload 78 C (st_3 is_1) dX4_voted_77 rfl hx9 ?_
              have hf := Option.some.inj hf
              subst hf
              exact r_iret C hr hk0 dX4_voted_78
            · have hf := oip c8 hf
              refine r_aload_n 56 C 1 dX4_voted_55 rfl rfl ?_
              refine r_getr 59 C (k := 0) shC_0 rfl hinX4 (by decide) rfl dX4_voted_56 rfl (by decide +kernel) ?_
              refine r_getr 62 C (k := 6) (st_0 is_1) rfl hinX2 (by decide) rfl dX4_voted_59 rfl (by decide +kernel) ?_
              refine r_iload 64 C 0 dX4_voted_62 rfl rfl ?_
              obtain ⟨x10, hx10, hf⟩ := ob hf
              refine r_iaload 65 C (st_2 is_1) dX4_voted_64 rfl hx10 ?_
              refine r_goto 78 C dX4_voted_65 rfl ?_
              have hf := Option.some.inj hf
              subst hf
              exact r_iret C hr hk0 dX4_voted_78
          · have hf := oip c7 hf
            refine r_bipush (v := (-5)) 50 C dX4_voted_48 rfl (by decide) ?_
            have hf := Option.some.inj hf
            subst hf
            exact r_iret C hr hk0 dX4_voted_50
        · have hf := oin c4 hf
          refine r_bipush (v := (-2)) 27 C dX4_voted_25 rfl (by decide) ?_
          have hf := Option.some.inj hf
          subst hf
          exact r_iret C hr hk0 dX4_voted_27
    · have hf := obf c2 hf
      refine r_iconst (v := (-1)) 15 C dX4_voted_14 rfl (by decide) ?_
      have hf := Option.some.inj hf
      subst hf
      exact r_iret C hr hk0 dX4_voted_15
theorem in_X4_proposer_X2 : ∀ w ∈ wsX20, w ∈ wsX4_proposer := by decide +kernel
theorem in_X4_proposer_X4 : ∀ w ∈ wsX40, w ∈ wsX4_proposer := by decide +kernel
def rm_X4_proposer : Room := { frames := 2, cells := 0, slots := 0, locals := 44 }
theorem hd_X4_proposer : yX4_proposer.cls = RX4 ∧ yX4_proposer.cls ≠ "java/lang/invoke/MethodHandle" ∧ yX4_proposer.cls ≠ "java/lang/invoke/VarHandle" ∧ (parseMethodDescriptor yX4_proposer.desc).map (fun d => d.parameters.length) = some 2 := by decide +kernel
set_option maxRecDepth 100000 in
set_option maxHeartbeats 4000000 in
theorem c_X4_proposer (l : Launch) (G : GG) (A : Nat → Prop) (a1 : Int32) (a2 : Int32)  (g : Mem) (res : Int32) (hf : f_X4_proposer a1 a2 g = some res) : k_Mi l yX4_proposer wsX4_proposer rm_X4_proposer G shC A [.ref (G.2.1 0), .int a1, .int a2] g res g := by
  have hinX2 : ∀ w ∈ wsX20, w ∈ wsX4_proposer := in_X4_proposer_X2
  have hinX4 : ∀ w ∈ wsX40, w ∈ wsX4_proposer := in_X4_proposer_X4
  refine k_ofi (cc := cX4_proposer) (nL := 3) (own := RX4) (by decide +kernel) rfl rfl (by simp [lg_sl, Value.category]) ⟨rfl, rfl⟩ [(0, .ref (G.2.1 0)), (1, .int a1), (2, .int a2)] rfl ?_
  intro p e s m args below meth c C hr hk0
  rw [f_X4_proposer] at hf
  refine r_iload_n 1 C 1 dX4_proposer_0 rfl rfl ?_
  refine r_Si (As := [.int a1]) 4 C (c_X4_isProposer l G A a1 g _ rfl) (va_cwS 1 C.1.2.2.2.2 gX4_proposer_X4_isProposer rfl rfl rfl hd_X4_isProposer ⟨Nat.le_of_ble_eq_true rfl, Nat.le_of_ble_eq_true rfl⟩) rfl rfl (Nat.le_of_ble_eq_true rfl) dX4_proposer_1 rfl ?_
  refine r_if_ne 9 7 C dX4_proposer_4 rfl rfl (fun c1 => ?_) (fun c1 => ?_)
  · have hf := obt c1 hf
    refine r_iload_n 10 C 2 dX4_proposer_9 rfl rfl ?_
    by_cases c3 : a2 = 0
    · have hf := oip c3 hf
      refine r_tabIn 40 C (off := 30) dX4_proposer_10 (by rw [c3]; decide) (by rw [c3]; decide) (by rw [c3]; rfl) rfl ?_
      refine r_aload_n 41 C 0 dX4_proposer_40 rfl rfl ?_
      refine r_getr 44 C (k := 0) shC_0 rfl hinX4 (by decide) rfl dX4_proposer_41 rfl (by decide +kernel) ?_
      refine r_getr 47 C (k := 8) (st_0 is_1) rfl hinX2 (by decide) rfl dX4_proposer_44 rfl (by decide +kernel) ?_
      refine r_iload_n 48 C 1 dX4_proposer_47 rfl rfl ?_
      obtain ⟨x2, hx2, hf⟩ := ob hf
      refine r_iaload 49 C (st_4 is_1) dX4_proposer_48 rfl hx2 ?_
      have hf := Option.some.inj hf
      subst hf
      exact r_iret C hr hk0 dX4_proposer_49
    have hf := oin c3 hf
    by_cases c5 : a2 = 1
    · have hf := oip c5 hf
      refine r_tabIn 50 C (off := 40) dX4_proposer_10 (by rw [c5]; decide) (by rw [c5]; decide) (by rw [c5]; rfl) rfl ?_
      refine r_aload_n 51 C 0 dX4_proposer_50 rfl rfl ?_
      refine r_getr 54 C (k := 0) shC_0 rfl hinX4 (by decide) rfl dX4_proposer_51 rfl (by decide +kernel) ?_
      refine r_getr 57 C (k := 9) (st_0 is_1) rfl hinX2 (by decide) rfl dX4_proposer_54 rfl (by decide +kernel) ?_
      refine r_iload_n 58 C 1 dX4_proposer_57 rfl rfl ?_
      obtain ⟨x4, hx4, hf⟩ := ob hf
      refine r_iaload 59 C (st_5 is_1) dX4_proposer_58 rfl hx4 ?_
      have hf := Option.some.inj hf
      subst hf
      exact r_iret C hr hk0 dX4_proposer_59
    have hf := oin c5 hf
    by_cases c7 : a2 = 2
    · have hf := oip c7 hf
      refine r_tabIn 60 C (off := 50) dX4_proposer_10 (by rw [c7]; decide) (by rw [c7]; decide) (by rw [c7]; rfl) rfl ?_
      refine r_aload_n 61 C 0 dX4_proposer_60 rfl rfl ?_
      refine r_getr 64 C (k := 0) shC_0 rfl hinX4 (by decide) rfl dX4_proposer_61 rfl (by decide +kernel) ?_
      refine r_getr 67 C (k := 10) (st_0 is_1) rfl hinX2 (by decide) rfl dX4_proposer_64 rfl (by decide +kernel) ?_
      refine r_iload_n 68 C 1 dX4_proposer_67 rfl rfl ?_
      obtain ⟨x6, hx6, hf⟩ := ob hf
      refine r_iaload 69 C (st_6 is_1) dX4_proposer_68 rfl hx6 ?_
      have hf := Option.some.inj hf
      subst hf
      exact r_iret C hr hk0 dX4_proposer_69
    have hf := oin c7 hf
    by_cases c9 : a2 = 3
    · have hf := oip c9 hf
      refine r_tabIn 70 C (off := 60) dX4_proposer_10 (by rw [c9]; decide) (by rw [c9]; decide) (by rw [c9]; rfl) rfl ?_
      refine r_aload_n 71 C 0 dX4_proposer_70 rfl rfl ?_
      refine r_getr 74 C (k := 0) shC_0 rfl hinX4 (by decide) rfl dX4_proposer_71 rfl (by decide +kernel) ?_
      refine r_iload_n 75 C 1 dX4_proposer_74 rfl rfl ?_
      obtain ⟨x8, hx8, hf⟩ := ob hf
      refine r_Vi (As := [.int a1]) 78 C (st_0 is_1) rfl (c_X2_offersOf l G A 1 a1 is_1 g _ hx8) (cwV 1 C.1.2.2.2.2 gX4_proposer_X2_offersOf rfl rfl rfl hd_X2_offersOf ⟨Nat.le_of_ble_eq_true rfl, Nat.le_of_ble_eq_true rfl⟩) rfl rfl (Nat.le_of_ble_eq_true rfl) dX4_proposer_75 rfl ?_
      have hf := Option.some.inj hf
      subst hf
      exact r_iret C hr hk0 dX4_proposer_78
    have hf := oin c9 hf
    refine r_tabOut 79 C dX4_proposer_10 (tab_o (fun k h1 h2 => by
      have h3 : k = 0 ∨ k = 1 ∨ k = 2 ∨ k = 3 := by omega
      rcases h3 with rfl | rfl | rfl | rfl
      · exact c3
      · exact c5
      · exact c7
      · exact c9)) rfl ?_
    refine r_bipush (v := (-2)) 81 C dX4_proposer_79 rfl (by decide) ?_
    have hf := Option.some.inj hf
    subst hf
    exact r_iret C hr hk0 dX4_proposer_81
  · have hf := obf c1 hf
    refine r_iconst (v := (-1)) 8 C dX4_proposer_7 rfl (by decide) ?_
    have hf := Option.some.inj hf
    subst hf
    exact r_iret C hr hk0 dX4_proposer_8
def rm_X4_orNone : Room := { frames := 0, cells := 0, slots := 0, locals := 0 }
theorem hd_X4_orNone : yX4_orNone.cls ≠ "java/lang/invoke/MethodHandle" ∧ yX4_orNone.cls ≠ "java/lang/invoke/VarHandle" ∧ (parseMethodDescriptor yX4_orNone.desc).map (fun d => d.parameters.length) = some 1 := by decide +kernel
set_option maxRecDepth 100000 in
set_option maxHeartbeats 4000000 in
theorem c_X4_orNone (l : Launch) (G : GG) (A : Nat → Prop) (a1 : Int32)  (g : Mem) (res : Int32) (hf : f_X4_orNone a1 = res) : k_Mi l yX4_orNone wsX4_orNone rm_X4_orNone G shC A [.int a1] g res g := by
  refine k_ofi (cc := cX4_orNone) (nL := 1) (own := RX4) (by decide +kernel) rfl rfl (by simp [lg_sl, Value.category]) ⟨rfl, rfl⟩ [(0, .int a1)] rfl ?_
  intro p e s m args below meth c C hr hk0
  rw [f_X4_orNone] at hf
  refine r_iload_n 1 C 0 dX4_orNone_0 rfl rfl ?_
  refine r_if_ne 9 4 C dX4_orNone_1 rfl rfl (fun c1 => ?_) (fun c1 => ?_)
  · have hf := oin c1 hf
    refine r_iload_n 10 C 0 dX4_orNone_9 rfl rfl ?_
    subst hf
    exact r_iret C hr hk0 dX4_orNone_10
  · have hf := oip c1 hf
    refine r_bipush (v := (-5)) 6 C dX4_orNone_4 rfl (by decide) ?_
    refine r_goto 10 C dX4_orNone_6 rfl ?_
    subst hf
    exact r_iret C hr hk0 dX4_orNone_10
theorem in_X4_proposed_X2 : ∀ w ∈ wsX20, w ∈ wsX4_proposed := by decide +kernel
theorem in_X4_proposed_X4 : ∀ w ∈ wsX40, w ∈ wsX4_proposed := by decide +kernel
def rm_X4_proposed : Room := { frames := 4, cells := 0, slots := 0, locals := 86 }
theorem hd_X4_proposed : yX4_proposed.cls = RX4 ∧ yX4_proposed.cls ≠ "java/lang/invoke/MethodHandle" ∧ yX4_proposed.cls ≠ "java/lang/invoke/VarHandle" ∧ (parseMethodDescriptor yX4_proposed.desc).map (fun d => d.parameters.length) = some 3 := by decide +kernel
set_option maxRecDepth 100000 in
set_option maxHeartbeats 4000000 in
theorem c_X4_proposed (l : Launch) (G : GG) (A : Nat → Prop) (a1 : Int32) (a2 : Int32) (a3 : Int32)  (g : Mem) (res : Int32) (hf : f_X4_proposed a1 a2 a3 g = some res) : k_Mi l yX4_proposed wsX4_proposed rm_X4_proposed G shC A [.ref (G.2.1 0), .int a1, .int a2, .int a3] g res g := by
  have hinX2 : ∀ w ∈ wsX20, w ∈ wsX4_proposed := in_X4_proposed_X2
  have hinX4 : ∀ w ∈ wsX40, w ∈ wsX4_proposed := in_X4_proposed_X4
  refine k_ofi (cc := cX4_proposed) (nL := 4) (own := RX4) (by decide +kernel) rfl rfl (by simp [lg_sl, Value.category]) ⟨rfl, rfl⟩ [(0, .ref (G.2.1 0)), (1, .int a1), (2, .int a2), (3, .int a3)] rfl ?_
  intro p e s m args below meth c C hr hk0
  rw [f_X4_proposed] at hf
  refine r_iload_n 1 C 1 dX4_proposed_0 rfl rfl ?_
  refine r_Si (As := [.int a1]) 4 C (c_X4_isProposer l G A a1 g _ rfl) (va_cwS 1 C.1.2.2.2.2 gX4_proposed_X4_isProposer rfl rfl rfl hd_X4_isProposer ⟨Nat.le_of_ble_eq_true rfl, Nat.le_of_ble_eq_true rfl⟩) rfl rfl (Nat.le_of_ble_eq_true rfl) dX4_proposed_1 rfl ?_
  refine r_if_eq 14 7 C dX4_proposed_4 rfl rfl (fun c1 => ?_) (fun c1 => ?_)
  · have hf := obf c1 hf
    refine r_iconst (v := (-1)) 15 C dX4_proposed_14 rfl (by decide) ?_
    have hf := Option.some.inj hf
    subst hf
    exact r_iret C hr hk0 dX4_proposed_15
  · have hf := obt c1 hf
    refine r_iload_n 8 C 2 dX4_proposed_7 rfl rfl ?_
    refine r_Si (As := [.int a2]) 11 C (c_X4_isSlot l G A a2 g _ rfl) (va_cwS 1 C.1.2.2.2.2 gX4_proposed_X4_isSlot rfl rfl rfl hd_X4_isSlot ⟨Nat.le_of_ble_eq_true rfl, Nat.le_of_ble_eq_true rfl⟩) rfl rfl (Nat.le_of_ble_eq_true rfl) dX4_proposed_8 rfl ?_
    refine r_if_ne 16 14 C dX4_proposed_11 rfl rfl (fun c2 => ?_) (fun c2 => ?_)
    · have hf := obt c2 hf
      refine r_iload_n 17 C 3 dX4_proposed_16 rfl rfl ?_
      by_cases c4 : a3 = 0
      · have hf := oip c4 hf
        refine r_tabIn 44 C (off := 27) dX4_proposed_17 (by rw [c4]; decide) (by rw [c4]; decide) (by rw [c4]; rfl) rfl ?_
        refine r_aload_n 45 C 0 dX4_proposed_44 rfl rfl ?_
        refine r_getr 48 C (k := 0) shC_0 rfl hinX4 (by decide) rfl dX4_proposed_45 rfl (by decide +kernel) ?_
        refine r_getr 51 C (k := 11) (st_0 is_1) rfl hinX2 (by decide) rfl dX4_proposed_48 rfl (by decide +kernel) ?_
        refine r_iload_n 52 C 1 dX4_proposed_51 rfl rfl ?_
        refine r_iload_n 53 C 2 dX4_proposed_52 rfl rfl ?_
        refine r_Si (As := [.int a1, .int a2]) 56 C (c_X4_cell l G A a1 a2 g _ rfl) (va_cwS 2 C.1.2.2.2.2 gX4_proposed_X4_cell rfl rfl rfl hd_X4_cell ⟨Nat.le_of_ble_eq_true rfl, Nat.le_of_ble_eq_true rfl⟩) rfl rfl (Nat.le_of_ble_eq_true rfl) dX4_proposed_53 rfl ?_
        obtain ⟨x3, hx3, hf⟩ := ob hf
        refine r_iaload 57 C (st_7 is_1) dX4_proposed_56 rfl hx3 ?_
        refine r_Si (As := [.int x3]) 60 C (c_X4_orNone l G A x3 g _ rfl) (va_cwS 1 C.1.2.2.2.2 gX4_proposed_X4_orNone rfl rfl rfl hd_X4_orNone ⟨Nat.le_of_ble_eq_true rfl, Nat.le_of_ble_eq_true rfl⟩) rfl rfl (Nat.le_of_ble_eq_true rfl) dX4_proposed_57 rfl ?_
        have hf := Option.some.inj hf
        subst hf
        exact r_iret C hr hk0 dX4_proposed_60
      have hf := oin c4 hf
      by_cases c8 : a3 = 1
      · have hf := oip c8 hf
        refine r_tabIn 61 C (off := 44) dX4_proposed_17 (by rw [c8]; decide) (by rw [c8]; decide) (by rw [c8]; rfl) rfl ?_
        refine r_aload_n 62 C 0 dX4_proposed_61 rfl rfl ?_
        refine r_getr 65 C (k := 0) shC_0 rfl hinX4 (by decide) rfl dX4_proposed_62 rfl (by decide +kernel) ?_
        refine r_iload_n 66 C 2 dX4_proposed_65 rfl rfl ?_
        obtain ⟨x5, hx5, hf⟩ := ob hf
        refine r_Vi (As := [.int a2]) 69 C (st_0 is_1) rfl (c_X2_isOpen l G A 1 a2 is_1 g _ hx5) (cwV 1 C.1.2.2.2.2 gX4_proposed_X2_isOpen rfl rfl rfl hd_X2_isOpen ⟨Nat.le_of_ble_eq_true rfl, Nat.le_of_ble_eq_true rfl⟩) rfl rfl (Nat.le_of_ble_eq_true rfl) dX4_proposed_66 rfl ?_
        refine r_if_eq 84 72 C dX4_proposed_69 rfl rfl (fun c6 => ?_) (fun c6 => ?_)
        · have hf := obf c6 hf
          refine r_bipush (v := (-5)) 86 C dX4_proposed_84 rfl (by decide) ?_
          have hf := Option.some.inj hf
          subst hf
          exact r_iret C hr hk0 dX4_proposed_86
        · have hf := obt c6 hf
          refine r_aload_n 73 C 0 dX4_proposed_72 rfl rfl ?_
          refine r_getr 76 C (k := 0) shC_0 rfl hinX4 (by decide) rfl dX4_proposed_73 rfl (by decide +kernel) ?_
          refine r_iload_n 77 C 1 dX4_proposed_76 rfl rfl ?_
          refine r_iload_n 78 C 2 dX4_proposed_77 rfl rfl ?_
          obtain ⟨x7, hx7, hf⟩ := ob hf
          refine r_Vi (As := [.int a1, .int a2]) 81 C (st_0 is_1) rfl (c_X2_boundValue l G A 1 a1 a2 is_1 g _ hx7) (cwV 2 C.1.2.2.2.2 gX4_proposed_X2_boundValue rfl rfl rfl hd_X2_boundValue ⟨Nat.le_of_ble_eq_true rfl, Nat.le_of_ble_eq_true rfl⟩) rfl rfl (Nat.le_of_ble_eq_true rfl) dX4_proposed_78 rfl ?_
          refine r_goto 86 C dX4_proposed_81 rfl ?_
          have hf := Option.some.inj hf
          subst hf
          exact r_iret C hr hk0 dX4_proposed_86
      have hf := oin c8 hf
      by_cases c12 : a3 = 2
      · have hf := oip c12 hf
        refine r_tabIn 87 C (off := 70) dX4_proposed_17 (by rw [c12]; decide) (by rw [c12]; decide) (by rw [c12]; rfl) rfl ?_
        refine r_aload_n 88 C 0 dX4_proposed_87 rfl rfl ?_
        refine r_getr 91 C (k := 0) shC_0 rfl hinX4 (by decide) rfl dX4_proposed_88 rfl (by decide +kernel) ?_
        refine r_iload_n 92 C 2 dX4_proposed_91 rfl rfl ?_
        obtain ⟨x9, hx9, hf⟩ := ob hf
        refine r_Vi (As := [.int a2]) 95 C (st_0 is_1) rfl (c_X2_isOpen l G A 1 a2 is_1 g _ hx9) (cwV 1 C.1.2.2.2.2 gX4_proposed_X2_isOpen rfl rfl rfl hd_X2_isOpen ⟨Nat.le_of_ble_eq_true rfl, Nat.le_of_ble_eq_true rfl⟩) rfl rfl (Nat.le_of_ble_eq_true rfl) dX4_proposed_92 rfl ?_
        refine r_if_eq 110 98 C dX4_proposed_95 rfl rfl (fun c10 => ?_) (fun c10 => ?_)
        · have hf := obf c10 hf
          refine r_bipush (v := (-5)) 112 C dX4_proposed_110 rfl (by decide) ?_
          have hf := Option.some.inj hf
          subst hf
          exact r_iret C hr hk0 dX4_proposed_112
        · have hf := obt c10 hf
          refine r_aload_n 99 C 0 dX4_proposed_98 rfl rfl ?_
          refine r_getr 102 C (k := 0) shC_0 rfl hinX4 (by decide) rfl dX4_proposed_99 rfl (by decide +kernel) ?_
          refine r_iload_n 103 C 1 dX4_proposed_102 rfl rfl ?_
          refine r_iload_n 104 C 2 dX4_proposed_103 rfl rfl ?_
          obtain ⟨x11, hx11, hf⟩ := ob hf
          refine r_Vi (As := [.int a1, .int a2]) 107 C (st_0 is_1) rfl (c_X2_promisesMissing l G A 1 a1 a2 is_1 g _ hx11) (cwV 2 C.1.2.2.2.2 gX4_proposed_X2_promisesMissing rfl rfl rfl hd_X2_promisesMissing ⟨Nat.le_of_ble_eq_true rfl, Nat.le_of_ble_eq_true rfl⟩) rfl rfl (Nat.le_of_ble_eq_true rfl) dX4_proposed_104 rfl ?_
          refine r_goto 112 C dX4_proposed_107 rfl ?_
          have hf := Option.some.inj hf
          subst hf
          exact r_iret C hr hk0 dX4_proposed_112
      have hf := oin c12 hf
      refine r_tabOut 113 C dX4_proposed_17 (tab_o (fun k h1 h2 => by
        have h3 : k = 0 ∨ k = 1 ∨ k = 2 := by omega
        rcases h3 with rfl | rfl | rfl
        · exact c4
        · exact c8
        · exact c12)) rfl ?_
      refine r_bipush (v := (-2)) 115 C dX4_proposed_113 rfl (by decide) ?_
      have hf := Option.some.inj hf
      subst hf
      exact r_iret C hr hk0 dX4_proposed_115
    · have hf := obf c2 hf
      refine r_iconst (v := (-1)) 15 C dX4_proposed_14 rfl (by decide) ?_
      have hf := Option.some.inj hf
      subst hf
      exact r_iret C hr hk0 dX4_proposed_15
theorem in_X4_slot_X2 : ∀ w ∈ wsX20, w ∈ wsX4_slot := by decide +kernel
theorem in_X4_slot_X4 : ∀ w ∈ wsX40, w ∈ wsX4_slot := by decide +kernel
def rm_X4_slot : Room := { frames := 3, cells := 0, slots := 0, locals := 63 }
theorem hd_X4_slot : yX4_slot.cls = RX4 ∧ yX4_slot.cls ≠ "java/lang/invoke/MethodHandle" ∧ yX4_slot.cls ≠ "java/lang/invoke/VarHandle" ∧ (parseMethodDescriptor yX4_slot.desc).map (fun d => d.parameters.length) = some 2 := by decide +kernel
set_option maxRecDepth 100000 in
set_option maxHeartbeats 4000000 in
theorem c_X4_slot (l : Launch) (G : GG) (A : Nat → Prop) (a1 : Int32) (a2 : Int32)  (g : Mem) (res : Int32) (hf : f_X4_slot a1 a2 g = some res) : k_Mi l yX4_slot wsX4_slot rm_X4_slot G shC A [.ref (G.2.1 0), .int a1, .int a2] g res g := by
  have hinX2 : ∀ w ∈ wsX20, w ∈ wsX4_slot := in_X4_slot_X2
  have hinX4 : ∀ w ∈ wsX40, w ∈ wsX4_slot := in_X4_slot_X4
  refine k_ofi (cc := cX4_slot) (nL := 3) (own := RX4) (by decide +kernel) rfl rfl (by simp [lg_sl, Value.category]) ⟨rfl, rfl⟩ [(0, .ref (G.2.1 0)), (1, .int a1), (2, .int a2)] rfl ?_
  intro p e s m args below meth c C hr hk0
  rw [f_X4_slot] at hf
  refine r_iload_n 1 C 1 dX4_slot_0 rfl rfl ?_
  refine r_Si (As := [.int a1]) 4 C (c_X4_isSlot l G A a1 g _ rfl) (va_cwS 1 C.1.2.2.2.2 gX4_slot_X4_isSlot rfl rfl rfl hd_X4_isSlot ⟨Nat.le_of_ble_eq_true rfl, Nat.le_of_ble_eq_true rfl⟩) rfl rfl (Nat.le_of_ble_eq_true rfl) dX4_slot_1 rfl ?_
  refine r_if_ne 9 7 C dX4_slot_4 rfl rfl (fun c1 => ?_) (fun c1 => ?_)
  · have hf := obt c1 hf
    refine r_iload_n 10 C 2 dX4_slot_9 rfl rfl ?_
    by_cases c3 : a2 = 0
    · have hf := oip c3 hf
      refine r_tabIn 48 C (off := 38) dX4_slot_10 (by rw [c3]; decide) (by rw [c3]; decide) (by rw [c3]; rfl) rfl ?_
      refine r_aload_n 49 C 0 dX4_slot_48 rfl rfl ?_
      refine r_getr 52 C (k := 0) shC_0 rfl hinX4 (by decide) rfl dX4_slot_49 rfl (by decide +kernel) ?_
      refine r_getr 55 C (k := 14) (st_0 is_1) rfl hinX2 (by decide) rfl dX4_slot_52 rfl (by decide +kernel) ?_
      refine r_iload_n 56 C 1 dX4_slot_55 rfl rfl ?_
      obtain ⟨x2, hx2, hf⟩ := ob hf
      refine r_iaload 57 C (st_10 is_1) dX4_slot_56 rfl hx2 ?_
      refine r_Si (As := [.int x2]) 60 C (c_X4_orNone l G A x2 g _ rfl) (va_cwS 1 C.1.2.2.2.2 gX4_slot_X4_orNone rfl rfl rfl hd_X4_orNone ⟨Nat.le_of_ble_eq_true rfl, Nat.le_of_ble_eq_true rfl⟩) rfl rfl (Nat.le_of_ble_eq_true rfl) dX4_slot_57 rfl ?_
      have hf := Option.some.inj hf
      subst hf
      exact r_iret C hr hk0 dX4_slot_60
    have hf := oin c3 hf
    by_cases c5 : a2 = 1
    · have hf := oip c5 hf
      refine r_tabIn 61 C (off := 51) dX4_slot_10 (by rw [c5]; decide) (by rw [c5]; decide) (by rw [c5]; rfl) rfl ?_
      refine r_aload_n 62 C 0 dX4_slot_61 rfl rfl ?_
      refine r_getr 65 C (k := 0) shC_0 rfl hinX4 (by decide) rfl dX4_slot_62 rfl (by decide +kernel) ?_
      refine r_getr 68 C (k := 15) (st_0 is_1) rfl hinX2 (by decide) rfl dX4_slot_65 rfl (by decide +kernel) ?_
      refine r_iload_n 69 C 1 dX4_slot_68 rfl rfl ?_
      obtain ⟨x4, hx4, hf⟩ := ob hf
      refine r_iaload 70 C (st_11 is_1) dX4_slot_69 rfl hx4 ?_
      refine r_Si (As := [.int x4]) 73 C (c_X4_orNone l G A x4 g _ rfl) (va_cwS 1 C.1.2.2.2.2 gX4_slot_X4_orNone rfl rfl rfl hd_X4_orNone ⟨Nat.le_of_ble_eq_true rfl, Nat.le_of_ble_eq_true rfl⟩) rfl rfl (Nat.le_of_ble_eq_true rfl) dX4_slot_70 rfl ?_
      have hf := Option.some.inj hf
      subst hf
      exact r_iret C hr hk0 dX4_slot_73
    have hf := oin c5 hf
    by_cases c9 : a2 = 2
    · have hf := oip c9 hf
      refine r_tabIn 74 C (off := 64) dX4_slot_10 (by rw [c9]; decide) (by rw [c9]; decide) (by rw [c9]; rfl) rfl ?_
      refine r_aload_n 75 C 0 dX4_slot_74 rfl rfl ?_
      refine r_getr 78 C (k := 0) shC_0 rfl hinX4 (by decide) rfl dX4_slot_75 rfl (by decide +kernel) ?_
      refine r_iload_n 79 C 1 dX4_slot_78 rfl rfl ?_
      obtain ⟨x6, hx6, hf⟩ := ob hf
      refine r_Vi (As := [.int a1]) 82 C (st_0 is_1) rfl (c_X2_isOpen l G A 1 a1 is_1 g _ hx6) (cwV 1 C.1.2.2.2.2 gX4_slot_X2_isOpen rfl rfl rfl hd_X2_isOpen ⟨Nat.le_of_ble_eq_true rfl, Nat.le_of_ble_eq_true rfl⟩) rfl rfl (Nat.le_of_ble_eq_true rfl) dX4_slot_79 rfl ?_
      refine r_if_eq 96 85 C dX4_slot_82 rfl rfl (fun c7 => ?_) (fun c7 => ?_)
      · have hf := obf c7 hf
        refine r_bipush (v := (-5)) 98 C dX4_slot_96 rfl (by decide) ?_
        have hf := Option.some.inj hf
        subst hf
        exact r_iret C hr hk0 dX4_slot_98
      · have hf := obt c7 hf
        refine r_aload_n 86 C 0 dX4_slot_85 rfl rfl ?_
        refine r_getr 89 C (k := 0) shC_0 rfl hinX4 (by decide) rfl dX4_slot_86 rfl (by decide +kernel) ?_
        refine r_iload_n 90 C 1 dX4_slot_89 rfl rfl ?_
        obtain ⟨x8, hx8, hf⟩ := ob hf
        refine r_Vi (As := [.int a1]) 93 C (st_0 is_1) rfl (c_X2_votersOf l G A 1 a1 is_1 g _ hx8) (cwV 1 C.1.2.2.2.2 gX4_slot_X2_votersOf rfl rfl rfl hd_X2_votersOf ⟨Nat.le_of_ble_eq_true rfl, Nat.le_of_ble_eq_true rfl⟩) rfl rfl (Nat.le_of_ble_eq_true rfl) dX4_slot_90 rfl ?_
        refine r_goto 98 C dX4_slot_93 rfl ?_
        have hf := Option.some.inj hf
        subst hf
        exact r_iret C hr hk0 dX4_slot_98
    have hf := oin c9 hf
    by_cases c13 : a2 = 3
    · have hf := oip c13 hf
      refine r_tabIn 99 C (off := 89) dX4_slot_10 (by rw [c13]; decide) (by rw [c13]; decide) (by rw [c13]; rfl) rfl ?_
      refine r_aload_n 100 C 0 dX4_slot_99 rfl rfl ?_
      refine r_getr 103 C (k := 0) shC_0 rfl hinX4 (by decide) rfl dX4_slot_100 rfl (by decide +kernel) ?_
      refine r_iload_n 104 C 1 dX4_slot_103 rfl rfl ?_
      obtain ⟨x10, hx10, hf⟩ := ob hf
      refine r_Vi (As := [.int a1]) 107 C (st_0 is_1) rfl (c_X2_isOpen l G A 1 a1 is_1 g _ hx10) (cwV 1 C.1.2.2.2.2 gX4_slot_X2_isOpen rfl rfl rfl hd_X2_isOpen ⟨Nat.le_of_ble_eq_true rfl, Nat.le_of_ble_eq_true rfl⟩) rfl rfl (Nat.le_of_ble_eq_true rfl) dX4_slot_104 rfl ?_
      refine r_if_eq 128 110 C dX4_slot_107 rfl rfl (fun c11 => ?_) (fun c11 => ?_)
      · have hf := obf c11 hf
        refine r_bipush (v := (-5)) 130 C dX4_slot_128 rfl (by decide) ?_
        have hf := Option.some.inj hf
        subst hf
        exact r_iret C hr hk0 dX4_slot_130
      · have hf := obt c11 hf
        refine r_aload_n 111 C 0 dX4_slot_110 rfl rfl ?_
        refine r_getr 114 C (k := 0) shC_0 rfl hinX4 (by decide) rfl dX4_slot_111 rfl (by decide +kernel) ?_
        refine r_aload_n 115 C 0 dX4_slot_114 rfl rfl ?_
        refine r_getr 118 C (k := 0) shC_0 rfl hinX4 (by decide) rfl dX4_slot_115 rfl (by decide +kernel) ?_
        refine r_iload_n 119 C 1 dX4_slot_118 rfl rfl ?_
        obtain ⟨x12, hx12, hf⟩ := ob hf
        refine r_Vi (As := [.int a1]) 122 C (st_0 is_1) rfl (c_X2_votersOf l G A 1 a1 is_1 g _ hx12) (cwV 1 C.1.2.2.2.2 gX4_slot_X2_votersOf rfl rfl rfl hd_X2_votersOf ⟨Nat.le_of_ble_eq_true rfl, Nat.le_of_ble_eq_true rfl⟩) rfl rfl (Nat.le_of_ble_eq_true rfl) dX4_slot_119 rfl ?_
        refine r_Vi (As := [.int x12]) 125 C (st_0 is_1) rfl (c_X2_firstSize l G A 1 x12 is_1 g _ rfl) (cwV 1 C.1.2.2.2.2 gX4_slot_X2_firstSize rfl rfl rfl hd_X2_firstSize ⟨Nat.le_of_ble_eq_true rfl, Nat.le_of_ble_eq_true rfl⟩) rfl rfl (Nat.le_of_ble_eq_true rfl) dX4_slot_122 rfl ?_
        refine r_goto 130 C dX4_slot_125 rfl ?_
        have hf := Option.some.inj hf
        subst hf
        exact r_iret C hr hk0 dX4_slot_130
    have hf := oin c13 hf
    by_cases c17 : a2 = 4
    · have hf := oip c17 hf
      refine r_tabIn 131 C (off := 121) dX4_slot_10 (by rw [c17]; decide) (by rw [c17]; decide) (by rw [c17]; rfl) rfl ?_
      refine r_aload_n 132 C 0 dX4_slot_131 rfl rfl ?_
      refine r_getr 135 C (k := 0) shC_0 rfl hinX4 (by decide) rfl dX4_slot_132 rfl (by decide +kernel) ?_
      refine r_iload_n 136 C 1 dX4_slot_135 rfl rfl ?_
      obtain ⟨x14, hx14, hf⟩ := ob hf
      refine r_Vi (As := [.int a1]) 139 C (st_0 is_1) rfl (c_X2_isOpen l G A 1 a1 is_1 g _ hx14) (cwV 1 C.1.2.2.2.2 gX4_slot_X2_isOpen rfl rfl rfl hd_X2_isOpen ⟨Nat.le_of_ble_eq_true rfl, Nat.le_of_ble_eq_true rfl⟩) rfl rfl (Nat.le_of_ble_eq_true rfl) dX4_slot_136 rfl ?_
      refine r_if_eq 160 142 C dX4_slot_139 rfl rfl (fun c15 => ?_) (fun c15 => ?_)
      · have hf := obf c15 hf
        refine r_bipush (v := (-5)) 162 C dX4_slot_160 rfl (by decide) ?_
        have hf := Option.some.inj hf
        subst hf
        exact r_iret C hr hk0 dX4_slot_162
      · have hf := obt c15 hf
        refine r_aload_n 143 C 0 dX4_slot_142 rfl rfl ?_
        refine r_getr 146 C (k := 0) shC_0 rfl hinX4 (by decide) rfl dX4_slot_143 rfl (by decide +kernel) ?_
        refine r_aload_n 147 C 0 dX4_slot_146 rfl rfl ?_
        refine r_getr 150 C (k := 0) shC_0 rfl hinX4 (by decide) rfl dX4_slot_147 rfl (by decide +kernel) ?_
        refine r_iload_n 151 C 1 dX4_slot_150 rfl rfl ?_
        obtain ⟨x16, hx16, hf⟩ := ob hf
        refine r_Vi (As := [.int a1]) 154 C (st_0 is_1) rfl (c_X2_votersOf l G A 1 a1 is_1 g _ hx16) (cwV 1 C.1.2.2.2.2 gX4_slot_X2_votersOf rfl rfl rfl hd_X2_votersOf ⟨Nat.le_of_ble_eq_true rfl, Nat.le_of_ble_eq_true rfl⟩) rfl rfl (Nat.le_of_ble_eq_true rfl) dX4_slot_151 rfl ?_
        refine r_Vi (As := [.int x16]) 157 C (st_0 is_1) rfl (c_X2_secondSize l G A 1 x16 is_1 g _ rfl) (cwV 1 C.1.2.2.2.2 gX4_slot_X2_secondSize rfl rfl rfl hd_X2_secondSize ⟨Nat.le_of_ble_eq_true rfl, Nat.le_of_ble_eq_true rfl⟩) rfl rfl (Nat.le_of_ble_eq_true rfl) dX4_slot_154 rfl ?_
        refine r_goto 162 C dX4_slot_157 rfl ?_
        have hf := Option.some.inj hf
        subst hf
        exact r_iret C hr hk0 dX4_slot_162
    have hf := oin c17 hf
    by_cases c19 : a2 = 5
    · have hf := oip c19 hf
      refine r_tabIn 163 C (off := 153) dX4_slot_10 (by rw [c19]; decide) (by rw [c19]; decide) (by rw [c19]; rfl) rfl ?_
      refine r_iload_n 164 C 1 dX4_slot_163 rfl rfl ?_
      refine r_aload_n 165 C 0 dX4_slot_164 rfl rfl ?_
      refine r_getr 168 C (k := 0) shC_0 rfl hinX4 (by decide) rfl dX4_slot_165 rfl (by decide +kernel) ?_
      refine r_geti 171 C (k := 2) (st_0 is_1) rfl hinX2 (by decide) rfl dX4_slot_168 rfl (by decide +kernel) ?_
      refine r_icmp_gt 178 174 C dX4_slot_171 rfl rfl (fun c18 => ?_) (fun c18 => ?_)
      · have hf := oip c18 hf
        refine r_iconst (v := 0) 179 C dX4_slot_178 rfl (by decide) ?_
        have hf := Option.some.inj hf
        subst hf
        exact r_iret C hr hk0 dX4_slot_179
      · have hf := oin c18 hf
        refine r_iconst (v := 1) 175 C dX4_slot_174 rfl (by decide) ?_
        refine r_goto 179 C dX4_slot_175 rfl ?_
        have hf := Option.some.inj hf
        subst hf
        exact r_iret C hr hk0 dX4_slot_179
    have hf := oin c19 hf
    refine r_tabOut 180 C dX4_slot_10 (tab_o (fun k h1 h2 => by
      have h3 : k = 0 ∨ k = 1 ∨ k = 2 ∨ k = 3 ∨ k = 4 ∨ k = 5 := by omega
      rcases h3 with rfl | rfl | rfl | rfl | rfl | rfl
      · exact c3
      · exact c5
      · exact c9
      · exact c13
      · exact c17
      · exact c19)) rfl ?_
    refine r_bipush (v := (-2)) 182 C dX4_slot_180 rfl (by decide) ?_
    have hf := Option.some.inj hf
    subst hf
    exact r_iret C hr hk0 dX4_slot_182
  · have hf := obf c1 hf
    refine r_iconst (v := (-1)) 8 C dX4_slot_7 rfl (by decide) ?_
    have hf := Option.some.inj hf
    subst hf
    exact r_iret C hr hk0 dX4_slot_8
def rm_X4_lowest : Room := { frames := 1, cells := 0, slots := 0, locals := 21 }
theorem hd_X4_lowest : yX4_lowest.cls ≠ "java/lang/invoke/MethodHandle" ∧ yX4_lowest.cls ≠ "java/lang/invoke/VarHandle" ∧ (parseMethodDescriptor yX4_lowest.desc).map (fun d => d.parameters.length) = some 2 := by decide +kernel
set_option maxRecDepth 100000 in
set_option maxHeartbeats 4000000 in
theorem t_X4_lowest_L7 {p : Program} {l : Launch} {e : Env} {s : State} {m : MethodId} {args : Array Value} {below : List Frame} {meth : Method} {c : Code} {G : GG} {A : Nat → Prop} (C : KX p s m args c cX4_lowest 5 RX4 wsX4_lowest G shC A) (hr : meth.sig.returnType = (some .int)) (hk0 : meth.locks = false) (a1 : Int32) (a2 : Int32)  (v0 : Int32) (g : Mem) {res : Int32} {k : Int32 → Option Int32} (hk : ∀ (v2 : Int32), k v2 = some res → JJ p l e rm_X4_lowest s m args below meth c 5 G shC A (MQ below (k_Qi G shC A res g) args s 0 0 A) 43 [(2, .int v2)] [] g) : ∀ (n : Nat) (v2 : Int32) (v3 : Int32) (v4 : Int32), f_X4_lowest_L7 k v0 n v2 v3 v4 = some res → JJ p l e rm_X4_lowest s m args below meth c 5 G shC A (MQ below (k_Qi G shC A res g) args s 0 0 A) 7 [(0, .int v0), (2, .int v2), (3, .int v3), (4, .int v4)] [] g := by
  intro n
  induction n with
  | zero =>
    intro v2 v3 v4 hf
    rw [f_X4_lowest_L7] at hf
    cases hf
  | succ n ih =>
    intro v2 v3 v4 hf
    rw [f_X4_lowest_L7] at hf
    refine r_iload 9 C 3 dX4_lowest_7 rfl rfl ?_
    refine r_bipush (v := 6) 11 C dX4_lowest_9 rfl (by decide) ?_
    refine r_icmp_ge 43 14 C dX4_lowest_11 rfl rfl (fun c1 => ?_) (fun c1 => ?_)
    · have hf := oip c1 hf
      refine r_sub [(2, .int v2)] [1] rfl ?_
      exact hk _ hf
    · have hf := oin c1 hf
      refine r_iload_n 15 C 2 dX4_lowest_14 rfl rfl ?_
      refine r_if_le 43 18 C dX4_lowest_15 rfl rfl (fun c2 => ?_) (fun c2 => ?_)
      · have hf := oip c2 hf
        refine r_sub [(2, .int v2)] [1] rfl ?_
        exact hk _ hf
      · have hf := oin c2 hf
        refine r_iload_n 19 C 0 dX4_lowest_18 rfl rfl ?_
        refine r_iload 21 C 3 dX4_lowest_19 rfl rfl ?_
        refine r_Si (As := [.int v0, .int v4]) 24 C (c_X4_has l G A v0 v4 g _ rfl) (va_cwS 2 C.1.2.2.2.2 gX4_lowest_X4_has rfl rfl rfl hd_X4_has ⟨Nat.le_of_ble_eq_true rfl, Nat.le_of_ble_eq_true rfl⟩) rfl rfl (Nat.le_of_ble_eq_true rfl) dX4_lowest_21 rfl ?_
        refine r_if_eq 37 27 C dX4_lowest_24 rfl rfl (fun c3 => ?_) (fun c3 => ?_)
        · have hf := obf c3 hf
          obtain ⟨x4, hx4, hf⟩ := ol hf
          refine r_iinc 40 C 3 x4 [(4, .int x4), (0, .int v0), (2, .int v2), (3, .int v3)] dX4_lowest_37 rfl rfl hx4.symm (by decide) rfl ?_
          refine r_goto 7 C dX4_lowest_40 rfl ?_
          refine r_sub [(0, .int v0), (2, .int v2), (3, .int v3), (4, .int x4)] [1, 2, 3, 0] rfl ?_
          exact ih _ _ _ hf
        · have hf := obt c3 hf
          refine r_iload_n 28 C 1 dX4_lowest_27 rfl rfl ?_
          refine r_iconst (v := 1) 29 C dX4_lowest_28 rfl (by decide) ?_
          refine r_iload 31 C 3 dX4_lowest_29 rfl rfl ?_
          refine r_ishl 32 C dX4_lowest_31 rfl ?_
          refine r_ior 33 C dX4_lowest_32 rfl ?_
          obtain ⟨x5, hx5, hf⟩ := ol hf
          refine r_istore_n 34 C [(2, .int x5), (0, .int v0), (3, .int v3), (4, .int v4)] dX4_lowest_33 rfl hx5 (by decide) rfl ?_
          obtain ⟨x6, hx6, hf⟩ := ol hf
          refine r_iinc 37 C 2 x6 [(3, .int x6), (2, .int x5), (0, .int v0), (4, .int v4)] dX4_lowest_34 rfl rfl hx6.symm (by decide) rfl ?_
          obtain ⟨x7, hx7, hf⟩ := ol hf
          refine r_iinc 40 C 3 x7 [(4, .int x7), (3, .int x6), (2, .int x5), (0, .int v0)] dX4_lowest_37 rfl rfl hx7.symm (by decide) rfl ?_
          refine r_goto 7 C dX4_lowest_40 rfl ?_
          refine r_sub [(0, .int v0), (2, .int x5), (3, .int x6), (4, .int x7)] [3, 2, 1, 0] rfl ?_
          exact ih _ _ _ hf
set_option maxRecDepth 100000 in
set_option maxHeartbeats 4000000 in
theorem c_X4_lowest (l : Launch) (G : GG) (A : Nat → Prop) (a1 : Int32) (a2 : Int32)  (g : Mem) (res : Int32) (hf : f_X4_lowest a1 a2 = some res) : k_Mi l yX4_lowest wsX4_lowest rm_X4_lowest G shC A [.int a1, .int a2] g res g := by
  refine k_ofi (cc := cX4_lowest) (nL := 5) (own := RX4) (by decide +kernel) rfl rfl (by simp [lg_sl, Value.category]) ⟨rfl, rfl⟩ [(0, .int a1), (1, .int a2)] rfl ?_
  intro p e s m args below meth c C hr hk0
  rw [f_X4_lowest] at hf
  refine r_iconst (v := 0) 1 C dX4_lowest_0 rfl (by decide) ?_
  refine r_istore_n 2 C [(2, .int 0), (0, .int a1), (1, .int a2)] dX4_lowest_1 rfl rfl (by decide) rfl ?_
  refine r_iload_n 3 C 2 dX4_lowest_2 rfl rfl ?_
  refine r_istore_n 4 C [(3, .int a2), (2, .int 0), (0, .int a1), (1, .int a2)] dX4_lowest_3 rfl rfl (by decide) rfl ?_
  refine r_iconst (v := 0) 5 C dX4_lowest_4 rfl (by decide) ?_
  refine r_istore 7 C [(4, .int 0), (3, .int a2), (2, .int 0), (0, .int a1), (1, .int a2)] dX4_lowest_5 rfl rfl (by decide) rfl ?_
  refine r_sub [(0, .int a1), (2, .int 0), (3, .int a2), (4, .int 0)] [3, 2, 1, 0] rfl ?_
  refine t_X4_lowest_L7 C hr hk0 a1 a2 a1 g (fun x8 hf => ?_) fuel0 _ _ _ hf
  refine r_iload_n 44 C 0 dX4_lowest_43 rfl rfl ?_
  have hf := Option.some.inj hf
  subst hf
  exact r_iret C hr hk0 dX4_lowest_44
def rm_X4_witness : Room := { frames := 2, cells := 0, slots := 0, locals := 45 }
theorem hd_X4_witness : yX4_witness.cls = RX4 ∧ yX4_witness.cls ≠ "java/lang/invoke/MethodHandle" ∧ yX4_witness.cls ≠ "java/lang/invoke/VarHandle" ∧ (parseMethodDescriptor yX4_witness.desc).map (fun d => d.parameters.length) = some 4 := by decide +kernel
set_option maxRecDepth 100000 in
set_option maxHeartbeats 4000000 in
theorem t_X4_witness_J16 {p : Program} {l : Launch} {e : Env} {s : State} {m : MethodId} {args : Array Value} {below : List Frame} {meth : Method} {c : Code} {G : GG} {A : Nat → Prop} (C : KX p s m args c cX4_witness 7 RX4 wsX4_witness G shC A) (hr : meth.sig.returnType = (some .int)) (hk0 : meth.locks = false) (a1 : Int32) (a2 : Int32) (a3 : Int32) (a4 : Int32)  (v1 : Int32) (v2 : Int32) (v3 : Int32) (v4 : Int32) (s0 : Int32) (g : Mem) {res : Int32} (hf : f_X4_witness_J16 v1 v2 v3 v4 s0 = some res) : JJ p l e rm_X4_witness s m args below meth c 7 G shC A (MQ below (k_Qi G shC A res g) args s 0 0 A) 16 [(1, .int v1), (2, .int v2), (3, .int v3), (4, .int v4)] [.int s0] g := by
  rw [f_X4_witness_J16] at hf
  refine r_istore 18 C [(5, .int s0), (1, .int v1), (2, .int v2), (3, .int v3), (4, .int v4)] dX4_witness_16 rfl rfl (by decide) rfl ?_
  refine r_iload 20 C 0 dX4_witness_18 rfl rfl ?_
  refine r_if_eq 48 23 C dX4_witness_20 rfl rfl (fun c2 => ?_) (fun c2 => ?_)
  · have hf := oip c2 hf
    refine r_bipush (v := (-2)) 50 C dX4_witness_48 rfl (by decide) ?_
    have hf := Option.some.inj hf
    subst hf
    exact r_iret C hr hk0 dX4_witness_50
  · have hf := oin c2 hf
    refine r_iload_n 24 C 2 dX4_witness_23 rfl rfl ?_
    refine r_Si (As := [.int v2]) 27 C (c_X4_isSize l G A v2 g _ rfl) (va_cwS 1 C.1.2.2.2.2 gX4_witness_X4_isSize rfl rfl rfl hd_X4_isSize ⟨Nat.le_of_ble_eq_true rfl, Nat.le_of_ble_eq_true rfl⟩) rfl rfl (Nat.le_of_ble_eq_true rfl) dX4_witness_24 rfl ?_
    refine r_if_eq 48 30 C dX4_witness_27 rfl rfl (fun c3 => ?_) (fun c3 => ?_)
    · have hf := obf c3 hf
      refine r_bipush (v := (-2)) 50 C dX4_witness_48 rfl (by decide) ?_
      have hf := Option.some.inj hf
      subst hf
      exact r_iret C hr hk0 dX4_witness_50
    · have hf := obt c3 hf
      refine r_iload_n 31 C 3 dX4_witness_30 rfl rfl ?_
      refine r_Si (As := [.int v3]) 34 C (c_X4_isSize l G A v3 g _ rfl) (va_cwS 1 C.1.2.2.2.2 gX4_witness_X4_isSize rfl rfl rfl hd_X4_isSize ⟨Nat.le_of_ble_eq_true rfl, Nat.le_of_ble_eq_true rfl⟩) rfl rfl (Nat.le_of_ble_eq_true rfl) dX4_witness_31 rfl ?_
      refine r_if_eq 48 37 C dX4_witness_34 rfl rfl (fun c4 => ?_) (fun c4 => ?_)
      · have hf := obf c4 hf
        refine r_bipush (v := (-2)) 50 C dX4_witness_48 rfl (by decide) ?_
        have hf := Option.some.inj hf
        subst hf
        exact r_iret C hr hk0 dX4_witness_50
      · have hf := obt c4 hf
        refine r_iload 39 C 4 dX4_witness_37 rfl rfl ?_
        refine r_if_lt 48 42 C dX4_witness_39 rfl rfl (fun c5 => ?_) (fun c5 => ?_)
        · have hf := oip c5 hf
          refine r_bipush (v := (-2)) 50 C dX4_witness_48 rfl (by decide) ?_
          have hf := Option.some.inj hf
          subst hf
          exact r_iret C hr hk0 dX4_witness_50
        · have hf := oin c5 hf
          refine r_iload 44 C 4 dX4_witness_42 rfl rfl ?_
          refine r_iconst (v := 1) 45 C dX4_witness_44 rfl (by decide) ?_
          refine r_icmp_le 51 48 C dX4_witness_45 rfl rfl (fun c6 => ?_) (fun c6 => ?_)
          · have hf := oip c6 hf
            refine r_iload_n 52 C 2 dX4_witness_51 rfl rfl ?_
            refine r_iload_n 53 C 3 dX4_witness_52 rfl rfl ?_
            refine r_iadd 54 C dX4_witness_53 rfl ?_
            refine r_iload_n 55 C 1 dX4_witness_54 rfl rfl ?_
            refine r_Si (As := [.int v1]) 58 C (c_J6_bitCount_0f7a4 l G A v1 g _ rfl) (va_cwS 1 C.1.2.2.2.2 gX4_witness_J6_bitCount_0f7a4 rfl rfl rfl hd_J6_bitCount_0f7a4 ⟨Nat.le_of_ble_eq_true rfl, Nat.le_of_ble_eq_true rfl⟩) rfl rfl (Nat.le_of_ble_eq_true rfl) dX4_witness_55 rfl ?_
            refine r_icmp_le 64 61 C dX4_witness_58 rfl rfl (fun c7 => ?_) (fun c7 => ?_)
            · have hf := oip c7 hf
              refine r_iload_n 65 C 1 dX4_witness_64 rfl rfl ?_
              refine r_iload_n 66 C 2 dX4_witness_65 rfl rfl ?_
              obtain ⟨x8, hx8, hf⟩ := ob hf
              refine r_Si (As := [.int v1, .int v2]) 69 C (c_X4_lowest l G A v1 v2 g _ hx8) (va_cwS 2 C.1.2.2.2.2 gX4_witness_X4_lowest rfl rfl rfl hd_X4_lowest ⟨Nat.le_of_ble_eq_true rfl, Nat.le_of_ble_eq_true rfl⟩) rfl rfl (Nat.le_of_ble_eq_true rfl) dX4_witness_66 rfl ?_
              refine r_istore 71 C [(6, .int x8), (5, .int s0), (1, .int v1), (2, .int v2), (3, .int v3), (4, .int v4)] dX4_witness_69 rfl rfl (by decide) rfl ?_
              refine r_iload 73 C 5 dX4_witness_71 rfl rfl ?_
              refine r_if_ne 81 76 C dX4_witness_73 rfl rfl (fun c9 => ?_) (fun c9 => ?_)
              · have hf := oin c9 hf
                refine r_iload_n 82 C 2 dX4_witness_81 rfl rfl ?_
                refine r_iload 84 C 0 dX4_witness_82 rfl rfl ?_
                refine r_iconst (v := (-1)) 85 C dX4_witness_84 rfl (by decide) ?_
                refine r_ixor 86 C dX4_witness_85 rfl ?_
                refine r_iand 87 C dX4_witness_86 rfl ?_
                refine r_iload_n 88 C 4 dX4_witness_87 rfl rfl ?_
                obtain ⟨x10, hx10, hf⟩ := ob hf
                refine r_Si (As := [.int (v1 &&& (x8 ^^^ (-1))), .int v3]) 91 C (c_X4_lowest l G A (v1 &&& (x8 ^^^ (-1))) v3 g _ hx10) (va_cwS 2 C.1.2.2.2.2 gX4_witness_X4_lowest rfl rfl rfl hd_X4_lowest ⟨Nat.le_of_ble_eq_true rfl, Nat.le_of_ble_eq_true rfl⟩) rfl rfl (Nat.le_of_ble_eq_true rfl) dX4_witness_88 rfl ?_
                have hf := Option.some.inj hf
                subst hf
                exact r_iret C hr hk0 dX4_witness_91
              · have hf := oip c9 hf
                refine r_iload 78 C 0 dX4_witness_76 rfl rfl ?_
                refine r_goto 91 C dX4_witness_78 rfl ?_
                have hf := Option.some.inj hf
                subst hf
                exact r_iret C hr hk0 dX4_witness_91
            · have hf := oin c7 hf
              refine r_bipush (v := (-5)) 63 C dX4_witness_61 rfl (by decide) ?_
              have hf := Option.some.inj hf
              subst hf
              exact r_iret C hr hk0 dX4_witness_63
          · have hf := oin c6 hf
            refine r_bipush (v := (-2)) 50 C dX4_witness_48 rfl (by decide) ?_
            have hf := Option.some.inj hf
            subst hf
            exact r_iret C hr hk0 dX4_witness_50
set_option maxRecDepth 100000 in
set_option maxHeartbeats 4000000 in
theorem c_X4_witness (l : Launch) (G : GG) (A : Nat → Prop) (a1 : Int32) (a2 : Int32) (a3 : Int32) (a4 : Int32)  (g : Mem) (res : Int32) (hf : f_X4_witness a1 a2 a3 a4 = some res) : k_Mi l yX4_witness wsX4_witness rm_X4_witness G shC A [.ref (G.2.1 0), .int a1, .int a2, .int a3, .int a4] g res g := by
  refine k_ofi (cc := cX4_witness) (nL := 7) (own := RX4) (by decide +kernel) rfl rfl (by simp [lg_sl, Value.category]) ⟨rfl, rfl⟩ [(0, .ref (G.2.1 0)), (1, .int a1), (2, .int a2), (3, .int a3), (4, .int a4)] rfl ?_
  intro p e s m args below meth c C hr hk0
  rw [f_X4_witness] at hf
  refine r_iload_n 1 C 1 dX4_witness_0 rfl rfl ?_
  refine r_iconst (v := 1) 2 C dX4_witness_1 rfl (by decide) ?_
  refine r_icmp_lt 15 5 C dX4_witness_2 rfl rfl (fun c1 => ?_) (fun c1 => ?_)
  · have hf := oip c1 hf
    refine r_iconst (v := 0) 16 C dX4_witness_15 rfl (by decide) ?_
    refine r_sub [(1, .int a1), (2, .int a2), (3, .int a3), (4, .int a4)] [1, 2, 3, 4] rfl ?_
    exact t_X4_witness_J16 C hr hk0 a1 a2 a3 a4 a1 a2 a3 a4 0 g hf
  · have hf := oin c1 hf
    refine r_iload_n 6 C 1 dX4_witness_5 rfl rfl ?_
    refine r_bipush (v := 63) 8 C dX4_witness_6 rfl (by decide) ?_
    refine r_icmp_gt 15 11 C dX4_witness_8 rfl rfl (fun c11 => ?_) (fun c11 => ?_)
    · have hf := oip c11 hf
      refine r_iconst (v := 0) 16 C dX4_witness_15 rfl (by decide) ?_
      refine r_sub [(1, .int a1), (2, .int a2), (3, .int a3), (4, .int a4)] [1, 2, 3, 4] rfl ?_
      exact t_X4_witness_J16 C hr hk0 a1 a2 a3 a4 a1 a2 a3 a4 0 g hf
    · have hf := oin c11 hf
      refine r_iconst (v := 1) 12 C dX4_witness_11 rfl (by decide) ?_
      refine r_goto 16 C dX4_witness_12 rfl ?_
      refine r_sub [(1, .int a1), (2, .int a2), (3, .int a3), (4, .int a4)] [1, 2, 3, 4] rfl ?_
      exact t_X4_witness_J16 C hr hk0 a1 a2 a3 a4 a1 a2 a3 a4 1 g hf
theorem in_X4_count_X0 : ∀ w ∈ wsX00, w ∈ wsX4_count := by decide +kernel
theorem in_X4_count_X2 : ∀ w ∈ wsX20, w ∈ wsX4_count := by decide +kernel
theorem in_X4_count_X3 : ∀ w ∈ wsX30, w ∈ wsX4_count := by decide +kernel
theorem in_X4_count_X4 : ∀ w ∈ wsX40, w ∈ wsX4_count := by decide +kernel
def rm_X4_count : Room := { frames := 1, cells := 0, slots := 0, locals := 23 }
theorem hd_X4_count : yX4_count.cls = RX4 ∧ yX4_count.cls ≠ "java/lang/invoke/MethodHandle" ∧ yX4_count.cls ≠ "java/lang/invoke/VarHandle" ∧ (parseMethodDescriptor yX4_count.desc).map (fun d => d.parameters.length) = some 1 := by decide +kernel
set_option maxRecDepth 100000 in
set_option maxHeartbeats 4000000 in
theorem c_X4_count (l : Launch) (G : GG) (A : Nat → Prop) (a1 : Int32)  (g : Mem) (res : Int32) (hf : f_X4_count a1 g = some res) : k_Mi l yX4_count wsX4_count rm_X4_count G shC A [.ref (G.2.1 0), .int a1] g res g := by
  have hinX0 : ∀ w ∈ wsX00, w ∈ wsX4_count := in_X4_count_X0
  have hinX2 : ∀ w ∈ wsX20, w ∈ wsX4_count := in_X4_count_X2
  have hinX3 : ∀ w ∈ wsX30, w ∈ wsX4_count := in_X4_count_X3
  have hinX4 : ∀ w ∈ wsX40, w ∈ wsX4_count := in_X4_count_X4
  refine k_ofi (cc := cX4_count) (nL := 2) (own := RX4) (by decide +kernel) rfl rfl (by simp [lg_sl, Value.category]) ⟨rfl, rfl⟩ [(0, .ref (G.2.1 0)), (1, .int a1)] rfl ?_
  intro p e s m args below meth c C hr hk0
  rw [f_X4_count] at hf
  refine r_iload_n 1 C 1 dX4_count_0 rfl rfl ?_
  by_cases c2 : a1 = 0
  · have hf := oip c2 hf
    refine r_tabIn 60 C (off := 59) dX4_count_1 (by rw [c2]; decide) (by rw [c2]; decide) (by rw [c2]; rfl) rfl ?_
    refine r_aload_n 61 C 0 dX4_count_60 rfl rfl ?_
    refine r_getr 64 C (k := 0) shC_0 rfl hinX4 (by decide) rfl dX4_count_61 rfl (by decide +kernel) ?_
    obtain ⟨x1, hx1, hf⟩ := ob hf
    refine r_Vi (As := []) 67 C (st_0 is_1) rfl (c_X2_prefix l G A 1 is_1 g _ hx1) (cwV 0 C.1.2.2.2.2 gX4_count_X2_prefix rfl rfl rfl hd_X2_prefix ⟨Nat.le_of_ble_eq_true rfl, Nat.le_of_ble_eq_true rfl⟩) rfl rfl (Nat.le_of_ble_eq_true rfl) dX4_count_64 rfl ?_
    have hf := Option.some.inj hf
    subst hf
    exact r_iret C hr hk0 dX4_count_67
  have hf := oin c2 hf
  by_cases c4 : a1 = 1
  · have hf := oip c4 hf
    refine r_tabIn 68 C (off := 67) dX4_count_1 (by rw [c4]; decide) (by rw [c4]; decide) (by rw [c4]; rfl) rfl ?_
    refine r_aload_n 69 C 0 dX4_count_68 rfl rfl ?_
    refine r_getr 72 C (k := 0) shC_0 rfl hinX4 (by decide) rfl dX4_count_69 rfl (by decide +kernel) ?_
    refine r_iconst (v := 0) 73 C dX4_count_72 rfl (by decide) ?_
    obtain ⟨x3, hx3, hf⟩ := ob hf
    refine r_Vi (As := [.int 0]) 76 C (st_0 is_1) rfl (c_X2_chosenAbove l G A 1 0 is_1 g _ hx3) (cwV 1 C.1.2.2.2.2 gX4_count_X2_chosenAbove rfl rfl rfl hd_X2_chosenAbove ⟨Nat.le_of_ble_eq_true rfl, Nat.le_of_ble_eq_true rfl⟩) rfl rfl (Nat.le_of_ble_eq_true rfl) dX4_count_73 rfl ?_
    have hf := Option.some.inj hf
    subst hf
    exact r_iret C hr hk0 dX4_count_76
  have hf := oin c4 hf
  by_cases c5 : a1 = 2
  · have hf := oip c5 hf
    refine r_tabIn 77 C (off := 76) dX4_count_1 (by rw [c5]; decide) (by rw [c5]; decide) (by rw [c5]; rfl) rfl ?_
    refine r_aload_n 78 C 0 dX4_count_77 rfl rfl ?_
    refine r_getr 81 C (k := 0) shC_0 rfl hinX4 (by decide) rfl dX4_count_78 rfl (by decide +kernel) ?_
    refine r_geti 84 C (k := 2) (st_0 is_1) rfl hinX2 (by decide) rfl dX4_count_81 rfl (by decide +kernel) ?_
    have hf := Option.some.inj hf
    subst hf
    exact r_iret C hr hk0 dX4_count_84
  have hf := oin c5 hf
  by_cases c6 : a1 = 3
  · have hf := oip c6 hf
    refine r_tabIn 85 C (off := 84) dX4_count_1 (by rw [c6]; decide) (by rw [c6]; decide) (by rw [c6]; rfl) rfl ?_
    refine r_aload_n 86 C 0 dX4_count_85 rfl rfl ?_
    refine r_getr 89 C (k := 0) shC_0 rfl hinX4 (by decide) rfl dX4_count_86 rfl (by decide +kernel) ?_
    refine r_geti 92 C (k := 1) (st_0 is_1) rfl hinX2 (by decide) rfl dX4_count_89 rfl (by decide +kernel) ?_
    have hf := Option.some.inj hf
    subst hf
    exact r_iret C hr hk0 dX4_count_92
  have hf := oin c6 hf
  by_cases c7 : a1 = 4
  · have hf := oip c7 hf
    refine r_tabIn 93 C (off := 92) dX4_count_1 (by rw [c7]; decide) (by rw [c7]; decide) (by rw [c7]; rfl) rfl ?_
    refine r_aload_n 94 C 0 dX4_count_93 rfl rfl ?_
    refine r_getr 97 C (k := 0) shC_0 rfl hinX4 (by decide) rfl dX4_count_94 rfl (by decide +kernel) ?_
    refine r_geti 100 C (k := 0) (st_0 is_1) rfl hinX2 (by decide) rfl dX4_count_97 rfl (by decide +kernel) ?_
    have hf := Option.some.inj hf
    subst hf
    exact r_iret C hr hk0 dX4_count_100
  have hf := oin c7 hf
  by_cases c9 : a1 = 5
  · have hf := oip c9 hf
    refine r_tabIn 101 C (off := 100) dX4_count_1 (by rw [c9]; decide) (by rw [c9]; decide) (by rw [c9]; rfl) rfl ?_
    refine r_bipush (v := 16) 103 C dX4_count_101 rfl (by decide) ?_
    refine r_aload_n 104 C 0 dX4_count_103 rfl rfl ?_
    refine r_getr 107 C (k := 0) shC_0 rfl hinX4 (by decide) rfl dX4_count_104 rfl (by decide +kernel) ?_
    obtain ⟨x8, hx8, hf⟩ := ob hf
    refine r_Vi (As := []) 110 C (st_0 is_1) rfl (c_X2_prefix l G A 1 is_1 g _ hx8) (cwV 0 C.1.2.2.2.2 gX4_count_X2_prefix rfl rfl rfl hd_X2_prefix ⟨Nat.le_of_ble_eq_true rfl, Nat.le_of_ble_eq_true rfl⟩) rfl rfl (Nat.le_of_ble_eq_true rfl) dX4_count_107 rfl ?_
    refine r_iconst (v := 3) 111 C dX4_count_110 rfl (by decide) ?_
    refine r_iadd 112 C dX4_count_111 rfl ?_
    refine r_min 115 C (by decide +kernel) (by decide +kernel) (by decide +kernel) (by decide +kernel) (Nat.le_of_ble_eq_true rfl) (Nat.le_of_ble_eq_true rfl) dX4_count_112 rfl ?_
    have hf := Option.some.inj hf
    subst hf
    exact r_iret C hr hk0 dX4_count_115
  have hf := oin c9 hf
  by_cases c10 : a1 = 6
  · have hf := oip c10 hf
    refine r_tabIn 116 C (off := 115) dX4_count_1 (by rw [c10]; decide) (by rw [c10]; decide) (by rw [c10]; rfl) rfl ?_
    refine r_aload_n 117 C 0 dX4_count_116 rfl rfl ?_
    refine r_getr 120 C (k := 0) shC_0 rfl hinX4 (by decide) rfl dX4_count_117 rfl (by decide +kernel) ?_
    refine r_geti 123 C (k := 3) (st_0 is_1) rfl hinX2 (by decide) rfl dX4_count_120 rfl (by decide +kernel) ?_
    have hf := Option.some.inj hf
    subst hf
    exact r_iret C hr hk0 dX4_count_123
  have hf := oin c10 hf
  by_cases c11 : a1 = 7
  · have hf := oip c11 hf
    refine r_tabIn 124 C (off := 123) dX4_count_1 (by rw [c11]; decide) (by rw [c11]; decide) (by rw [c11]; rfl) rfl ?_
    refine r_aload_n 125 C 0 dX4_count_124 rfl rfl ?_
    refine r_getr 128 C (k := 0) shC_0 rfl hinX4 (by decide) rfl dX4_count_125 rfl (by decide +kernel) ?_
    refine r_geti 131 C (k := 4) (st_0 is_1) rfl hinX2 (by decide) rfl dX4_count_128 rfl (by decide +kernel) ?_
    have hf := Option.some.inj hf
    subst hf
    exact r_iret C hr hk0 dX4_count_131
  have hf := oin c11 hf
  by_cases c13 : a1 = 8
  · have hf := oip c13 hf
    refine r_tabIn 132 C (off := 131) dX4_count_1 (by rw [c13]; decide) (by rw [c13]; decide) (by rw [c13]; rfl) rfl ?_
    refine r_aload_n 133 C 0 dX4_count_132 rfl rfl ?_
    refine r_getr 136 C (k := 0) shC_0 rfl hinX4 (by decide) rfl dX4_count_133 rfl (by decide +kernel) ?_
    refine r_bipush (v := 100) 138 C dX4_count_136 rfl (by decide) ?_
    obtain ⟨x12, hx12, hf⟩ := ob hf
    refine r_Vi (As := [.int 100]) 141 C (st_0 is_1) rfl (c_X2_chosenAbove l G A 1 100 is_1 g _ hx12) (cwV 1 C.1.2.2.2.2 gX4_count_X2_chosenAbove rfl rfl rfl hd_X2_chosenAbove ⟨Nat.le_of_ble_eq_true rfl, Nat.le_of_ble_eq_true rfl⟩) rfl rfl (Nat.le_of_ble_eq_true rfl) dX4_count_138 rfl ?_
    have hf := Option.some.inj hf
    subst hf
    exact r_iret C hr hk0 dX4_count_141
  have hf := oin c13 hf
  by_cases c14 : a1 = 9
  · have hf := oip c14 hf
    refine r_tabIn 142 C (off := 141) dX4_count_1 (by rw [c14]; decide) (by rw [c14]; decide) (by rw [c14]; rfl) rfl ?_
    refine r_aload_n 143 C 0 dX4_count_142 rfl rfl ?_
    refine r_getr 146 C (k := 3) shC_0 rfl hinX4 (by decide) rfl dX4_count_143 rfl (by decide +kernel) ?_
    refine r_geti 149 C (k := 2) shC_25 rfl hinX0 (by decide) rfl dX4_count_146 rfl (by decide +kernel) ?_
    have hf := Option.some.inj hf
    subst hf
    exact r_iret C hr hk0 dX4_count_149
  have hf := oin c14 hf
  by_cases c15 : a1 = 10
  · have hf := oip c15 hf
    refine r_tabIn 150 C (off := 149) dX4_count_1 (by rw [c15]; decide) (by rw [c15]; decide) (by rw [c15]; rfl) rfl ?_
    refine r_aload_n 151 C 0 dX4_count_150 rfl rfl ?_
    refine r_getr 154 C (k := 4) shC_0 rfl hinX4 (by decide) rfl dX4_count_151 rfl (by decide +kernel) ?_
    refine r_geti 157 C (k := 1) shC_87 rfl hinX3 (by decide) rfl dX4_count_154 rfl (by decide +kernel) ?_
    have hf := Option.some.inj hf
    subst hf
    exact r_iret C hr hk0 dX4_count_157
  have hf := oin c15 hf
  refine r_tabOut 158 C dX4_count_1 (tab_o (fun k h1 h2 => by
    have h3 : k = 0 ∨ k = 1 ∨ k = 2 ∨ k = 3 ∨ k = 4 ∨ k = 5 ∨ k = 6 ∨ k = 7 ∨ k = 8 ∨ k = 9 ∨ k = 10 := by omega
    rcases h3 with rfl | rfl | rfl | rfl | rfl | rfl | rfl | rfl | rfl | rfl | rfl
    · exact c2
    · exact c4
    · exact c5
    · exact c6
    · exact c7
    · exact c9
    · exact c10
    · exact c11
    · exact c13
    · exact c14
    · exact c15)) rfl ?_
  refine r_bipush (v := (-2)) 160 C dX4_count_158 rfl (by decide) ?_
  have hf := Option.some.inj hf
  subst hf
  exact r_iret C hr hk0 dX4_count_160
