theorem in_X0_draft_X0 : ∀ w ∈ wsX00, w ∈ wsX0_draft := by decide +kernel
def rm_X0_draft : Room := { frames := 3, cells := 0, slots := 0, locals := 82 }
theorem hd_X0_draft : yX0_draft.cls = RX0 ∧ yX0_draft.cls ≠ "java/lang/invoke/MethodHandle" ∧ yX0_draft.cls ≠ "java/lang/invoke/VarHandle" ∧ (parseMethodDescriptor yX0_draft.desc).map (fun d => d.parameters.length) = some 1 := by decide +kernel
set_option maxRecDepth 100000 in
set_option maxHeartbeats 4000000 in
theorem c_X0_draft (l : Launch) (G : GG) (A : Nat → Prop) (o1 : Nat) (ho1 : IsSt o1) (g : Mem) (res : Mem) (hf : f_X0_draft o1 g = some res) : k_Mv l yX0_draft wsX0_draft rm_X0_draft G shC A [.ref (G.2.1 25), .ref (G.2.1 o1)] g res := by
  have hinX0 : ∀ w ∈ wsX00, w ∈ wsX0_draft := in_X0_draft_X0
  refine k_ofv (cc := cX0_draft) (nL := 2) (own := RX0) (by decide +kernel) rfl rfl (by simp [lg_sl, Value.category]) ⟨rfl, rfl⟩ [(0, .ref (G.2.1 25)), (1, .ref (G.2.1 o1))] rfl ?_
  intro p e s m args below meth c C hr hk0
  rw [f_X0_draft] at hf
  refine r_aload_n 1 C 0 dX0_draft_0 rfl rfl ?_
  refine r_getr 4 C (k := 0) shC_25 rfl hinX0 (by decide) rfl dX0_draft_1 rfl (by decide +kernel) ?_
  refine r_aload_n 5 C 0 dX0_draft_4 rfl rfl ?_
  refine r_geti 8 C (k := 1) shC_25 rfl hinX0 (by decide) rfl dX0_draft_5 rfl (by decide +kernel) ?_
  obtain ⟨r1, hr1, hf⟩ := ob hf
  refine r_aaload 9 C shC_26 dX0_draft_8 rfl hr1 ?_
  refine r_aload_n 10 C 1 dX0_draft_9 rfl rfl ?_
  obtain ⟨g2, hg2, hf⟩ := ob hf
  refine r_Vv (As := [.ref (G.2.1 o1)]) 13 C (st_0 (is_row hr1)) rfl (c_X2_copy l G A r1 o1 (is_row hr1) ho1 g _ hg2) (cwV 1 C.1.2.2.2.2 gX0_draft_X2_copy rfl rfl rfl hd_X2_copy ⟨Nat.le_of_ble_eq_true rfl, Nat.le_of_ble_eq_true rfl⟩) rfl rfl (Nat.le_of_ble_eq_true rfl) dX0_draft_10 rfl ?_
  have hf := Option.some.inj hf
  subst hf
  exact r_vret C hr hk0 dX0_draft_13
theorem in_X0_bringBackDraft_X0 : ∀ w ∈ wsX00, w ∈ wsX0_bringBackDraft := by decide +kernel
def rm_X0_bringBackDraft : Room := { frames := 3, cells := 0, slots := 0, locals := 82 }
theorem hd_X0_bringBackDraft : yX0_bringBackDraft.cls = RX0 ∧ yX0_bringBackDraft.cls ≠ "java/lang/invoke/MethodHandle" ∧ yX0_bringBackDraft.cls ≠ "java/lang/invoke/VarHandle" ∧ (parseMethodDescriptor yX0_bringBackDraft.desc).map (fun d => d.parameters.length) = some 1 := by decide +kernel
set_option maxRecDepth 100000 in
set_option maxHeartbeats 4000000 in
theorem c_X0_bringBackDraft (l : Launch) (G : GG) (A : Nat → Prop) (o1 : Nat) (ho1 : IsSt o1) (g : Mem) (res : Mem) (hf : f_X0_bringBackDraft o1 g = some res) : k_Mv l yX0_bringBackDraft wsX0_bringBackDraft rm_X0_bringBackDraft G shC A [.ref (G.2.1 25), .ref (G.2.1 o1)] g res := by
  have hinX0 : ∀ w ∈ wsX00, w ∈ wsX0_bringBackDraft := in_X0_bringBackDraft_X0
  refine k_ofv (cc := cX0_bringBackDraft) (nL := 2) (own := RX0) (by decide +kernel) rfl rfl (by simp [lg_sl, Value.category]) ⟨rfl, rfl⟩ [(0, .ref (G.2.1 25)), (1, .ref (G.2.1 o1))] rfl ?_
  intro p e s m args below meth c C hr hk0
  rw [f_X0_bringBackDraft] at hf
  refine r_aload_n 1 C 1 dX0_bringBackDraft_0 rfl rfl ?_
  refine r_aload_n 2 C 0 dX0_bringBackDraft_1 rfl rfl ?_
  refine r_getr 5 C (k := 0) shC_25 rfl hinX0 (by decide) rfl dX0_bringBackDraft_2 rfl (by decide +kernel) ?_
  refine r_aload_n 6 C 0 dX0_bringBackDraft_5 rfl rfl ?_
  refine r_geti 9 C (k := 1) shC_25 rfl hinX0 (by decide) rfl dX0_bringBackDraft_6 rfl (by decide +kernel) ?_
  obtain ⟨r1, hr1, hf⟩ := ob hf
  refine r_aaload 10 C shC_26 dX0_bringBackDraft_9 rfl hr1 ?_
  obtain ⟨g2, hg2, hf⟩ := ob hf
  refine r_Vv (As := [.ref (G.2.1 r1)]) 13 C (st_0 ho1) rfl (c_X2_copy l G A o1 r1 ho1 (is_row hr1) g _ hg2) (cwV 1 C.1.2.2.2.2 gX0_bringBackDraft_X2_copy rfl rfl rfl hd_X2_copy ⟨Nat.le_of_ble_eq_true rfl, Nat.le_of_ble_eq_true rfl⟩) rfl rfl (Nat.le_of_ble_eq_true rfl) dX0_bringBackDraft_10 rfl ?_
  have hf := Option.some.inj hf
  subst hf
  exact r_vret C hr hk0 dX0_bringBackDraft_13
theorem in_X0_commit_X0 : ∀ w ∈ wsX00, w ∈ wsX0_commit := by decide +kernel
def rm_X0_commit : Room := { frames := 1, cells := 0, slots := 0, locals := 21 }
theorem hd_X0_commit : yX0_commit.cls = RX0 ∧ yX0_commit.cls ≠ "java/lang/invoke/MethodHandle" ∧ yX0_commit.cls ≠ "java/lang/invoke/VarHandle" ∧ (parseMethodDescriptor yX0_commit.desc).map (fun d => d.parameters.length) = some 0 := by decide +kernel
set_option maxRecDepth 100000 in
set_option maxHeartbeats 4000000 in
theorem c_X0_commit (l : Launch) (G : GG) (A : Nat → Prop)   (g : Mem) (res : Mem) (hf : f_X0_commit  g = some res) : k_Mv l yX0_commit wsX0_commit rm_X0_commit G shC A [.ref (G.2.1 25)] g res := by
  have hinX0 : ∀ w ∈ wsX00, w ∈ wsX0_commit := in_X0_commit_X0
  refine k_ofv (cc := cX0_commit) (nL := 1) (own := RX0) (by decide +kernel) rfl rfl (by simp [lg_sl, Value.category]) ⟨rfl, rfl⟩ [(0, .ref (G.2.1 25))] rfl ?_
  intro p e s m args below meth c C hr hk0
  rw [f_X0_commit] at hf
  refine r_aload_n 1 C 0 dX0_commit_0 rfl rfl ?_
  refine r_aload_n 2 C 0 dX0_commit_1 rfl rfl ?_
  refine r_geti 5 C (k := 1) shC_25 rfl hinX0 (by decide) rfl dX0_commit_2 rfl (by decide +kernel) ?_
  refine r_iconst (v := 1) 6 C dX0_commit_5 rfl (by decide) ?_
  refine r_iadd 7 C dX0_commit_6 rfl ?_
  refine r_iconst (v := 5) 8 C dX0_commit_7 rfl (by decide) ?_
  refine r_irem 9 C dX0_commit_8 rfl (by decide) ?_
  obtain ⟨g1, hg1, hf⟩ := ol hf
  refine r_puti 12 C (k := 1) (ty := .int) tyX0 tyX0_ok nmX0 shC_25 rfl hinX0 (by decide) rfl rfl (by decide +kernel) rfl rfl hg1 dX0_commit_9 rfl (by decide +kernel) ?_
  refine r_aload_n 13 C 0 dX0_commit_12 rfl rfl ?_
  refine r_iconst (v := 4) 14 C dX0_commit_13 rfl (by decide) ?_
  refine r_aload_n 15 C 0 dX0_commit_14 rfl rfl ?_
  refine r_geti 18 C (k := 2) shC_25 rfl hinX0 (by decide) rfl dX0_commit_15 rfl (by decide +kernel) ?_
  refine r_iconst (v := 1) 19 C dX0_commit_18 rfl (by decide) ?_
  refine r_iadd 20 C dX0_commit_19 rfl ?_
  refine r_min 23 C (by decide +kernel) (by decide +kernel) (by decide +kernel) (by decide +kernel) (Nat.le_of_ble_eq_true rfl) (Nat.le_of_ble_eq_true rfl) dX0_commit_20 rfl ?_
  obtain ⟨g2, hg2, hf⟩ := ol hf
  refine r_puti 26 C (k := 2) (ty := .int) tyX0 tyX0_ok nmX0 shC_25 rfl hinX0 (by decide) rfl rfl (by decide +kernel) rfl rfl hg2 dX0_commit_23 rfl (by decide +kernel) ?_
  have hf := Option.some.inj hf
  subst hf
  exact r_vret C hr hk0 dX0_commit_26
theorem in_X0_bringBackLatest_X0 : ∀ w ∈ wsX00, w ∈ wsX0_bringBackLatest := by decide +kernel
def rm_X0_bringBackLatest : Room := { frames := 3, cells := 0, slots := 0, locals := 82 }
theorem hd_X0_bringBackLatest : yX0_bringBackLatest.cls = RX0 ∧ yX0_bringBackLatest.cls ≠ "java/lang/invoke/MethodHandle" ∧ yX0_bringBackLatest.cls ≠ "java/lang/invoke/VarHandle" ∧ (parseMethodDescriptor yX0_bringBackLatest.desc).map (fun d => d.parameters.length) = some 1 := by decide +kernel
set_option maxRecDepth 100000 in
set_option maxHeartbeats 4000000 in
theorem c_X0_bringBackLatest (l : Launch) (G : GG) (A : Nat → Prop) (o1 : Nat) (ho1 : IsSt o1) (g : Mem) (res : Int32 × Mem) (hf : f_X0_bringBackLatest o1 g = some res) : k_Mi l yX0_bringBackLatest wsX0_bringBackLatest rm_X0_bringBackLatest G shC A [.ref (G.2.1 25), .ref (G.2.1 o1)] g res.1 res.2 := by
  have hinX0 : ∀ w ∈ wsX00, w ∈ wsX0_bringBackLatest := in_X0_bringBackLatest_X0
  refine k_ofi (cc := cX0_bringBackLatest) (nL := 2) (own := RX0) (by decide +kernel) rfl rfl (by simp [lg_sl, Value.category]) ⟨rfl, rfl⟩ [(0, .ref (G.2.1 25)), (1, .ref (G.2.1 o1))] rfl ?_
  intro p e s m args below meth c C hr hk0
  rw [f_X0_bringBackLatest] at hf
  refine r_aload_n 1 C 0 dX0_bringBackLatest_0 rfl rfl ?_
  refine r_geti 4 C (k := 2) shC_25 rfl hinX0 (by decide) rfl dX0_bringBackLatest_1 rfl (by decide +kernel) ?_
  refine r_if_ne 10 7 C dX0_bringBackLatest_4 rfl rfl (fun c1 => ?_) (fun c1 => ?_)
  · have hf := oin c1 hf
    refine r_aload_n 11 C 0 dX0_bringBackLatest_10 rfl rfl ?_
    refine r_aload_n 12 C 0 dX0_bringBackLatest_11 rfl rfl ?_
    refine r_geti 15 C (k := 1) shC_25 rfl hinX0 (by decide) rfl dX0_bringBackLatest_12 rfl (by decide +kernel) ?_
    refine r_iconst (v := 5) 16 C dX0_bringBackLatest_15 rfl (by decide) ?_
    refine r_iadd 17 C dX0_bringBackLatest_16 rfl ?_
    refine r_iconst (v := 1) 18 C dX0_bringBackLatest_17 rfl (by decide) ?_
    refine r_isub 19 C dX0_bringBackLatest_18 rfl ?_
    refine r_iconst (v := 5) 20 C dX0_bringBackLatest_19 rfl (by decide) ?_
    refine r_irem 21 C dX0_bringBackLatest_20 rfl (by decide) ?_
    obtain ⟨g2, hg2, hf⟩ := ol hf
    refine r_puti 24 C (k := 1) (ty := .int) tyX0 tyX0_ok nmX0 shC_25 rfl hinX0 (by decide) rfl rfl (by decide +kernel) rfl rfl hg2 dX0_bringBackLatest_21 rfl (by decide +kernel) ?_
    refine r_aload_n 25 C 0 dX0_bringBackLatest_24 rfl rfl ?_
    refine r_dup 26 C dX0_bringBackLatest_25 rfl rfl ?_
    refine r_geti 29 C (k := 2) shC_25 rfl hinX0 (by decide) rfl dX0_bringBackLatest_26 rfl (by decide +kernel) ?_
    refine r_iconst (v := 1) 30 C dX0_bringBackLatest_29 rfl (by decide) ?_
    refine r_isub 31 C dX0_bringBackLatest_30 rfl ?_
    obtain ⟨g3, hg3, hf⟩ := ol hf
    refine r_puti 34 C (k := 2) (ty := .int) tyX0 tyX0_ok nmX0 shC_25 rfl hinX0 (by decide) rfl rfl (by decide +kernel) rfl rfl hg3 dX0_bringBackLatest_31 rfl (by decide +kernel) ?_
    refine r_aload_n 35 C 1 dX0_bringBackLatest_34 rfl rfl ?_
    refine r_aload_n 36 C 0 dX0_bringBackLatest_35 rfl rfl ?_
    refine r_getr 39 C (k := 0) shC_25 rfl hinX0 (by decide) rfl dX0_bringBackLatest_36 rfl (by decide +kernel) ?_
    refine r_aload_n 40 C 0 dX0_bringBackLatest_39 rfl rfl ?_
    refine r_geti 43 C (k := 1) shC_25 rfl hinX0 (by decide) rfl dX0_bringBackLatest_40 rfl (by decide +kernel) ?_
    obtain ⟨r4, hr4, hf⟩ := ob hf
    refine r_aaload 44 C shC_26 dX0_bringBackLatest_43 rfl hr4 ?_
    obtain ⟨g5, hg5, hf⟩ := ob hf
    refine r_Vv (As := [.ref (G.2.1 r4)]) 47 C (st_0 ho1) rfl (c_X2_copy l G A o1 r4 ho1 (is_row hr4) g3 _ hg5) (cwV 1 C.1.2.2.2.2 gX0_bringBackLatest_X2_copy rfl rfl rfl hd_X2_copy ⟨Nat.le_of_ble_eq_true rfl, Nat.le_of_ble_eq_true rfl⟩) rfl rfl (Nat.le_of_ble_eq_true rfl) dX0_bringBackLatest_44 rfl ?_
    refine r_aload_n 48 C 0 dX0_bringBackLatest_47 rfl rfl ?_
    refine r_geti 51 C (k := 2) shC_25 rfl hinX0 (by decide) rfl dX0_bringBackLatest_48 rfl (by decide +kernel) ?_
    have hf := Option.some.inj hf
    subst hf
    exact r_iret C hr hk0 dX0_bringBackLatest_51
  · have hf := oip c1 hf
    refine r_bipush (v := (-5)) 9 C dX0_bringBackLatest_7 rfl (by decide) ?_
    have hf := Option.some.inj hf
    subst hf
    exact r_iret C hr hk0 dX0_bringBackLatest_9
theorem in_X3_signAt_X3 : ∀ w ∈ wsX30, w ∈ wsX3_signAt := by decide +kernel
def rm_X3_signAt : Room := { frames := 0, cells := 0, slots := 0, locals := 0 }
theorem hd_X3_signAt : yX3_signAt.cls = RX3 ∧ yX3_signAt.cls ≠ "java/lang/invoke/MethodHandle" ∧ yX3_signAt.cls ≠ "java/lang/invoke/VarHandle" ∧ (parseMethodDescriptor yX3_signAt.desc).map (fun d => d.parameters.length) = some 1 := by decide +kernel
set_option maxRecDepth 100000 in
set_option maxHeartbeats 4000000 in
theorem c_X3_signAt (l : Launch) (G : GG) (A : Nat → Prop) (a1 : Int32)  (g : Mem) (res : Int32) (hf : f_X3_signAt a1 g = some res) : k_Mi l yX3_signAt wsX3_signAt rm_X3_signAt G shC A [.ref (G.2.1 87), .int a1] g res g := by
  have hinX3 : ∀ w ∈ wsX30, w ∈ wsX3_signAt := in_X3_signAt_X3
  refine k_ofi (cc := cX3_signAt) (nL := 2) (own := RX3) (by decide +kernel) rfl rfl (by simp [lg_sl, Value.category]) ⟨rfl, rfl⟩ [(0, .ref (G.2.1 87)), (1, .int a1)] rfl ?_
  intro p e s m args below meth c C hr hk0
  rw [f_X3_signAt] at hf
  refine r_iload_n 1 C 1 dX3_signAt_0 rfl rfl ?_
  refine r_if_lt 21 4 C dX3_signAt_1 rfl rfl (fun c1 => ?_) (fun c1 => ?_)
  · have hf := oip c1 hf
    refine r_iconst (v := 0) 22 C dX3_signAt_21 rfl (by decide) ?_
    have hf := Option.some.inj hf
    subst hf
    exact r_iret C hr hk0 dX3_signAt_22
  · have hf := oin c1 hf
    refine r_iload_n 5 C 1 dX3_signAt_4 rfl rfl ?_
    refine r_aload_n 6 C 0 dX3_signAt_5 rfl rfl ?_
    refine r_geti 9 C (k := 1) shC_87 rfl hinX3 (by decide) rfl dX3_signAt_6 rfl (by decide +kernel) ?_
    refine r_icmp_ge 21 12 C dX3_signAt_9 rfl rfl (fun c2 => ?_) (fun c2 => ?_)
    · have hf := oip c2 hf
      refine r_iconst (v := 0) 22 C dX3_signAt_21 rfl (by decide) ?_
      have hf := Option.some.inj hf
      subst hf
      exact r_iret C hr hk0 dX3_signAt_22
    · have hf := oin c2 hf
      refine r_aload_n 13 C 0 dX3_signAt_12 rfl rfl ?_
      refine r_getr 16 C (k := 0) shC_87 rfl hinX3 (by decide) rfl dX3_signAt_13 rfl (by decide +kernel) ?_
      refine r_iload_n 17 C 1 dX3_signAt_16 rfl rfl ?_
      obtain ⟨x3, hx3, hf⟩ := ob hf
      refine r_caload 18 C shC_88 dX3_signAt_17 rfl hx3 ?_
      refine r_goto 22 C dX3_signAt_18 rfl ?_
      have hf := Option.some.inj hf
      subst hf
      exact r_iret C hr hk0 dX3_signAt_22
theorem in_X1_readComma_X1 : ∀ w ∈ wsX10, w ∈ wsX1_readComma := by decide +kernel
def rm_X1_readComma : Room := { frames := 1, cells := 0, slots := 0, locals := 21 }
theorem hd_X1_readComma : yX1_readComma.cls = RX1 ∧ yX1_readComma.cls ≠ "java/lang/invoke/MethodHandle" ∧ yX1_readComma.cls ≠ "java/lang/invoke/VarHandle" ∧ (parseMethodDescriptor yX1_readComma.desc).map (fun d => d.parameters.length) = some 1 := by decide +kernel
set_option maxRecDepth 100000 in
set_option maxHeartbeats 4000000 in
theorem c_X1_readComma (l : Launch) (G : GG) (A : Nat → Prop)   (g : Mem) (res : Bool × Mem) (hf : f_X1_readComma  g = some res) : k_Mi l yX1_readComma wsX1_readComma rm_X1_readComma G shC A [.ref (G.2.1 89), .ref (G.2.1 87)] g (bI res.1) res.2 := by
  have hinX1 : ∀ w ∈ wsX10, w ∈ wsX1_readComma := in_X1_readComma_X1
  refine k_ofi (cc := cX1_readComma) (nL := 2) (own := RX1) (by decide +kernel) rfl rfl (by simp [lg_sl, Value.category]) ⟨rfl, rfl⟩ [(0, .ref (G.2.1 89)), (1, .ref (G.2.1 87))] rfl ?_
  intro p e s m args below meth c C hr hk0
  rw [f_X1_readComma] at hf
  refine r_aload_n 1 C 1 dX1_readComma_0 rfl rfl ?_
  refine r_aload_n 2 C 0 dX1_readComma_1 rfl rfl ?_
  refine r_geti 5 C (k := 3) shC_89 rfl hinX1 (by decide) rfl dX1_readComma_2 rfl (by decide +kernel) ?_
  obtain ⟨x1, hx1, hf⟩ := ob hf
  refine r_Vi (As := [.int (g 89 3)]) 8 C shC_87 rfl (c_X3_signAt l G A (g 89 3) g _ hx1) (cwV 1 C.1.2.2.2.2 gX1_readComma_X3_signAt rfl rfl rfl hd_X3_signAt ⟨Nat.le_of_ble_eq_true rfl, Nat.le_of_ble_eq_true rfl⟩) rfl rfl (Nat.le_of_ble_eq_true rfl) dX1_readComma_5 rfl ?_
  refine r_bipush (v := 44) 10 C dX1_readComma_8 rfl (by decide) ?_
  refine r_icmp_eq 15 13 C dX1_readComma_10 rfl rfl (fun c2 => ?_) (fun c2 => ?_)
  · have hf := oip c2 hf
    refine r_aload_n 16 C 0 dX1_readComma_15 rfl rfl ?_
    refine r_dup 17 C dX1_readComma_16 rfl rfl ?_
    refine r_geti 20 C (k := 3) shC_89 rfl hinX1 (by decide) rfl dX1_readComma_17 rfl (by decide +kernel) ?_
    refine r_iconst (v := 1) 21 C dX1_readComma_20 rfl (by decide) ?_
    refine r_iadd 22 C dX1_readComma_21 rfl ?_
    obtain ⟨g3, hg3, hf⟩ := ol hf
    refine r_puti 25 C (k := 3) (ty := .int) tyX1 tyX1_ok nmX1 shC_89 rfl hinX1 (by decide) rfl rfl (by decide +kernel) rfl rfl hg3 dX1_readComma_22 rfl (by decide +kernel) ?_
    refine r_iconst (v := 1) 26 C dX1_readComma_25 rfl (by decide) ?_
    have hf := Option.some.inj hf
    subst hf
    exact r_zret C hr hk0 true rfl dX1_readComma_26
  · have hf := oin c2 hf
    refine r_iconst (v := 0) 14 C dX1_readComma_13 rfl (by decide) ?_
    have hf := Option.some.inj hf
    subst hf
    exact r_zret C hr hk0 false rfl dX1_readComma_14
theorem in_X1_tell_X1 : ∀ w ∈ wsX10, w ∈ wsX1_tell := by decide +kernel
def rm_X1_tell : Room := { frames := 0, cells := 0, slots := 0, locals := 0 }
theorem hd_X1_tell : yX1_tell.cls = RX1 ∧ yX1_tell.cls ≠ "java/lang/invoke/MethodHandle" ∧ yX1_tell.cls ≠ "java/lang/invoke/VarHandle" ∧ (parseMethodDescriptor yX1_tell.desc).map (fun d => d.parameters.length) = some 1 := by decide +kernel
set_option maxRecDepth 100000 in
set_option maxHeartbeats 4000000 in
theorem c_X1_tell (l : Launch) (G : GG) (A : Nat → Prop) (a1 : Int32)  (g : Mem) (res : Mem) (hf : f_X1_tell a1 g = some res) : k_Mv l yX1_tell wsX1_tell rm_X1_tell G shC A [.ref (G.2.1 89), .int a1] g res := by
  have hinX1 : ∀ w ∈ wsX10, w ∈ wsX1_tell := in_X1_tell_X1
  refine k_ofv (cc := cX1_tell) (nL := 2) (own := RX1) (by decide +kernel) rfl rfl (by simp [lg_sl, Value.category]) ⟨rfl, rfl⟩ [(0, .ref (G.2.1 89)), (1, .int a1)] rfl ?_
  intro p e s m args below meth c C hr hk0
  rw [f_X1_tell] at hf
  refine r_aload_n 1 C 0 dX1_tell_0 rfl rfl ?_
  refine r_geti 4 C (k := 4) shC_89 rfl hinX1 (by decide) rfl dX1_tell_1 rfl (by decide +kernel) ?_
  refine r_iconst (v := 3) 5 C dX1_tell_4 rfl (by decide) ?_
  refine r_icmp_ge 44 8 C dX1_tell_5 rfl rfl (fun c1 => ?_) (fun c1 => ?_)
  · have hf := oip c1 hf
    have hf := Option.some.inj hf
    subst hf
    exact r_vret C hr hk0 dX1_tell_44
  · have hf := oin c1 hf
    refine r_aload_n 9 C 0 dX1_tell_8 rfl rfl ?_
    refine r_geti 12 C (k := 5) shC_89 rfl hinX1 (by decide) rfl dX1_tell_9 rfl (by decide +kernel) ?_
    refine r_bipush (v := 20) 14 C dX1_tell_12 rfl (by decide) ?_
    refine r_icmp_ge 44 17 C dX1_tell_14 rfl rfl (fun c2 => ?_) (fun c2 => ?_)
    · have hf := oip c2 hf
      have hf := Option.some.inj hf
      subst hf
      exact r_vret C hr hk0 dX1_tell_44
    · have hf := oin c2 hf
      refine r_aload_n 18 C 0 dX1_tell_17 rfl rfl ?_
      refine r_getr 21 C (k := 2) shC_89 rfl hinX1 (by decide) rfl dX1_tell_18 rfl (by decide +kernel) ?_
      refine r_aload_n 22 C 0 dX1_tell_21 rfl rfl ?_
      refine r_geti 25 C (k := 5) shC_89 rfl hinX1 (by decide) rfl dX1_tell_22 rfl (by decide +kernel) ?_
      refine r_iconst (v := 3) 26 C dX1_tell_25 rfl (by decide) ?_
      refine r_imul 27 C dX1_tell_26 rfl ?_
      refine r_aload_n 28 C 0 dX1_tell_27 rfl rfl ?_
      refine r_geti 31 C (k := 4) shC_89 rfl hinX1 (by decide) rfl dX1_tell_28 rfl (by decide +kernel) ?_
      refine r_iadd 32 C dX1_tell_31 rfl ?_
      refine r_iload_n 33 C 1 dX1_tell_32 rfl rfl ?_
      obtain ⟨g3, hg3, hf⟩ := ob hf
      refine r_iastore 34 C shC_92 dX1_tell_33 rfl hg3 ?_
      refine r_aload_n 35 C 0 dX1_tell_34 rfl rfl ?_
      refine r_dup 36 C dX1_tell_35 rfl rfl ?_
      refine r_geti 39 C (k := 4) shC_89 rfl hinX1 (by decide) rfl dX1_tell_36 rfl (by decide +kernel) ?_
      refine r_iconst (v := 1) 40 C dX1_tell_39 rfl (by decide) ?_
      refine r_iadd 41 C dX1_tell_40 rfl ?_
      obtain ⟨g4, hg4, hf⟩ := ol hf
      refine r_puti 44 C (k := 4) (ty := .int) tyX1 tyX1_ok nmX1 shC_89 rfl hinX1 (by decide) rfl rfl (by decide +kernel) rfl rfl hg4 dX1_tell_41 rfl (by decide +kernel) ?_
      have hf := Option.some.inj hf
      subst hf
      exact r_vret C hr hk0 dX1_tell_44
theorem in_X1_readDigit_X1 : ∀ w ∈ wsX10, w ∈ wsX1_readDigit := by decide +kernel
def rm_X1_readDigit : Room := { frames := 1, cells := 0, slots := 0, locals := 21 }
theorem hd_X1_readDigit : yX1_readDigit.cls = RX1 ∧ yX1_readDigit.cls ≠ "java/lang/invoke/MethodHandle" ∧ yX1_readDigit.cls ≠ "java/lang/invoke/VarHandle" ∧ (parseMethodDescriptor yX1_readDigit.desc).map (fun d => d.parameters.length) = some 2 := by decide +kernel
set_option maxRecDepth 100000 in
set_option maxHeartbeats 4000000 in
theorem c_X1_readDigit (l : Launch) (G : GG) (A : Nat → Prop) (a2 : Int32)  (g : Mem) (res : Bool × Mem) (hf : f_X1_readDigit a2 g = some res) : k_Mi l yX1_readDigit wsX1_readDigit rm_X1_readDigit G shC A [.ref (G.2.1 89), .ref (G.2.1 87), .int a2] g (bI res.1) res.2 := by
  have hinX1 : ∀ w ∈ wsX10, w ∈ wsX1_readDigit := in_X1_readDigit_X1
  refine k_ofi (cc := cX1_readDigit) (nL := 4) (own := RX1) (by decide +kernel) rfl rfl (by simp [lg_sl, Value.category]) ⟨rfl, rfl⟩ [(0, .ref (G.2.1 89)), (1, .ref (G.2.1 87)), (2, .int a2)] rfl ?_
  intro p e s m args below meth c C hr hk0
  rw [f_X1_readDigit] at hf
  refine r_aload_n 1 C 1 dX1_readDigit_0 rfl rfl ?_
  refine r_aload_n 2 C 0 dX1_readDigit_1 rfl rfl ?_
  refine r_geti 5 C (k := 3) shC_89 rfl hinX1 (by decide) rfl dX1_readDigit_2 rfl (by decide +kernel) ?_
  obtain ⟨x1, hx1, hf⟩ := ob hf
  refine r_Vi (As := [.int (g 89 3)]) 8 C shC_87 rfl (c_X3_signAt l G A (g 89 3) g _ hx1) (cwV 1 C.1.2.2.2.2 gX1_readDigit_X3_signAt rfl rfl rfl hd_X3_signAt ⟨Nat.le_of_ble_eq_true rfl, Nat.le_of_ble_eq_true rfl⟩) rfl rfl (Nat.le_of_ble_eq_true rfl) dX1_readDigit_5 rfl ?_
  refine r_bipush (v := 48) 10 C dX1_readDigit_8 rfl (by decide) ?_
  refine r_isub 11 C dX1_readDigit_10 rfl ?_
  obtain ⟨x2, hx2, hf⟩ := ol hf
  refine r_istore_n 12 C [(3, .int x2), (0, .ref (G.2.1 89)), (1, .ref (G.2.1 87)), (2, .int a2)] dX1_readDigit_11 rfl hx2 (by decide) rfl ?_
  refine r_iload_n 13 C 0 dX1_readDigit_12 rfl rfl ?_
  refine r_if_lt 21 16 C dX1_readDigit_13 rfl rfl (fun c3 => ?_) (fun c3 => ?_)
  · have hf := oip c3 hf
    refine r_iconst (v := 0) 22 C dX1_readDigit_21 rfl (by decide) ?_
    have hf := Option.some.inj hf
    subst hf
    exact r_zret C hr hk0 false rfl dX1_readDigit_22
  · have hf := oin c3 hf
    refine r_iload_n 17 C 0 dX1_readDigit_16 rfl rfl ?_
    refine r_iload_n 18 C 3 dX1_readDigit_17 rfl rfl ?_
    refine r_icmp_lt 23 21 C dX1_readDigit_18 rfl rfl (fun c4 => ?_) (fun c4 => ?_)
    · have hf := oip c4 hf
      refine r_aload_n 24 C 1 dX1_readDigit_23 rfl rfl ?_
      refine r_dup 25 C dX1_readDigit_24 rfl rfl ?_
      refine r_geti 28 C (k := 3) shC_89 rfl hinX1 (by decide) rfl dX1_readDigit_25 rfl (by decide +kernel) ?_
      refine r_iconst (v := 1) 29 C dX1_readDigit_28 rfl (by decide) ?_
      refine r_iadd 30 C dX1_readDigit_29 rfl ?_
      obtain ⟨g5, hg5, hf⟩ := ol hf
      refine r_puti 33 C (k := 3) (ty := .int) tyX1 tyX1_ok nmX1 shC_89 rfl hinX1 (by decide) rfl rfl (by decide +kernel) rfl rfl hg5 dX1_readDigit_30 rfl (by decide +kernel) ?_
      refine r_aload_n 34 C 1 dX1_readDigit_33 rfl rfl ?_
      refine r_iload_n 35 C 0 dX1_readDigit_34 rfl rfl ?_
      obtain ⟨g6, hg6, hf⟩ := ob hf
      refine r_Vv (As := [.int x2]) 38 C shC_89 rfl (c_X1_tell l G A x2 g5 _ hg6) (cwV 1 C.1.2.2.2.2 gX1_readDigit_X1_tell rfl rfl rfl hd_X1_tell ⟨Nat.le_of_ble_eq_true rfl, Nat.le_of_ble_eq_true rfl⟩) rfl rfl (Nat.le_of_ble_eq_true rfl) dX1_readDigit_35 rfl ?_
      refine r_iconst (v := 1) 39 C dX1_readDigit_38 rfl (by decide) ?_
      have hf := Option.some.inj hf
      subst hf
      exact r_zret C hr hk0 true rfl dX1_readDigit_39
    · have hf := oin c4 hf
      refine r_iconst (v := 0) 22 C dX1_readDigit_21 rfl (by decide) ?_
      have hf := Option.some.inj hf
      subst hf
      exact r_zret C hr hk0 false rfl dX1_readDigit_22
def rm_X1_isDigit : Room := { frames := 0, cells := 0, slots := 0, locals := 0 }
theorem hd_X1_isDigit : yX1_isDigit.cls ≠ "java/lang/invoke/MethodHandle" ∧ yX1_isDigit.cls ≠ "java/lang/invoke/VarHandle" ∧ (parseMethodDescriptor yX1_isDigit.desc).map (fun d => d.parameters.length) = some 1 := by decide +kernel
set_option maxRecDepth 100000 in
set_option maxHeartbeats 4000000 in
theorem c_X1_isDigit (l : Launch) (G : GG) (A : Nat → Prop) (a1 : Int32)  (g : Mem) (res : Bool) (hf : f_X1_isDigit a1 = res) : k_Mi l yX1_isDigit wsX1_isDigit rm_X1_isDigit G shC A [.int a1] g (bI res) g := by
  refine k_ofi (cc := cX1_isDigit) (nL := 1) (own := RX1) (by decide +kernel) rfl rfl (by simp [lg_sl, Value.category]) ⟨rfl, rfl⟩ [(0, .int a1)] rfl ?_
  intro p e s m args below meth c C hr hk0
  rw [f_X1_isDigit] at hf
  refine r_iload_n 1 C 0 dX1_isDigit_0 rfl rfl ?_
  refine r_bipush (v := 48) 3 C dX1_isDigit_1 rfl (by decide) ?_
  refine r_icmp_lt 16 6 C dX1_isDigit_3 rfl rfl (fun c1 => ?_) (fun c1 => ?_)
  · have hf := oip c1 hf
    refine r_iconst (v := 0) 17 C dX1_isDigit_16 rfl (by decide) ?_
    subst hf
    exact r_zret C hr hk0 false rfl dX1_isDigit_17
  · have hf := oin c1 hf
    refine r_iload_n 7 C 0 dX1_isDigit_6 rfl rfl ?_
    refine r_bipush (v := 57) 9 C dX1_isDigit_7 rfl (by decide) ?_
    refine r_icmp_gt 16 12 C dX1_isDigit_9 rfl rfl (fun c2 => ?_) (fun c2 => ?_)
    · have hf := oip c2 hf
      refine r_iconst (v := 0) 17 C dX1_isDigit_16 rfl (by decide) ?_
      subst hf
      exact r_zret C hr hk0 false rfl dX1_isDigit_17
    · have hf := oin c2 hf
      refine r_iconst (v := 1) 13 C dX1_isDigit_12 rfl (by decide) ?_
      refine r_goto 17 C dX1_isDigit_13 rfl ?_
      subst hf
      exact r_zret C hr hk0 true rfl dX1_isDigit_17
theorem in_X1_readNumber_X1 : ∀ w ∈ wsX10, w ∈ wsX1_readNumber := by decide +kernel
def rm_X1_readNumber : Room := { frames := 1, cells := 0, slots := 0, locals := 21 }
theorem hd_X1_readNumber : yX1_readNumber.cls = RX1 ∧ yX1_readNumber.cls ≠ "java/lang/invoke/MethodHandle" ∧ yX1_readNumber.cls ≠ "java/lang/invoke/VarHandle" ∧ (parseMethodDescriptor yX1_readNumber.desc).map (fun d => d.parameters.length) = some 1 := by decide +kernel
set_option maxRecDepth 100000 in
set_option maxHeartbeats 4000000 in
theorem t_X1_readNumber_L19 {p : Program} {l : Launch} {e : Env} {s : State} {m : MethodId} {args : Array Value} {below : List Frame} {meth : Method} {c : Code} {G : GG} {A : Nat → Prop} (C : KX p s m args c cX1_readNumber 4 RX1 wsX1_readNumber G shC A) (hr : meth.sig.returnType = (some .boolean)) (hk0 : meth.locks = false)  {res : Bool × Mem} {k : Int32 → Int32 → Mem → Option (Bool × Mem)} (hk : ∀ (v2 : Int32) (v3 : Int32) (g : Mem), k v2 v3 g = some res → JJ p l e rm_X1_readNumber s m args below meth c 4 G shC A (MQ below (k_Qi G shC A (bI res.1) res.2) args s 0 0 A) 71 [(0, .ref (G.2.1 89)), (2, .int v2), (3, .int v3)] [] g) : ∀ (n : Nat) (v2 : Int32) (v3 : Int32) (g : Mem), f_X1_readNumber_L19 k n v2 v3 g = some res → JJ p l e rm_X1_readNumber s m args below meth c 4 G shC A (MQ below (k_Qi G shC A (bI res.1) res.2) args s 0 0 A) 19 [(0, .ref (G.2.1 89)), (1, .ref (G.2.1 87)), (2, .int v2), (3, .int v3)] [] g := by
  have hinX1 : ∀ w ∈ wsX10, w ∈ wsX1_readNumber := in_X1_readNumber_X1
  intro n
  induction n with
  | zero =>
    intro v2 v3 g hf
    rw [f_X1_readNumber_L19] at hf
    cases hf
  | succ n ih =>
    intro v2 v3 g hf
    rw [f_X1_readNumber_L19] at hf
    refine r_iload_n 20 C 3 dX1_readNumber_19 rfl rfl ?_
    refine r_iconst (v := 3) 21 C dX1_readNumber_20 rfl (by decide) ?_
    refine r_icmp_ge 71 24 C dX1_readNumber_21 rfl rfl (fun c3 => ?_) (fun c3 => ?_)
    · have hf := oip c3 hf
      refine r_sub [(0, .ref (G.2.1 89)), (2, .int v2), (3, .int v3)] [0, 2, 3] rfl ?_
      exact hk _ _ _ hf
    · have hf := oin c3 hf
      refine r_aload_n 25 C 1 dX1_readNumber_24 rfl rfl ?_
      refine r_aload_n 26 C 0 dX1_readNumber_25 rfl rfl ?_
      refine r_geti 29 C (k := 3) shC_89 rfl hinX1 (by decide) rfl dX1_readNumber_26 rfl (by decide +kernel) ?_
      obtain ⟨x4, hx4, hf⟩ := ob hf
      refine r_Vi (As := [.int (g 89 3)]) 32 C shC_87 rfl (c_X3_signAt l G A (g 89 3) g _ hx4) (cwV 1 C.1.2.2.2.2 gX1_readNumber_X3_signAt rfl rfl rfl hd_X3_signAt ⟨Nat.le_of_ble_eq_true rfl, Nat.le_of_ble_eq_true rfl⟩) rfl rfl (Nat.le_of_ble_eq_true rfl) dX1_readNumber_29 rfl ?_
      refine r_Si (As := [.int x4]) 35 C (c_X1_isDigit l G A x4 g _ rfl) (va_cwS 1 C.1.2.2.2.2 gX1_readNumber_X1_isDigit rfl rfl rfl hd_X1_isDigit ⟨Nat.le_of_ble_eq_true rfl, Nat.le_of_ble_eq_true rfl⟩) rfl rfl (Nat.le_of_ble_eq_true rfl) dX1_readNumber_32 rfl ?_
      refine r_if_eq 71 38 C dX1_readNumber_35 rfl rfl (fun c5 => ?_) (fun c5 => ?_)
      · have hf := obf c5 hf
        refine r_sub [(0, .ref (G.2.1 89)), (2, .int v2), (3, .int v3)] [0, 2, 3] rfl ?_
        exact hk _ _ _ hf
      · have hf := obt c5 hf
        refine r_iload_n 39 C 2 dX1_readNumber_38 rfl rfl ?_
        refine r_bipush (v := 10) 41 C dX1_readNumber_39 rfl (by decide) ?_
        refine r_imul 42 C dX1_readNumber_41 rfl ?_
        refine r_aload_n 43 C 1 dX1_readNumber_42 rfl rfl ?_
        refine r_aload_n 44 C 0 dX1_readNumber_43 rfl rfl ?_
        refine r_geti 47 C (k := 3) shC_89 rfl hinX1 (by decide) rfl dX1_readNumber_44 rfl (by decide +kernel) ?_
        obtain ⟨x6, hx6, hf⟩ := ob hf
        refine r_Vi (As := [.int (g 89 3)]) 50 C shC_87 rfl (c_X3_signAt l G A (g 89 3) g _ hx6) (cwV 1 C.1.2.2.2.2 gX1_readNumber_X3_signAt rfl rfl rfl hd_X3_signAt ⟨Nat.le_of_ble_eq_true rfl, Nat.le_of_ble_eq_true rfl⟩) rfl rfl (Nat.le_of_ble_eq_true rfl) dX1_readNumber_47 rfl ?_
        refine r_bipush (v := 48) 52 C dX1_readNumber_50 rfl (by decide) ?_
        refine r_isub 53 C dX1_readNumber_52 rfl ?_
        refine r_iadd 54 C dX1_readNumber_53 rfl ?_
        obtain ⟨x7, hx7, hf⟩ := ol hf
        refine r_istore_n 55 C [(2, .int x7), (0, .ref (G.2.1 89)), (1, .ref (G.2.1 87)), (3, .int v3)] dX1_readNumber_54 rfl hx7 (by decide) rfl ?_
        refine r_aload_n 56 C 1 dX1_readNumber_55 rfl rfl ?_
        refine r_dup 57 C dX1_readNumber_56 rfl rfl ?_
        refine r_geti 60 C (k := 3) shC_89 rfl hinX1 (by decide) rfl dX1_readNumber_57 rfl (by decide +kernel) ?_
        refine r_iconst (v := 1) 61 C dX1_readNumber_60 rfl (by decide) ?_
        refine r_iadd 62 C dX1_readNumber_61 rfl ?_
        obtain ⟨g8, hg8, hf⟩ := ol hf
        refine r_puti 65 C (k := 3) (ty := .int) tyX1 tyX1_ok nmX1 shC_89 rfl hinX1 (by decide) rfl rfl (by decide +kernel) rfl rfl hg8 dX1_readNumber_62 rfl (by decide +kernel) ?_
        obtain ⟨x9, hx9, hf⟩ := ol hf
        refine r_iinc 68 C 3 x9 [(3, .int x9), (2, .int x7), (0, .ref (G.2.1 89)), (1, .ref (G.2.1 87))] dX1_readNumber_65 rfl rfl hx9.symm (by decide) rfl ?_
        refine r_goto 19 C dX1_readNumber_68 rfl ?_
        refine r_sub [(0, .ref (G.2.1 89)), (1, .ref (G.2.1 87)), (2, .int x7), (3, .int x9)] [2, 3, 1, 0] rfl ?_
        exact ih _ _ _ hf
set_option maxRecDepth 100000 in
set_option maxHeartbeats 4000000 in
theorem c_X1_readNumber (l : Launch) (G : GG) (A : Nat → Prop)   (g : Mem) (res : Bool × Mem) (hf : f_X1_readNumber  g = some res) : k_Mi l yX1_readNumber wsX1_readNumber rm_X1_readNumber G shC A [.ref (G.2.1 89), .ref (G.2.1 87)] g (bI res.1) res.2 := by
  have hinX1 : ∀ w ∈ wsX10, w ∈ wsX1_readNumber := in_X1_readNumber_X1
  refine k_ofi (cc := cX1_readNumber) (nL := 4) (own := RX1) (by decide +kernel) rfl rfl (by simp [lg_sl, Value.category]) ⟨rfl, rfl⟩ [(0, .ref (G.2.1 89)), (1, .ref (G.2.1 87))] rfl ?_
  intro p e s m args below meth c C hr hk0
  rw [f_X1_readNumber] at hf
  refine r_aload_n 1 C 1 dX1_readNumber_0 rfl rfl ?_
  refine r_aload_n 2 C 0 dX1_readNumber_1 rfl rfl ?_
  refine r_geti 5 C (k := 3) shC_89 rfl hinX1 (by decide) rfl dX1_readNumber_2 rfl (by decide +kernel) ?_
  obtain ⟨x1, hx1, hf⟩ := ob hf
  refine r_Vi (As := [.int (g 89 3)]) 8 C shC_87 rfl (c_X3_signAt l G A (g 89 3) g _ hx1) (cwV 1 C.1.2.2.2.2 gX1_readNumber_X3_signAt rfl rfl rfl hd_X3_signAt ⟨Nat.le_of_ble_eq_true rfl, Nat.le_of_ble_eq_true rfl⟩) rfl rfl (Nat.le_of_ble_eq_true rfl) dX1_readNumber_5 rfl ?_
  refine r_bipush (v := 48) 10 C dX1_readNumber_8 rfl (by decide) ?_
  refine r_icmp_ne 15 13 C dX1_readNumber_10 rfl rfl (fun c2 => ?_) (fun c2 => ?_)
  · have hf := oin c2 hf
    refine r_iconst (v := 0) 16 C dX1_readNumber_15 rfl (by decide) ?_
    refine r_istore_n 17 C [(2, .int 0), (0, .ref (G.2.1 89)), (1, .ref (G.2.1 87))] dX1_readNumber_16 rfl rfl (by decide) rfl ?_
    refine r_iconst (v := 0) 18 C dX1_readNumber_17 rfl (by decide) ?_
    refine r_istore_n 19 C [(3, .int 0), (2, .int 0), (0, .ref (G.2.1 89)), (1, .ref (G.2.1 87))] dX1_readNumber_18 rfl rfl (by decide) rfl ?_
    refine r_sub [(0, .ref (G.2.1 89)), (1, .ref (G.2.1 87)), (2, .int 0), (3, .int 0)] [2, 3, 1, 0] rfl ?_
    refine t_X1_readNumber_L19 C hr hk0 (fun x10 x11 g12 hf => ?_) fuel0 _ _ _ hf
    refine r_iload_n 72 C 2 dX1_readNumber_71 rfl rfl ?_
    refine r_if_ne 77 75 C dX1_readNumber_72 rfl rfl (fun c13 => ?_) (fun c13 => ?_)
    · have hf := oin c13 hf
      refine r_aload_n 78 C 0 dX1_readNumber_77 rfl rfl ?_
      refine r_iload_n 79 C 1 dX1_readNumber_78 rfl rfl ?_
      obtain ⟨g14, hg14, hf⟩ := ob hf
      refine r_Vv (As := [.int x10]) 82 C shC_89 rfl (c_X1_tell l G A x10 g12 _ hg14) (cwV 1 C.1.2.2.2.2 gX1_readNumber_X1_tell rfl rfl rfl hd_X1_tell ⟨Nat.le_of_ble_eq_true rfl, Nat.le_of_ble_eq_true rfl⟩) rfl rfl (Nat.le_of_ble_eq_true rfl) dX1_readNumber_79 rfl ?_
      refine r_iconst (v := 1) 83 C dX1_readNumber_82 rfl (by decide) ?_
      have hf := Option.some.inj hf
      subst hf
      exact r_zret C hr hk0 true rfl dX1_readNumber_83
    · have hf := oip c13 hf
      refine r_iconst (v := 0) 76 C dX1_readNumber_75 rfl (by decide) ?_
      have hf := Option.some.inj hf
      subst hf
      exact r_zret C hr hk0 false rfl dX1_readNumber_76
  · have hf := oip c2 hf
    refine r_iconst (v := 0) 14 C dX1_readNumber_13 rfl (by decide) ?_
    have hf := Option.some.inj hf
    subst hf
    exact r_zret C hr hk0 false rfl dX1_readNumber_14
def rm_X1_readPart : Room := { frames := 2, cells := 0, slots := 0, locals := 44 }
theorem hd_X1_readPart : yX1_readPart.cls = RX1 ∧ yX1_readPart.cls ≠ "java/lang/invoke/MethodHandle" ∧ yX1_readPart.cls ≠ "java/lang/invoke/VarHandle" ∧ (parseMethodDescriptor yX1_readPart.desc).map (fun d => d.parameters.length) = some 2 := by decide +kernel
set_option maxRecDepth 100000 in
set_option maxHeartbeats 4000000 in
theorem c_X1_readPart (l : Launch) (G : GG) (A : Nat → Prop) (a2 : Int32)  (g : Mem) (res : Bool × Mem) (hf : f_X1_readPart a2 g = some res) : k_Mi l yX1_readPart wsX1_readPart rm_X1_readPart G shC A [.ref (G.2.1 89), .ref (G.2.1 87), .int a2] g (bI res.1) res.2 := by
  refine k_ofi (cc := cX1_readPart) (nL := 3) (own := RX1) (by decide +kernel) rfl rfl (by simp [lg_sl, Value.category]) ⟨rfl, rfl⟩ [(0, .ref (G.2.1 89)), (1, .ref (G.2.1 87)), (2, .int a2)] rfl ?_
  intro p e s m args below meth c C hr hk0
  rw [f_X1_readPart] at hf
  refine r_iload_n 1 C 2 dX1_readPart_0 rfl rfl ?_
  by_cases c3 : a2 = 35
  · have hf := oip c3 hf
    refine r_lookup 51 C (off := 50) dX1_readPart_1 (by decide) (by rw [c3]; rfl) rfl ?_
    refine r_aload_n 52 C 0 dX1_readPart_51 rfl rfl ?_
    refine r_aload_n 53 C 1 dX1_readPart_52 rfl rfl ?_
    obtain ⟨x1, g2, hx1, hf⟩ := ob2 hf
    refine r_Vi (As := [.ref (G.2.1 87)]) 56 C shC_89 rfl (c_X1_readNumber l G A g _ hx1) (cwV 1 C.1.2.2.2.2 gX1_readPart_X1_readNumber rfl rfl rfl hd_X1_readNumber ⟨Nat.le_of_ble_eq_true rfl, Nat.le_of_ble_eq_true rfl⟩) rfl rfl (Nat.le_of_ble_eq_true rfl) dX1_readPart_53 rfl ?_
    have hf := Option.some.inj hf
    subst hf
    exact r_zret C hr hk0 x1 rfl dX1_readPart_56
  have hf := oin c3 hf
  by_cases c6 : a2 = 97
  · have hf := oip c6 hf
    refine r_lookup 43 C (off := 42) dX1_readPart_1 (by decide) (by rw [c6]; rfl) rfl ?_
    refine r_aload_n 44 C 0 dX1_readPart_43 rfl rfl ?_
    refine r_aload_n 45 C 1 dX1_readPart_44 rfl rfl ?_
    refine r_bipush (v := 6) 47 C dX1_readPart_45 rfl (by decide) ?_
    obtain ⟨x4, g5, hx4, hf⟩ := ob2 hf
    refine r_Vi (As := [.ref (G.2.1 87), .int 6]) 50 C shC_89 rfl (c_X1_readDigit l G A 6 g _ hx4) (cwV 2 C.1.2.2.2.2 gX1_readPart_X1_readDigit rfl rfl rfl hd_X1_readDigit ⟨Nat.le_of_ble_eq_true rfl, Nat.le_of_ble_eq_true rfl⟩) rfl rfl (Nat.le_of_ble_eq_true rfl) dX1_readPart_47 rfl ?_
    have hf := Option.some.inj hf
    subst hf
    exact r_zret C hr hk0 x4 rfl dX1_readPart_50
  have hf := oin c6 hf
  by_cases c9 : a2 = 112
  · have hf := oip c9 hf
    refine r_lookup 36 C (off := 35) dX1_readPart_1 (by decide) (by rw [c9]; rfl) rfl ?_
    refine r_aload_n 37 C 0 dX1_readPart_36 rfl rfl ?_
    refine r_aload_n 38 C 1 dX1_readPart_37 rfl rfl ?_
    refine r_iconst (v := 3) 39 C dX1_readPart_38 rfl (by decide) ?_
    obtain ⟨x7, g8, hx7, hf⟩ := ob2 hf
    refine r_Vi (As := [.ref (G.2.1 87), .int 3]) 42 C shC_89 rfl (c_X1_readDigit l G A 3 g _ hx7) (cwV 2 C.1.2.2.2.2 gX1_readPart_X1_readDigit rfl rfl rfl hd_X1_readDigit ⟨Nat.le_of_ble_eq_true rfl, Nat.le_of_ble_eq_true rfl⟩) rfl rfl (Nat.le_of_ble_eq_true rfl) dX1_readPart_39 rfl ?_
    have hf := Option.some.inj hf
    subst hf
    exact r_zret C hr hk0 x7 rfl dX1_readPart_42
  have hf := oin c9 hf
  refine r_lookup 57 C (off := 56) dX1_readPart_1 (by decide) (by
    simp only [Op.lookupswitch.offset_cons, Op.lookupswitch.offset_nil]
    rw [if_neg (ne_i c3 (by decide))]
    rw [if_neg (ne_i c6 (by decide))]
    rw [if_neg (ne_i c9 (by decide))]) rfl ?_
  refine r_aload_n 58 C 0 dX1_readPart_57 rfl rfl ?_
  refine r_aload_n 59 C 1 dX1_readPart_58 rfl rfl ?_
  obtain ⟨x10, g11, hx10, hf⟩ := ob2 hf
  refine r_Vi (As := [.ref (G.2.1 87)]) 62 C shC_89 rfl (c_X1_readComma l G A g _ hx10) (cwV 1 C.1.2.2.2.2 gX1_readPart_X1_readComma rfl rfl rfl hd_X1_readComma ⟨Nat.le_of_ble_eq_true rfl, Nat.le_of_ble_eq_true rfl⟩) rfl rfl (Nat.le_of_ble_eq_true rfl) dX1_readPart_59 rfl ?_
  have hf := Option.some.inj hf
  subst hf
  exact r_zret C hr hk0 x10 rfl dX1_readPart_62
def rm_X1_readOrder : Room := { frames := 4, cells := 0, slots := 0, locals := 141 }
theorem hd_X1_readOrder : yX1_readOrder.cls = RX1 ∧ yX1_readOrder.cls ≠ "java/lang/invoke/MethodHandle" ∧ yX1_readOrder.cls ≠ "java/lang/invoke/VarHandle" ∧ (parseMethodDescriptor yX1_readOrder.desc).map (fun d => d.parameters.length) = some 1 := by decide +kernel
theorem in_X1_readOrder_X1 : ∀ w ∈ wsX10, w ∈ wsX1_readOrder := by decide +kernel
theorem sLen_shr : ∀ i, i < 6 → sLen i >>> ((0 : Int32) &&& 31) = sLen i := by decide +kernel
set_option maxRecDepth 100000 in
set_option maxHeartbeats 4000000 in
theorem t_X1_readOrder_L73 {p : Program} {l : Launch} {e : Env} {s : State} {m : MethodId} {args : Array Value} {below : List Frame} {meth : Method} {c : Code} {G : GG} {A : Nat → Prop} (C : KX p s m args c cX1_readOrder 5 RX1 wsX1_readOrder G shC A) (hr : meth.sig.returnType = (some .boolean)) (hk0 : meth.locks = false) (i : Nat) (hi : i < 6) {res : Bool × Mem} {k : Mem → Option (Bool × Mem)} (hk : ∀ (g : Mem), k g = some res → JJ p l e rm_X1_readOrder s m args below meth c 5 G shC A (MQ below (k_Qi G shC A (bI res.1) res.2) args s 0 0 A) 104 [(0, .ref (G.2.1 89))] [] g) : ∀ (n : Nat) (v4 : Int32) (g : Mem), f_X1_readOrder_L73 k i n v4 g = some res → JJ p l e rm_X1_readOrder s m args below meth c 5 G shC A (MQ below (k_Qi G shC A (bI res.1) res.2) args s 0 0 A) 73 [(0, .ref (G.2.1 89)), (1, .ref (G.2.1 87)), (3, .ref (G.2.2.2.2.2.1 i)), (4, .int v4)] [] g := by
  have hinX1 : ∀ w ∈ wsX10, w ∈ wsX1_readOrder := in_X1_readOrder_X1
  intro n
  induction n with
  | zero =>
    intro v4 g hf
    rw [f_X1_readOrder_L73] at hf
    cases hf
  | succ n ih =>
    intro v4 g hf
    rw [f_X1_readOrder_L73] at hf
    refine r_iload 75 C 3 dX1_readOrder_73 rfl rfl ?_
    refine r_aload_n 76 C 2 dX1_readOrder_75 rfl rfl ?_
    refine r_TVi (As := []) 79 C hi (c_J0_length l G A i hi g) (cwV 0 C.1.2.2.2.2 gX1_readOrder_J0_length_8abf5 rfl rfl rfl hd_J0_length ⟨Nat.le_of_ble_eq_true rfl, Nat.le_of_ble_eq_true rfl⟩) rfl rfl (Nat.le_of_ble_eq_true rfl) dX1_readOrder_76 rfl ?_
    refine r_icmp_ge 104 82 C dX1_readOrder_79 rfl rfl (fun c1 => ?_) (fun c1 => ?_)
    · have hf := oip c1 hf
      refine r_sub [(0, .ref (G.2.1 89))] [0] rfl ?_
      exact hk _ hf
    · have hf := oin c1 hf
      by_cases c2 : v4 < 0
      · have hf := oip c2 hf
        cases hf
      · have hf := oin c2 hf
        rw [sLen_shr i hi] at c1
        obtain ⟨x1, g1, hx1, hf⟩ := ob2 hf
        refine r_aload_n 83 C 0 dX1_readOrder_82 rfl rfl ?_
        refine r_aload_n 84 C 1 dX1_readOrder_83 rfl rfl ?_
        refine r_aload_n 85 C 2 dX1_readOrder_84 rfl rfl ?_
        refine r_iload 87 C 3 dX1_readOrder_85 rfl rfl ?_
        refine r_TVi (As := [.int v4]) 90 C hi (c_J0_charAt l G A i hi v4 c2 (Int32.not_le.mp c1) g) (cwV 1 C.1.2.2.2.2 gX1_readOrder_J0_charAt_5068e rfl rfl rfl hd_J0_charAt ⟨Nat.le_of_ble_eq_true rfl, Nat.le_of_ble_eq_true rfl⟩) rfl rfl (Nat.le_of_ble_eq_true rfl) dX1_readOrder_87 rfl ?_
        refine r_Vi (As := [.ref (G.2.1 87), .int (sCh i v4)]) 93 C shC_89 rfl (c_X1_readPart l G A (sCh i v4) g _ hx1) (cwV 2 C.1.2.2.2.2 gX1_readOrder_X1_readPart rfl rfl rfl hd_X1_readPart ⟨Nat.le_of_ble_eq_true rfl, Nat.le_of_ble_eq_true rfl⟩) rfl rfl (Nat.le_of_ble_eq_true rfl) dX1_readOrder_90 rfl ?_
        refine r_if_ne 98 96 C dX1_readOrder_93 rfl rfl (fun c3 => ?_) (fun c3 => ?_)
        · have hf := obt c3 hf
          obtain ⟨x2, hx2, hf⟩ := ol hf
          refine r_iinc 101 C 3 x2 [(4, .int x2), (0, .ref (G.2.1 89)), (1, .ref (G.2.1 87)), (3, .ref (G.2.2.2.2.2.1 i))] dX1_readOrder_98 rfl rfl hx2.symm (by decide) rfl ?_
          refine r_goto 73 C dX1_readOrder_101 rfl ?_
          refine r_sub [(0, .ref (G.2.1 89)), (1, .ref (G.2.1 87)), (3, .ref (G.2.2.2.2.2.1 i)), (4, .int x2)] [1, 2, 3, 0] rfl ?_
          exact ih _ _ hf
        · have hf := obf c3 hf
          refine r_iconst (v := 0) 97 C dX1_readOrder_96 rfl (by decide) ?_
          cases hf
          exact r_zret C hr hk0 false rfl dX1_readOrder_97
set_option maxRecDepth 100000 in
set_option maxHeartbeats 4000000 in
theorem c_X1_readOrder (l : Launch) (G : GG) (A : Nat → Prop) (g : Mem) (res : Bool × Mem) (hf : f_X1_readOrder g = some res) : k_Mi l yX1_readOrder wsX1_readOrder rm_X1_readOrder G shC A [.ref (G.2.1 89), .ref (G.2.1 87)] g (bI res.1) res.2 := by
  have hinX1 : ∀ w ∈ wsX10, w ∈ wsX1_readOrder := in_X1_readOrder_X1
  refine k_ofi (cc := cX1_readOrder) (nL := 5) (own := RX1) (by decide +kernel) rfl rfl (by simp [lg_sl, Value.category]) ⟨rfl, rfl⟩ [(0, .ref (G.2.1 89)), (1, .ref (G.2.1 87))] rfl ?_
  intro p e s m args below meth c C hr hk0
  rw [f_X1_readOrder] at hf
  obtain ⟨x1, hx1, hf⟩ := ob hf
  refine r_aload_n 1 C 1 dX1_readOrder_0 rfl rfl ?_
  refine r_aload_n 2 C 0 dX1_readOrder_1 rfl rfl ?_
  refine r_geti 5 C (k := 3) shC_89 rfl hinX1 (by decide) rfl dX1_readOrder_2 rfl (by decide +kernel) ?_
  refine r_Vi (As := [.int (g 89 3)]) 8 C shC_87 rfl (c_X3_signAt l G A (g 89 3) g _ hx1) (cwV 1 C.1.2.2.2.2 gX1_readOrder_X3_signAt rfl rfl rfl hd_X3_signAt ⟨Nat.le_of_ble_eq_true rfl, Nat.le_of_ble_eq_true rfl⟩) rfl rfl (Nat.le_of_ble_eq_true rfl) dX1_readOrder_5 rfl ?_
  refine r_istore_n 9 C [(2, .int x1), (0, .ref (G.2.1 89)), (1, .ref (G.2.1 87))] dX1_readOrder_8 rfl rfl (by decide) rfl ?_
  refine r_iload_n 10 C 0 dX1_readOrder_9 rfl rfl ?_
  have hi : f_X1_partsOf x1 < 6 := f_X1_partsOf_lt x1
  refine r_St (As := [.int x1]) 13 C (c_X1_partsOf l G A x1 g _ rfl) (va_cwS 1 C.1.2.2.2.2 gX1_readOrder_X1_partsOf rfl rfl rfl hd_X1_partsOf ⟨Nat.le_of_ble_eq_true rfl, Nat.le_of_ble_eq_true rfl⟩) rfl rfl (Nat.le_of_ble_eq_true rfl) dX1_readOrder_10 rfl ?_
  generalize f_X1_partsOf x1 = i at hi hf ⊢
  refine r_astore_n 14 C [(3, .ref (G.2.2.2.2.2.1 i)), (2, .int x1), (0, .ref (G.2.1 89)), (1, .ref (G.2.1 87))] dX1_readOrder_13 rfl (by decide) rfl ?_
  refine r_aload_n 15 C 0 dX1_readOrder_14 rfl rfl ?_
  refine r_TVi (As := []) 18 C hi (c_J0_isEmpty l G A i hi g) (cwV 0 C.1.2.2.2.2 gX1_readOrder_J0_isEmpty_aae02 rfl rfl rfl hd_J0_isEmpty ⟨Nat.le_of_ble_eq_true rfl, Nat.le_of_ble_eq_true rfl⟩) rfl rfl (Nat.le_of_ble_eq_true rfl) dX1_readOrder_15 rfl ?_
  refine r_if_ne 30 21 C dX1_readOrder_18 rfl rfl (fun c1 => ?_) (fun c1 => ?_)
  · have hf := obt c1 hf
    refine r_iconst (v := 0) 31 C dX1_readOrder_30 rfl (by decide) ?_
    cases hf
    exact r_zret C hr hk0 false rfl dX1_readOrder_31
  · have hf := obf c1 hf
    refine r_aload_n 22 C 2 dX1_readOrder_21 rfl rfl ?_
    refine r_geti 25 C (k := 5) shC_89 rfl hinX1 (by decide) rfl dX1_readOrder_22 rfl (by decide +kernel) ?_
    refine r_bipush (v := 20) 27 C dX1_readOrder_25 rfl (by decide) ?_
    refine r_icmp_lt 32 30 C dX1_readOrder_27 rfl rfl (fun c2 => ?_) (fun c2 => ?_)
    · have hf := oip c2 hf
      obtain ⟨g1, hg1, hf⟩ := ob hf
      refine r_aload_n 33 C 2 dX1_readOrder_32 rfl rfl ?_
      refine r_getr 36 C (k := 0) shC_89 rfl hinX1 (by decide) rfl dX1_readOrder_33 rfl (by decide +kernel) ?_
      refine r_aload_n 37 C 2 dX1_readOrder_36 rfl rfl ?_
      refine r_geti 40 C (k := 5) shC_89 rfl hinX1 (by decide) rfl dX1_readOrder_37 rfl (by decide +kernel) ?_
      refine r_iload_n 41 C 1 dX1_readOrder_40 rfl rfl ?_
      refine r_iastore 42 C shC_90 dX1_readOrder_41 rfl hg1 ?_
      obtain ⟨g2, hg2, hf⟩ := ob hf
      refine r_aload_n 43 C 2 dX1_readOrder_42 rfl rfl ?_
      refine r_getr 46 C (k := 1) shC_89 rfl hinX1 (by decide) rfl dX1_readOrder_43 rfl (by decide +kernel) ?_
      refine r_aload_n 47 C 2 dX1_readOrder_46 rfl rfl ?_
      refine r_geti 50 C (k := 5) shC_89 rfl hinX1 (by decide) rfl dX1_readOrder_47 rfl (by decide +kernel) ?_
      refine r_aload_n 51 C 2 dX1_readOrder_50 rfl rfl ?_
      refine r_geti 54 C (k := 3) shC_89 rfl hinX1 (by decide) rfl dX1_readOrder_51 rfl (by decide +kernel) ?_
      refine r_iastore 55 C shC_91 dX1_readOrder_54 rfl hg2 ?_
      obtain ⟨g3, hg3, hf⟩ := ol hf
      refine r_aload_n 56 C 2 dX1_readOrder_55 rfl rfl ?_
      refine r_dup 57 C dX1_readOrder_56 rfl rfl ?_
      refine r_geti 60 C (k := 3) shC_89 rfl hinX1 (by decide) rfl dX1_readOrder_57 rfl (by decide +kernel) ?_
      refine r_iconst (v := 1) 61 C dX1_readOrder_60 rfl (by decide) ?_
      refine r_iadd 62 C dX1_readOrder_61 rfl ?_
      refine r_puti 65 C (k := 3) (ty := .int) tyX1 tyX1_ok nmX1 shC_89 rfl hinX1 (by decide) rfl rfl (by decide +kernel) rfl rfl hg3 dX1_readOrder_62 rfl (by decide +kernel) ?_
      obtain ⟨g4, hg4, hf⟩ := ol hf
      refine r_aload_n 66 C 2 dX1_readOrder_65 rfl rfl ?_
      refine r_iconst (v := 0) 67 C dX1_readOrder_66 rfl (by decide) ?_
      refine r_puti 70 C (k := 4) (ty := .int) tyX1 tyX1_ok nmX1 shC_89 rfl hinX1 (by decide) rfl rfl (by decide +kernel) rfl rfl hg4 dX1_readOrder_67 rfl (by decide +kernel) ?_
      refine r_iconst (v := 0) 71 C dX1_readOrder_70 rfl (by decide) ?_
      refine r_istore 73 C [(4, .int 0), (3, .ref (G.2.2.2.2.2.1 i)), (2, .int x1), (0, .ref (G.2.1 89)), (1, .ref (G.2.1 87))] dX1_readOrder_71 rfl rfl (by decide) rfl ?_
      refine r_sub [(0, .ref (G.2.1 89)), (1, .ref (G.2.1 87)), (3, .ref (G.2.2.2.2.2.1 i)), (4, .int 0)] [3, 4, 1, 0] rfl ?_
      refine t_X1_readOrder_L73 C hr hk0 i hi (fun g5 hf => ?_) fuel0 _ _ hf
      obtain ⟨g6, hg6, hf⟩ := ol hf
      refine r_aload_n 105 C 0 dX1_readOrder_104 rfl rfl ?_
      refine r_dup 106 C dX1_readOrder_105 rfl rfl ?_
      refine r_geti 109 C (k := 5) shC_89 rfl hinX1 (by decide) rfl dX1_readOrder_106 rfl (by decide +kernel) ?_
      refine r_iconst (v := 1) 110 C dX1_readOrder_109 rfl (by decide) ?_
      refine r_iadd 111 C dX1_readOrder_110 rfl ?_
      refine r_puti 114 C (k := 5) (ty := .int) tyX1 tyX1_ok nmX1 shC_89 rfl hinX1 (by decide) rfl rfl (by decide +kernel) rfl rfl hg6 dX1_readOrder_111 rfl (by decide +kernel) ?_
      refine r_iconst (v := 1) 115 C dX1_readOrder_114 rfl (by decide) ?_
      cases hf
      exact r_zret C hr hk0 true rfl dX1_readOrder_115
    · have hf := oin c2 hf
      refine r_iconst (v := 0) 31 C dX1_readOrder_30 rfl (by decide) ?_
      cases hf
      exact r_zret C hr hk0 false rfl dX1_readOrder_31
theorem in_X1_read_X1 : ∀ w ∈ wsX10, w ∈ wsX1_read := by decide +kernel
theorem in_X1_read_X3 : ∀ w ∈ wsX30, w ∈ wsX1_read := by decide +kernel
def rm_X1_read : Room := { frames := 5, cells := 0, slots := 0, locals := 165 }
theorem hd_X1_read : yX1_read.cls = RX1 ∧ yX1_read.cls ≠ "java/lang/invoke/MethodHandle" ∧ yX1_read.cls ≠ "java/lang/invoke/VarHandle" ∧ (parseMethodDescriptor yX1_read.desc).map (fun d => d.parameters.length) = some 1 := by decide +kernel
set_option maxRecDepth 100000 in
set_option maxHeartbeats 4000000 in
theorem t_X1_read_L12 {p : Program} {l : Launch} {e : Env} {s : State} {m : MethodId} {args : Array Value} {below : List Frame} {meth : Method} {c : Code} {G : GG} {A : Nat → Prop} (C : KX p s m args c cX1_read 3 RX1 wsX1_read G shC A) (hr : meth.sig.returnType = (some .int)) (hk0 : meth.locks = false)  {res : Int32 × Mem} {k : Mem → Option (Int32 × Mem)} (hk : ∀ (g : Mem), k g = some res → JJ p l e rm_X1_read s m args below meth c 3 G shC A (MQ below (k_Qi G shC A res.1 res.2) args s 0 0 A) 78 [(0, .ref (G.2.1 89))] [] g) : ∀ (n : Nat) (v2 : Int32) (g : Mem), f_X1_read_L12 k n v2 g = some res → JJ p l e rm_X1_read s m args below meth c 3 G shC A (MQ below (k_Qi G shC A res.1 res.2) args s 0 0 A) 12 [(0, .ref (G.2.1 89)), (1, .ref (G.2.1 87)), (2, .int v2)] [] g := by
  have hinX1 : ∀ w ∈ wsX10, w ∈ wsX1_read := in_X1_read_X1
  have hinX3 : ∀ w ∈ wsX30, w ∈ wsX1_read := in_X1_read_X3
  intro n
  induction n with
  | zero =>
    intro v2 g hf
    rw [f_X1_read_L12] at hf
    cases hf
  | succ n ih =>
    intro v2 g hf
    rw [f_X1_read_L12] at hf
    refine r_iload_n 13 C 2 dX1_read_12 rfl rfl ?_
    refine r_bipush (v := 20) 15 C dX1_read_13 rfl (by decide) ?_
    refine r_icmp_ge 78 18 C dX1_read_15 rfl rfl (fun c3 => ?_) (fun c3 => ?_)
    · have hf := oip c3 hf
      refine r_sub [(0, .ref (G.2.1 89))] [0] rfl ?_
      exact hk  _ hf
    · have hf := oin c3 hf
      refine r_aload_n 19 C 0 dX1_read_18 rfl rfl ?_
      refine r_aload_n 20 C 1 dX1_read_19 rfl rfl ?_
      obtain ⟨x4, g5, hx4, hf⟩ := ob2 hf
      refine r_Vi (As := [.ref (G.2.1 87)]) 23 C shC_89 rfl (c_X1_readOrder l G A g _ hx4) (cwV 1 C.1.2.2.2.2 gX1_read_X1_readOrder rfl rfl rfl hd_X1_readOrder ⟨Nat.le_of_ble_eq_true rfl, Nat.le_of_ble_eq_true rfl⟩) rfl rfl (Nat.le_of_ble_eq_true rfl) dX1_read_20 rfl ?_
      refine r_if_ne 31 26 C dX1_read_23 rfl rfl (fun c6 => ?_) (fun c6 => ?_)
      · have hf := obt c6 hf
        refine r_aload_n 32 C 0 dX1_read_31 rfl rfl ?_
        refine r_geti 35 C (k := 3) shC_89 rfl hinX1 (by decide) rfl dX1_read_32 rfl (by decide +kernel) ?_
        refine r_aload_n 36 C 1 dX1_read_35 rfl rfl ?_
        refine r_geti 39 C (k := 1) shC_87 rfl hinX3 (by decide) rfl dX1_read_36 rfl (by decide +kernel) ?_
        refine r_icmp_ne 44 42 C dX1_read_39 rfl rfl (fun c7 => ?_) (fun c7 => ?_)
        · have hf := oin c7 hf
          refine r_aload_n 45 C 1 dX1_read_44 rfl rfl ?_
          refine r_aload_n 46 C 0 dX1_read_45 rfl rfl ?_
          refine r_geti 49 C (k := 3) shC_89 rfl hinX1 (by decide) rfl dX1_read_46 rfl (by decide +kernel) ?_
          obtain ⟨x8, hx8, hf⟩ := ob hf
          refine r_Vi (As := [.int (g5 89 3)]) 52 C shC_87 rfl (c_X3_signAt l G A (g5 89 3) g5 _ hx8) (cwV 1 C.1.2.2.2.2 gX1_read_X3_signAt rfl rfl rfl hd_X3_signAt ⟨Nat.le_of_ble_eq_true rfl, Nat.le_of_ble_eq_true rfl⟩) rfl rfl (Nat.le_of_ble_eq_true rfl) dX1_read_49 rfl ?_
          refine r_bipush (v := 59) 54 C dX1_read_52 rfl (by decide) ?_
          refine r_icmp_eq 62 57 C dX1_read_54 rfl rfl (fun c9 => ?_) (fun c9 => ?_)
          · have hf := oip c9 hf
            refine r_aload_n 63 C 0 dX1_read_62 rfl rfl ?_
            refine r_dup 64 C dX1_read_63 rfl rfl ?_
            refine r_geti 67 C (k := 3) shC_89 rfl hinX1 (by decide) rfl dX1_read_64 rfl (by decide +kernel) ?_
            refine r_iconst (v := 1) 68 C dX1_read_67 rfl (by decide) ?_
            refine r_iadd 69 C dX1_read_68 rfl ?_
            obtain ⟨g10, hg10, hf⟩ := ol hf
            refine r_puti 72 C (k := 3) (ty := .int) tyX1 tyX1_ok nmX1 shC_89 rfl hinX1 (by decide) rfl rfl (by decide +kernel) rfl rfl hg10 dX1_read_69 rfl (by decide +kernel) ?_
            obtain ⟨x11, hx11, hf⟩ := ol hf
            refine r_iinc 75 C 2 x11 [(2, .int x11), (0, .ref (G.2.1 89)), (1, .ref (G.2.1 87))] dX1_read_72 rfl rfl hx11.symm (by decide) rfl ?_
            refine r_goto 12 C dX1_read_75 rfl ?_
            refine r_sub [(0, .ref (G.2.1 89)), (1, .ref (G.2.1 87)), (2, .int x11)] [1, 2, 0] rfl ?_
            exact ih _ _ hf
          · have hf := oin c9 hf
            refine r_aload_n 58 C 0 dX1_read_57 rfl rfl ?_
            refine r_geti 61 C (k := 3) shC_89 rfl hinX1 (by decide) rfl dX1_read_58 rfl (by decide +kernel) ?_
            have hf := Option.some.inj hf
            subst hf
            exact r_iret C hr hk0 dX1_read_61
        · have hf := oip c7 hf
          refine r_iconst (v := (-1)) 43 C dX1_read_42 rfl (by decide) ?_
          have hf := Option.some.inj hf
          subst hf
          exact r_iret C hr hk0 dX1_read_43
      · have hf := obf c6 hf
        refine r_aload_n 27 C 0 dX1_read_26 rfl rfl ?_
        refine r_geti 30 C (k := 3) shC_89 rfl hinX1 (by decide) rfl dX1_read_27 rfl (by decide +kernel) ?_
        have hf := Option.some.inj hf
        subst hf
        exact r_iret C hr hk0 dX1_read_30
set_option maxRecDepth 100000 in
set_option maxHeartbeats 4000000 in
theorem c_X1_read (l : Launch) (G : GG) (A : Nat → Prop)   (g : Mem) (res : Int32 × Mem) (hf : f_X1_read  g = some res) : k_Mi l yX1_read wsX1_read rm_X1_read G shC A [.ref (G.2.1 89), .ref (G.2.1 87)] g res.1 res.2 := by
  have hinX1 : ∀ w ∈ wsX10, w ∈ wsX1_read := in_X1_read_X1
  have hinX3 : ∀ w ∈ wsX30, w ∈ wsX1_read := in_X1_read_X3
  refine k_ofi (cc := cX1_read) (nL := 3) (own := RX1) (by decide +kernel) rfl rfl (by simp [lg_sl, Value.category]) ⟨rfl, rfl⟩ [(0, .ref (G.2.1 89)), (1, .ref (G.2.1 87))] rfl ?_
  intro p e s m args below meth c C hr hk0
  rw [f_X1_read] at hf
  refine r_aload_n 1 C 0 dX1_read_0 rfl rfl ?_
  refine r_iconst (v := 0) 2 C dX1_read_1 rfl (by decide) ?_
  obtain ⟨g1, hg1, hf⟩ := ol hf
  refine r_puti 5 C (k := 3) (ty := .int) tyX1 tyX1_ok nmX1 shC_89 rfl hinX1 (by decide) rfl rfl (by decide +kernel) rfl rfl hg1 dX1_read_2 rfl (by decide +kernel) ?_
  refine r_aload_n 6 C 0 dX1_read_5 rfl rfl ?_
  refine r_iconst (v := 0) 7 C dX1_read_6 rfl (by decide) ?_
  obtain ⟨g2, hg2, hf⟩ := ol hf
  refine r_puti 10 C (k := 5) (ty := .int) tyX1 tyX1_ok nmX1 shC_89 rfl hinX1 (by decide) rfl rfl (by decide +kernel) rfl rfl hg2 dX1_read_7 rfl (by decide +kernel) ?_
  refine r_iconst (v := 0) 11 C dX1_read_10 rfl (by decide) ?_
  refine r_istore_n 12 C [(2, .int 0), (0, .ref (G.2.1 89)), (1, .ref (G.2.1 87))] dX1_read_11 rfl rfl (by decide) rfl ?_
  refine r_sub [(0, .ref (G.2.1 89)), (1, .ref (G.2.1 87)), (2, .int 0)] [1, 2, 0] rfl ?_
  refine t_X1_read_L12 C hr hk0 (fun g12 hf => ?_) fuel0 _ _ hf
  refine r_aload_n 79 C 0 dX1_read_78 rfl rfl ?_
  refine r_geti 82 C (k := 3) shC_89 rfl hinX1 (by decide) rfl dX1_read_79 rfl (by decide +kernel) ?_
  have hf := Option.some.inj hf
  subst hf
  exact r_iret C hr hk0 dX1_read_82
theorem in_X1_placeOf_X1 : ∀ w ∈ wsX10, w ∈ wsX1_placeOf := by decide +kernel
def rm_X1_placeOf : Room := { frames := 0, cells := 0, slots := 0, locals := 0 }
theorem hd_X1_placeOf : yX1_placeOf.cls = RX1 ∧ yX1_placeOf.cls ≠ "java/lang/invoke/MethodHandle" ∧ yX1_placeOf.cls ≠ "java/lang/invoke/VarHandle" ∧ (parseMethodDescriptor yX1_placeOf.desc).map (fun d => d.parameters.length) = some 1 := by decide +kernel
set_option maxRecDepth 100000 in
set_option maxHeartbeats 4000000 in
theorem c_X1_placeOf (l : Launch) (G : GG) (A : Nat → Prop) (a1 : Int32)  (g : Mem) (res : Int32) (hf : f_X1_placeOf a1 g = some res) : k_Mi l yX1_placeOf wsX1_placeOf rm_X1_placeOf G shC A [.ref (G.2.1 89), .int a1] g res g := by
  have hinX1 : ∀ w ∈ wsX10, w ∈ wsX1_placeOf := in_X1_placeOf_X1
  refine k_ofi (cc := cX1_placeOf) (nL := 2) (own := RX1) (by decide +kernel) rfl rfl (by simp [lg_sl, Value.category]) ⟨rfl, rfl⟩ [(0, .ref (G.2.1 89)), (1, .int a1)] rfl ?_
  intro p e s m args below meth c C hr hk0
  rw [f_X1_placeOf] at hf
  refine r_iload_n 1 C 1 dX1_placeOf_0 rfl rfl ?_
  refine r_if_lt 21 4 C dX1_placeOf_1 rfl rfl (fun c1 => ?_) (fun c1 => ?_)
  · have hf := oip c1 hf
    refine r_iconst (v := 0) 22 C dX1_placeOf_21 rfl (by decide) ?_
    have hf := Option.some.inj hf
    subst hf
    exact r_iret C hr hk0 dX1_placeOf_22
  · have hf := oin c1 hf
    refine r_iload_n 5 C 1 dX1_placeOf_4 rfl rfl ?_
    refine r_aload_n 6 C 0 dX1_placeOf_5 rfl rfl ?_
    refine r_geti 9 C (k := 5) shC_89 rfl hinX1 (by decide) rfl dX1_placeOf_6 rfl (by decide +kernel) ?_
    refine r_icmp_ge 21 12 C dX1_placeOf_9 rfl rfl (fun c2 => ?_) (fun c2 => ?_)
    · have hf := oip c2 hf
      refine r_iconst (v := 0) 22 C dX1_placeOf_21 rfl (by decide) ?_
      have hf := Option.some.inj hf
      subst hf
      exact r_iret C hr hk0 dX1_placeOf_22
    · have hf := oin c2 hf
      refine r_aload_n 13 C 0 dX1_placeOf_12 rfl rfl ?_
      refine r_getr 16 C (k := 1) shC_89 rfl hinX1 (by decide) rfl dX1_placeOf_13 rfl (by decide +kernel) ?_
      refine r_iload_n 17 C 1 dX1_placeOf_16 rfl rfl ?_
      obtain ⟨x3, hx3, hf⟩ := ob hf
      refine r_iaload 18 C shC_91 dX1_placeOf_17 rfl hx3 ?_
      refine r_goto 22 C dX1_placeOf_18 rfl ?_
      have hf := Option.some.inj hf
      subst hf
      exact r_iret C hr hk0 dX1_placeOf_22
theorem in_X1_carryOut_X1 : ∀ w ∈ wsX10, w ∈ wsX1_carryOut := by decide +kernel
def rm_X1_carryOut : Room := { frames := 6, cells := 0, slots := 0, locals := 133 }
theorem hd_X1_carryOut : yX1_carryOut.cls = RX1 ∧ yX1_carryOut.cls ≠ "java/lang/invoke/MethodHandle" ∧ yX1_carryOut.cls ≠ "java/lang/invoke/VarHandle" ∧ (parseMethodDescriptor yX1_carryOut.desc).map (fun d => d.parameters.length) = some 2 := by decide +kernel
set_option maxRecDepth 100000 in
set_option maxHeartbeats 4000000 in
theorem c_X1_carryOut (l : Launch) (G : GG) (A : Nat → Prop) (a1 : Int32) (o2 : Nat) (ho2 : IsSt o2) (g : Mem) (res : Int32 × Mem) (hf : f_X1_carryOut a1 o2 g = some res) : k_Mi l yX1_carryOut wsX1_carryOut rm_X1_carryOut G shC A [.ref (G.2.1 89), .int a1, .ref (G.2.1 o2)] g res.1 res.2 := by
  have hinX1 : ∀ w ∈ wsX10, w ∈ wsX1_carryOut := in_X1_carryOut_X1
  refine k_ofi (cc := cX1_carryOut) (nL := 6) (own := RX1) (by decide +kernel) rfl rfl (by simp [lg_sl, Value.category]) ⟨rfl, rfl⟩ [(0, .ref (G.2.1 89)), (1, .int a1), (2, .ref (G.2.1 o2))] rfl ?_
  intro p e s m args below meth c C hr hk0
  rw [f_X1_carryOut] at hf
  refine r_iload_n 1 C 1 dX1_carryOut_0 rfl rfl ?_
  refine r_if_lt 12 4 C dX1_carryOut_1 rfl rfl (fun c1 => ?_) (fun c1 => ?_)
  · have hf := oip c1 hf
    refine r_bipush (v := (-5)) 14 C dX1_carryOut_12 rfl (by decide) ?_
    have hf := Option.some.inj hf
    subst hf
    exact r_iret C hr hk0 dX1_carryOut_14
  · have hf := oin c1 hf
    refine r_iload_n 5 C 1 dX1_carryOut_4 rfl rfl ?_
    refine r_aload_n 6 C 0 dX1_carryOut_5 rfl rfl ?_
    refine r_geti 9 C (k := 5) shC_89 rfl hinX1 (by decide) rfl dX1_carryOut_6 rfl (by decide +kernel) ?_
    refine r_icmp_lt 15 12 C dX1_carryOut_9 rfl rfl (fun c2 => ?_) (fun c2 => ?_)
    · have hf := oip c2 hf
      refine r_aload_n 16 C 0 dX1_carryOut_15 rfl rfl ?_
      refine r_getr 19 C (k := 2) shC_89 rfl hinX1 (by decide) rfl dX1_carryOut_16 rfl (by decide +kernel) ?_
      refine r_iload_n 20 C 1 dX1_carryOut_19 rfl rfl ?_
      refine r_iconst (v := 3) 21 C dX1_carryOut_20 rfl (by decide) ?_
      refine r_imul 22 C dX1_carryOut_21 rfl ?_
      obtain ⟨x3, hx3, hf⟩ := ob hf
      refine r_iaload 23 C shC_92 dX1_carryOut_22 rfl hx3 ?_
      refine r_istore_n 24 C [(3, .int x3), (0, .ref (G.2.1 89)), (1, .int a1), (2, .ref (G.2.1 o2))] dX1_carryOut_23 rfl rfl (by decide) rfl ?_
      refine r_aload_n 25 C 1 dX1_carryOut_24 rfl rfl ?_
      refine r_getr 28 C (k := 2) shC_89 rfl hinX1 (by decide) rfl dX1_carryOut_25 rfl (by decide +kernel) ?_
      refine r_iload_n 29 C 2 dX1_carryOut_28 rfl rfl ?_
      refine r_iconst (v := 3) 30 C dX1_carryOut_29 rfl (by decide) ?_
      refine r_imul 31 C dX1_carryOut_30 rfl ?_
      refine r_iconst (v := 1) 32 C dX1_carryOut_31 rfl (by decide) ?_
      refine r_iadd 33 C dX1_carryOut_32 rfl ?_
      obtain ⟨x4, hx4, hf⟩ := ob hf
      refine r_iaload 34 C shC_92 dX1_carryOut_33 rfl hx4 ?_
      refine r_istore 36 C [(4, .int x4), (3, .int x3), (0, .ref (G.2.1 89)), (1, .int a1), (2, .ref (G.2.1 o2))] dX1_carryOut_34 rfl rfl (by decide) rfl ?_
      refine r_aload_n 37 C 2 dX1_carryOut_36 rfl rfl ?_
      refine r_getr 40 C (k := 2) shC_89 rfl hinX1 (by decide) rfl dX1_carryOut_37 rfl (by decide +kernel) ?_
      refine r_iload_n 41 C 3 dX1_carryOut_40 rfl rfl ?_
      refine r_iconst (v := 3) 42 C dX1_carryOut_41 rfl (by decide) ?_
      refine r_imul 43 C dX1_carryOut_42 rfl ?_
      refine r_iconst (v := 2) 44 C dX1_carryOut_43 rfl (by decide) ?_
      refine r_iadd 45 C dX1_carryOut_44 rfl ?_
      obtain ⟨x5, hx5, hf⟩ := ob hf
      refine r_iaload 46 C shC_92 dX1_carryOut_45 rfl hx5 ?_
      refine r_istore 48 C [(5, .int x5), (4, .int x4), (3, .int x3), (0, .ref (G.2.1 89)), (1, .int a1), (2, .ref (G.2.1 o2))] dX1_carryOut_46 rfl rfl (by decide) rfl ?_
      refine r_aload_n 49 C 3 dX1_carryOut_48 rfl rfl ?_
      refine r_getr 52 C (k := 0) shC_89 rfl hinX1 (by decide) rfl dX1_carryOut_49 rfl (by decide +kernel) ?_
      refine r_iload_n 53 C 4 dX1_carryOut_52 rfl rfl ?_
      obtain ⟨x6, hx6, hf⟩ := ob hf
      refine r_iaload 54 C shC_90 dX1_carryOut_53 rfl hx6 ?_
      by_cases c9 : x6 = 97
      · have hf := oip c9 hf
        refine r_lookup 120 C (off := 66) dX1_carryOut_54 (by decide) (by rw [c9]; rfl) rfl ?_
        refine r_aload_n 121 C 5 dX1_carryOut_120 rfl rfl ?_
        refine r_iload_n 122 C 2 dX1_carryOut_121 rfl rfl ?_
        refine r_iload 124 C 1 dX1_carryOut_122 rfl rfl ?_
        refine r_iload 126 C 0 dX1_carryOut_124 rfl rfl ?_
        obtain ⟨x7, g8, hx7, hf⟩ := ob2 hf
        refine r_Vi (As := [.int x3, .int x4, .int x5]) 129 C (st_0 ho2) rfl (c_X2_askVote l G A o2 x3 x4 x5 ho2 g _ hx7) (cwV 3 C.1.2.2.2.2 gX1_carryOut_X2_askVote rfl rfl rfl hd_X2_askVote ⟨Nat.le_of_ble_eq_true rfl, Nat.le_of_ble_eq_true rfl⟩) rfl rfl (Nat.le_of_ble_eq_true rfl) dX1_carryOut_126 rfl ?_
        have hf := Option.some.inj hf
        subst hf
        exact r_iret C hr hk0 dX1_carryOut_129
      have hf := oin c9 hf
      by_cases c12 : x6 = 110
      · have hf := oip c12 hf
        refine r_lookup 96 C (off := 42) dX1_carryOut_54 (by decide) (by rw [c12]; rfl) rfl ?_
        refine r_aload_n 97 C 5 dX1_carryOut_96 rfl rfl ?_
        refine r_iload_n 98 C 2 dX1_carryOut_97 rfl rfl ?_
        obtain ⟨x10, g11, hx10, hf⟩ := ob2 hf
        refine r_Vi (As := [.int x3]) 101 C (st_0 ho2) rfl (c_X2_startBallot l G A o2 x3 ho2 g _ hx10) (cwV 1 C.1.2.2.2.2 gX1_carryOut_X2_startBallot rfl rfl rfl hd_X2_startBallot ⟨Nat.le_of_ble_eq_true rfl, Nat.le_of_ble_eq_true rfl⟩) rfl rfl (Nat.le_of_ble_eq_true rfl) dX1_carryOut_98 rfl ?_
        have hf := Option.some.inj hf
        subst hf
        exact r_iret C hr hk0 dX1_carryOut_101
      have hf := oin c12 hf
      by_cases c15 : x6 = 118
      · have hf := oip c15 hf
        refine r_lookup 110 C (off := 56) dX1_carryOut_54 (by decide) (by rw [c15]; rfl) rfl ?_
        refine r_aload_n 111 C 5 dX1_carryOut_110 rfl rfl ?_
        refine r_iload_n 112 C 2 dX1_carryOut_111 rfl rfl ?_
        refine r_iload 114 C 1 dX1_carryOut_112 rfl rfl ?_
        refine r_iload 116 C 0 dX1_carryOut_114 rfl rfl ?_
        obtain ⟨x13, g14, hx13, hf⟩ := ob2 hf
        refine r_Vi (As := [.int x3, .int x4, .int x5]) 119 C (st_0 ho2) rfl (c_X2_offerValue l G A o2 x3 x4 x5 ho2 g _ hx13) (cwV 3 C.1.2.2.2.2 gX1_carryOut_X2_offerValue rfl rfl rfl hd_X2_offerValue ⟨Nat.le_of_ble_eq_true rfl, Nat.le_of_ble_eq_true rfl⟩) rfl rfl (Nat.le_of_ble_eq_true rfl) dX1_carryOut_116 rfl ?_
        have hf := Option.some.inj hf
        subst hf
        exact r_iret C hr hk0 dX1_carryOut_119
      have hf := oin c15 hf
      by_cases c18 : x6 = 121
      · have hf := oip c18 hf
        refine r_lookup 102 C (off := 48) dX1_carryOut_54 (by decide) (by rw [c18]; rfl) rfl ?_
        refine r_aload_n 103 C 5 dX1_carryOut_102 rfl rfl ?_
        refine r_iload_n 104 C 2 dX1_carryOut_103 rfl rfl ?_
        refine r_iload 106 C 1 dX1_carryOut_104 rfl rfl ?_
        obtain ⟨x16, g17, hx16, hf⟩ := ob2 hf
        refine r_Vi (As := [.int x3, .int x4]) 109 C (st_0 ho2) rfl (c_X2_askPromise l G A o2 x3 x4 ho2 g _ hx16) (cwV 2 C.1.2.2.2.2 gX1_carryOut_X2_askPromise rfl rfl rfl hd_X2_askPromise ⟨Nat.le_of_ble_eq_true rfl, Nat.le_of_ble_eq_true rfl⟩) rfl rfl (Nat.le_of_ble_eq_true rfl) dX1_carryOut_106 rfl ?_
        have hf := Option.some.inj hf
        subst hf
        exact r_iret C hr hk0 dX1_carryOut_109
      have hf := oin c18 hf
      refine r_lookup 130 C (off := 76) dX1_carryOut_54 (by decide) (by
        simp only [Op.lookupswitch.offset_cons, Op.lookupswitch.offset_nil]
        rw [if_neg (ne_i c9 (by decide))]
        rw [if_neg (ne_i c12 (by decide))]
        rw [if_neg (ne_i c15 (by decide))]
        rw [if_neg (ne_i c18 (by decide))]) rfl ?_
      refine r_aload_n 131 C 5 dX1_carryOut_130 rfl rfl ?_
      refine r_iload_n 132 C 2 dX1_carryOut_131 rfl rfl ?_
      refine r_aload_n 133 C 3 dX1_carryOut_132 rfl rfl ?_
      refine r_getr 136 C (k := 0) shC_89 rfl hinX1 (by decide) rfl dX1_carryOut_133 rfl (by decide +kernel) ?_
      refine r_iload_n 137 C 4 dX1_carryOut_136 rfl rfl ?_
      obtain ⟨x19, hx19, hf⟩ := ob hf
      refine r_iaload 138 C shC_90 dX1_carryOut_137 rfl hx19 ?_
      refine r_bipush (v := 117) 140 C dX1_carryOut_138 rfl (by decide) ?_
      refine r_icmp_ne 147 143 C dX1_carryOut_140 rfl rfl (fun c20 => ?_) (fun c20 => ?_)
      · have hf := oin c20 hf
        refine r_iconst (v := 0) 148 C dX1_carryOut_147 rfl (by decide) ?_
        obtain ⟨x21, g22, hx21, hf⟩ := ob2 hf
        refine r_Vi (As := [.int x3, .int 0]) 151 C (st_0 ho2) rfl (c_X2_turn l G A o2 x3 false ho2 g _ hx21) (cwV 2 C.1.2.2.2.2 gX1_carryOut_X2_turn rfl rfl rfl hd_X2_turn ⟨Nat.le_of_ble_eq_true rfl, Nat.le_of_ble_eq_true rfl⟩) rfl rfl (Nat.le_of_ble_eq_true rfl) dX1_carryOut_148 rfl ?_
        have hf := Option.some.inj hf
        subst hf
        exact r_iret C hr hk0 dX1_carryOut_151
      · have hf := oip c20 hf
        refine r_iconst (v := 1) 144 C dX1_carryOut_143 rfl (by decide) ?_
        refine r_goto 148 C dX1_carryOut_144 rfl ?_
        obtain ⟨x23, g24, hx23, hf⟩ := ob2 hf
        refine r_Vi (As := [.int x3, .int 1]) 151 C (st_0 ho2) rfl (c_X2_turn l G A o2 x3 true ho2 g _ hx23) (cwV 2 C.1.2.2.2.2 gX1_carryOut_X2_turn rfl rfl rfl hd_X2_turn ⟨Nat.le_of_ble_eq_true rfl, Nat.le_of_ble_eq_true rfl⟩) rfl rfl (Nat.le_of_ble_eq_true rfl) dX1_carryOut_148 rfl ?_
        have hf := Option.some.inj hf
        subst hf
        exact r_iret C hr hk0 dX1_carryOut_151
    · have hf := oin c2 hf
      refine r_bipush (v := (-5)) 14 C dX1_carryOut_12 rfl (by decide) ?_
      have hf := Option.some.inj hf
      subst hf
      exact r_iret C hr hk0 dX1_carryOut_14
theorem in_X3_append_X3 : ∀ w ∈ wsX30, w ∈ wsX3_append := by decide +kernel
def rm_X3_append : Room := { frames := 0, cells := 0, slots := 0, locals := 0 }
theorem hd_X3_append : yX3_append.cls = RX3 ∧ yX3_append.cls ≠ "java/lang/invoke/MethodHandle" ∧ yX3_append.cls ≠ "java/lang/invoke/VarHandle" ∧ (parseMethodDescriptor yX3_append.desc).map (fun d => d.parameters.length) = some 1 := by decide +kernel
set_option maxRecDepth 100000 in
set_option maxHeartbeats 4000000 in
theorem c_X3_append (l : Launch) (G : GG) (A : Nat → Prop) (a1 : Int32)  (g : Mem) (res : Int32 × Mem) (hf : f_X3_append a1 g = some res) : k_Mi l yX3_append wsX3_append rm_X3_append G shC A [.ref (G.2.1 87), .int a1] g res.1 res.2 := by
  have hinX3 : ∀ w ∈ wsX30, w ∈ wsX3_append := in_X3_append_X3
  refine k_ofi (cc := cX3_append) (nL := 2) (own := RX3) (by decide +kernel) rfl rfl (by simp [lg_sl, Value.category]) ⟨rfl, rfl⟩ [(0, .ref (G.2.1 87)), (1, .int a1)] rfl ?_
  intro p e s m args below meth c C hr hk0
  rw [f_X3_append] at hf
  refine r_aload_n 1 C 0 dX3_append_0 rfl rfl ?_
  refine r_geti 4 C (k := 1) shC_87 rfl hinX3 (by decide) rfl dX3_append_1 rfl (by decide +kernel) ?_
  refine r_bipush (v := 60) 6 C dX3_append_4 rfl (by decide) ?_
  refine r_icmp_lt 12 9 C dX3_append_6 rfl rfl (fun c1 => ?_) (fun c1 => ?_)
  · have hf := oip c1 hf
    refine r_aload_n 13 C 0 dX3_append_12 rfl rfl ?_
    refine r_getr 16 C (k := 0) shC_87 rfl hinX3 (by decide) rfl dX3_append_13 rfl (by decide +kernel) ?_
    refine r_aload_n 17 C 0 dX3_append_16 rfl rfl ?_
    refine r_geti 20 C (k := 1) shC_87 rfl hinX3 (by decide) rfl dX3_append_17 rfl (by decide +kernel) ?_
    refine r_iload_n 21 C 1 dX3_append_20 rfl rfl ?_
    obtain ⟨g2, hg2, hf⟩ := ob hf
    refine r_castore 22 C shC_88 dX3_append_21 rfl hg2 ?_
    refine r_aload_n 23 C 0 dX3_append_22 rfl rfl ?_
    refine r_dup 24 C dX3_append_23 rfl rfl ?_
    refine r_geti 27 C (k := 1) shC_87 rfl hinX3 (by decide) rfl dX3_append_24 rfl (by decide +kernel) ?_
    refine r_iconst (v := 1) 28 C dX3_append_27 rfl (by decide) ?_
    refine r_iadd 29 C dX3_append_28 rfl ?_
    obtain ⟨g3, hg3, hf⟩ := ol hf
    refine r_puti 32 C (k := 1) (ty := .int) tyX3 tyX3_ok nmX3 shC_87 rfl hinX3 (by decide) rfl rfl (by decide +kernel) rfl rfl hg3 dX3_append_29 rfl (by decide +kernel) ?_
    refine r_aload_n 33 C 0 dX3_append_32 rfl rfl ?_
    refine r_geti 36 C (k := 1) shC_87 rfl hinX3 (by decide) rfl dX3_append_33 rfl (by decide +kernel) ?_
    have hf := Option.some.inj hf
    subst hf
    exact r_iret C hr hk0 dX3_append_36
  · have hf := oin c1 hf
    refine r_bipush (v := (-3)) 11 C dX3_append_9 rfl (by decide) ?_
    have hf := Option.some.inj hf
    subst hf
    exact r_iret C hr hk0 dX3_append_11
theorem in_X3_empty_X3 : ∀ w ∈ wsX30, w ∈ wsX3_empty := by decide +kernel
def rm_X3_empty : Room := { frames := 0, cells := 0, slots := 0, locals := 0 }
theorem hd_X3_empty : yX3_empty.cls = RX3 ∧ yX3_empty.cls ≠ "java/lang/invoke/MethodHandle" ∧ yX3_empty.cls ≠ "java/lang/invoke/VarHandle" ∧ (parseMethodDescriptor yX3_empty.desc).map (fun d => d.parameters.length) = some 0 := by decide +kernel
set_option maxRecDepth 100000 in
set_option maxHeartbeats 4000000 in
theorem c_X3_empty (l : Launch) (G : GG) (A : Nat → Prop)   (g : Mem) (res : Int32 × Mem) (hf : f_X3_empty  g = some res) : k_Mi l yX3_empty wsX3_empty rm_X3_empty G shC A [.ref (G.2.1 87)] g res.1 res.2 := by
  have hinX3 : ∀ w ∈ wsX30, w ∈ wsX3_empty := in_X3_empty_X3
  refine k_ofi (cc := cX3_empty) (nL := 2) (own := RX3) (by decide +kernel) rfl rfl (by simp [lg_sl, Value.category]) ⟨rfl, rfl⟩ [(0, .ref (G.2.1 87))] rfl ?_
  intro p e s m args below meth c C hr hk0
  rw [f_X3_empty] at hf
  refine r_aload_n 1 C 0 dX3_empty_0 rfl rfl ?_
  refine r_geti 4 C (k := 1) shC_87 rfl hinX3 (by decide) rfl dX3_empty_1 rfl (by decide +kernel) ?_
  obtain ⟨x1, hx1, hf⟩ := ol hf
  refine r_istore_n 5 C [(1, .int x1), (0, .ref (G.2.1 87))] dX3_empty_4 rfl hx1 (by decide) rfl ?_
  refine r_aload_n 6 C 1 dX3_empty_5 rfl rfl ?_
  refine r_iconst (v := 0) 7 C dX3_empty_6 rfl (by decide) ?_
  obtain ⟨g2, hg2, hf⟩ := ol hf
  refine r_puti 10 C (k := 1) (ty := .int) tyX3 tyX3_ok nmX3 shC_87 rfl hinX3 (by decide) rfl rfl (by decide +kernel) rfl rfl hg2 dX3_empty_7 rfl (by decide +kernel) ?_
  refine r_iload_n 11 C 0 dX3_empty_10 rfl rfl ?_
  have hf := Option.some.inj hf
  subst hf
  exact r_iret C hr hk0 dX3_empty_11
