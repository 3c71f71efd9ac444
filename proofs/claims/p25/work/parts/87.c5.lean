def rm_L_ballots : Room := { frames := 7, cells := 0, slots := 0, locals := 156 }
theorem hd_L_ballots : yL_ballots.cls ≠ "java/lang/invoke/MethodHandle" ∧ yL_ballots.cls ≠ "java/lang/invoke/VarHandle" ∧ (parseMethodDescriptor yL_ballots.desc).map (fun d => d.parameters.length) = some 6 := by decide +kernel
set_option maxRecDepth 100000 in
set_option maxHeartbeats 4000000 in
theorem t_L_ballots_J721 {p : Program} {l : Launch} {e : Env} {s : State} {m : MethodId} {args : Array Value} {below : List Frame} {meth : Method} {c : Code} {G : GG} {A : Nat → Prop} (C : KX p s m args c cL_ballots 19 RL wsL_ballots G shC A) (hr : meth.sig.returnType = (some .boolean)) (hk0 : meth.locks = false) (a2 : Int32) (a3 : Int32) (a4 : Int32) (a5 : Int32) (a6 : Int32)  (v3 : Int32) (v4 : Int32) (v6 : Int32) (v10 : Int32) (v11 : Int32) (v14 : Int32) (v15 : Int32) (v16 : Int32) (v18 : Int32) (s0 : Int32) (s1 : Int32) (g : Mem) {res : Bool × Mem} {k : Int32 → Option (Bool × Mem)} {r : Int32 → Int32 → Option (Bool × Mem)} (hk : ∀ (v17 : Int32), k v17 = some res → JJ p l e rm_L_ballots s m args below meth c 19 G shC A (MQ below (k_Qi G shC A (bI res.1) res.2) args s 0 0 A) 730 [(0, .ref (G.2.1 0)), (3, .int v3), (4, .int v4), (6, .int v6), (10, .int v10), (14, .int v14), (15, .int v15), (16, .int v16), (17, .int v17)] [] g) (hr2 : ∀ (v17 : Int32) (v18 : Int32), r v17 v18 = some res → JJ p l e rm_L_ballots s m args below meth c 19 G shC A (MQ below (k_Qi G shC A (bI res.1) res.2) args s 0 0 A) 682 [(0, .ref (G.2.1 0)), (3, .int v3), (4, .int v4), (6, .int v6), (10, .int v10), (11, .int v11), (14, .int v14), (15, .int v15), (16, .int v16), (17, .int v17), (18, .int v18)] [] g) (hf : f_L_ballots_J721 k r v3 v4 v6 v10 v11 v14 v15 v16 v18 s0 s1 g = some res) : JJ p l e rm_L_ballots s m args below meth c 19 G shC A (MQ below (k_Qi G shC A (bI res.1) res.2) args s 0 0 A) 721 [(0, .ref (G.2.1 0)), (3, .int v3), (4, .int v4), (6, .int v6), (10, .int v10), (11, .int v11), (14, .int v14), (15, .int v15), (16, .int v16), (18, .int v18)] [.int s0, .int s1] g := by
  rw [f_L_ballots_J721] at hf
  refine r_iadd 722 C dL_ballots_721 rfl ?_
  obtain ⟨x23, hx23, hf⟩ := ol hf
  refine r_istore 724 C [(17, .int x23), (0, .ref (G.2.1 0)), (3, .int v3), (4, .int v4), (6, .int v6), (10, .int v10), (11, .int v11), (14, .int v14), (15, .int v15), (16, .int v16), (18, .int v18)] dL_ballots_722 rfl hx23 (by decide) rfl ?_
  obtain ⟨x24, hx24, hf⟩ := ol hf
  refine r_iinc 727 C 10 x24 [(18, .int x24), (17, .int x23), (0, .ref (G.2.1 0)), (3, .int v3), (4, .int v4), (6, .int v6), (10, .int v10), (11, .int v11), (14, .int v14), (15, .int v15), (16, .int v16)] dL_ballots_724 rfl rfl hx24.symm (by decide) rfl ?_
  refine r_goto 682 C dL_ballots_727 rfl ?_
  refine r_sub [(0, .ref (G.2.1 0)), (3, .int v3), (4, .int v4), (6, .int v6), (10, .int v10), (11, .int v11), (14, .int v14), (15, .int v15), (16, .int v16), (17, .int x23), (18, .int x24)] [2, 3, 4, 5, 6, 7, 8, 9, 10, 1, 0] rfl ?_
  exact hr2 _ _ hf
set_option maxRecDepth 100000 in
set_option maxHeartbeats 4000000 in
theorem t_L_ballots_J720 {p : Program} {l : Launch} {e : Env} {s : State} {m : MethodId} {args : Array Value} {below : List Frame} {meth : Method} {c : Code} {G : GG} {A : Nat → Prop} (C : KX p s m args c cL_ballots 19 RL wsL_ballots G shC A) (hr : meth.sig.returnType = (some .boolean)) (hk0 : meth.locks = false) (a2 : Int32) (a3 : Int32) (a4 : Int32) (a5 : Int32) (a6 : Int32)  (v3 : Int32) (v4 : Int32) (v6 : Int32) (v10 : Int32) (v11 : Int32) (v14 : Int32) (v15 : Int32) (v16 : Int32) (v18 : Int32) (s0 : Int32) (g : Mem) {res : Bool × Mem} {k : Int32 → Option (Bool × Mem)} {r : Int32 → Int32 → Option (Bool × Mem)} (hk : ∀ (v17 : Int32), k v17 = some res → JJ p l e rm_L_ballots s m args below meth c 19 G shC A (MQ below (k_Qi G shC A (bI res.1) res.2) args s 0 0 A) 730 [(0, .ref (G.2.1 0)), (3, .int v3), (4, .int v4), (6, .int v6), (10, .int v10), (14, .int v14), (15, .int v15), (16, .int v16), (17, .int v17)] [] g) (hr2 : ∀ (v17 : Int32) (v18 : Int32), r v17 v18 = some res → JJ p l e rm_L_ballots s m args below meth c 19 G shC A (MQ below (k_Qi G shC A (bI res.1) res.2) args s 0 0 A) 682 [(0, .ref (G.2.1 0)), (3, .int v3), (4, .int v4), (6, .int v6), (10, .int v10), (11, .int v11), (14, .int v14), (15, .int v15), (16, .int v16), (17, .int v17), (18, .int v18)] [] g) (hf : f_L_ballots_J720 k r v3 v4 v6 v10 v11 v14 v15 v16 v18 s0 g = some res) : JJ p l e rm_L_ballots s m args below meth c 19 G shC A (MQ below (k_Qi G shC A (bI res.1) res.2) args s 0 0 A) 720 [(0, .ref (G.2.1 0)), (3, .int v3), (4, .int v4), (6, .int v6), (10, .int v10), (11, .int v11), (14, .int v14), (15, .int v15), (16, .int v16), (18, .int v18)] [.int s0] g := by
  rw [f_L_ballots_J720] at hf
  refine r_iconst (v := 0) 721 C dL_ballots_720 rfl (by decide) ?_
  refine r_sub [(0, .ref (G.2.1 0)), (3, .int v3), (4, .int v4), (6, .int v6), (10, .int v10), (11, .int v11), (14, .int v14), (15, .int v15), (16, .int v16), (18, .int v18)] [0, 1, 2, 3, 4, 5, 6, 7, 8, 9] rfl ?_
  exact t_L_ballots_J721 C hr hk0 a2 a3 a4 a5 a6 v3 v4 v6 v10 v11 v14 v15 v16 v18 0 s0 g hk hr2 hf
set_option maxRecDepth 100000 in
set_option maxHeartbeats 4000000 in
theorem t_L_ballots_L682 {p : Program} {l : Launch} {e : Env} {s : State} {m : MethodId} {args : Array Value} {below : List Frame} {meth : Method} {c : Code} {G : GG} {A : Nat → Prop} (C : KX p s m args c cL_ballots 19 RL wsL_ballots G shC A) (hr : meth.sig.returnType = (some .boolean)) (hk0 : meth.locks = false) (a2 : Int32) (a3 : Int32) (a4 : Int32) (a5 : Int32) (a6 : Int32)  (v3 : Int32) (v4 : Int32) (v6 : Int32) (v10 : Int32) (v11 : Int32) (v14 : Int32) (v15 : Int32) (v16 : Int32) (g : Mem) {res : Bool × Mem} {k : Int32 → Option (Bool × Mem)} (hk : ∀ (v17 : Int32), k v17 = some res → JJ p l e rm_L_ballots s m args below meth c 19 G shC A (MQ below (k_Qi G shC A (bI res.1) res.2) args s 0 0 A) 730 [(0, .ref (G.2.1 0)), (3, .int v3), (4, .int v4), (6, .int v6), (10, .int v10), (14, .int v14), (15, .int v15), (16, .int v16), (17, .int v17)] [] g) : ∀ (n : Nat) (v17 : Int32) (v18 : Int32), f_L_ballots_L682 k v3 v4 v6 v10 v11 v14 v15 v16 g n v17 v18 = some res → JJ p l e rm_L_ballots s m args below meth c 19 G shC A (MQ below (k_Qi G shC A (bI res.1) res.2) args s 0 0 A) 682 [(0, .ref (G.2.1 0)), (3, .int v3), (4, .int v4), (6, .int v6), (10, .int v10), (11, .int v11), (14, .int v14), (15, .int v15), (16, .int v16), (17, .int v17), (18, .int v18)] [] g := by
  intro n
  induction n with
  | zero =>
    intro v17 v18 hf
    rw [f_L_ballots_L682] at hf
    cases hf
  | succ n ih =>
    intro v17 v18 hf
    rw [f_L_ballots_L682] at hf
    refine r_iload 684 C 10 dL_ballots_682 rfl rfl ?_
    refine r_bipush (v := 6) 686 C dL_ballots_684 rfl (by decide) ?_
    refine r_icmp_ge 730 689 C dL_ballots_686 rfl rfl (fun c21 => ?_) (fun c21 => ?_)
    · have hf := oip c21 hf
      refine r_sub [(0, .ref (G.2.1 0)), (3, .int v3), (4, .int v4), (6, .int v6), (10, .int v10), (14, .int v14), (15, .int v15), (16, .int v16), (17, .int v17)] [0, 1, 2, 3, 4, 6, 7, 8, 9] rfl ?_
      exact hk _ hf
    · have hf := oin c21 hf
      refine r_iload 691 C 9 dL_ballots_689 rfl rfl ?_
      refine r_iload 693 C 5 dL_ballots_691 rfl rfl ?_
      refine r_iload 695 C 10 dL_ballots_693 rfl rfl ?_
      refine r_ishr 696 C dL_ballots_695 rfl ?_
      refine r_iconst (v := 1) 697 C dL_ballots_696 rfl (by decide) ?_
      refine r_iand 698 C dL_ballots_697 rfl ?_
      refine r_iconst (v := 1) 699 C dL_ballots_698 rfl (by decide) ?_
      refine r_icmp_ne 720 702 C dL_ballots_699 rfl rfl (fun c22 => ?_) (fun c22 => ?_)
      · have hf := oin c22 hf
        refine r_sub [(0, .ref (G.2.1 0)), (3, .int v3), (4, .int v4), (6, .int v6), (10, .int v10), (11, .int v11), (14, .int v14), (15, .int v15), (16, .int v16), (18, .int v18)] [0, 1, 2, 3, 4, 5, 6, 7, 8, 10] rfl ?_
        exact t_L_ballots_J720 C hr hk0 a2 a3 a4 a5 a6 v3 v4 v6 v10 v11 v14 v15 v16 v18 v17 g hk ih hf
      · have hf := oip c22 hf
        refine r_aload_n 703 C 0 dL_ballots_702 rfl rfl ?_
        refine r_iload 705 C 10 dL_ballots_703 rfl rfl ?_
        refine r_iload 707 C 2 dL_ballots_705 rfl rfl ?_
        refine r_iconst (v := 0) 708 C dL_ballots_707 rfl (by decide) ?_
        obtain ⟨x25, hx25, hf⟩ := ob hf
        refine r_Vi (As := [.int v18, .int v4, .int 0]) 711 C shC_0 rfl (c_X4_voted l G A v18 v4 0 g _ hx25) (cwV 3 C.1.2.2.2.2 gL_ballots_X4_voted rfl rfl rfl hd_X4_voted ⟨Nat.le_of_ble_eq_true rfl, Nat.le_of_ble_eq_true rfl⟩) rfl rfl (Nat.le_of_ble_eq_true rfl) dL_ballots_708 rfl ?_
        refine r_iload 713 C 3 dL_ballots_711 rfl rfl ?_
        refine r_icmp_ne 720 716 C dL_ballots_713 rfl rfl (fun c26 => ?_) (fun c26 => ?_)
        · have hf := oin c26 hf
          refine r_sub [(0, .ref (G.2.1 0)), (3, .int v3), (4, .int v4), (6, .int v6), (10, .int v10), (11, .int v11), (14, .int v14), (15, .int v15), (16, .int v16), (18, .int v18)] [0, 1, 2, 3, 4, 5, 6, 7, 8, 10] rfl ?_
          exact t_L_ballots_J720 C hr hk0 a2 a3 a4 a5 a6 v3 v4 v6 v10 v11 v14 v15 v16 v18 v17 g hk ih hf
        · have hf := oip c26 hf
          refine r_iconst (v := 1) 717 C dL_ballots_716 rfl (by decide) ?_
          refine r_goto 721 C dL_ballots_717 rfl ?_
          refine r_sub [(0, .ref (G.2.1 0)), (3, .int v3), (4, .int v4), (6, .int v6), (10, .int v10), (11, .int v11), (14, .int v14), (15, .int v15), (16, .int v16), (18, .int v18)] [0, 1, 2, 3, 4, 5, 6, 7, 8, 10] rfl ?_
          exact t_L_ballots_J721 C hr hk0 a2 a3 a4 a5 a6 v3 v4 v6 v10 v11 v14 v15 v16 v18 1 v17 g hk ih hf
set_option maxRecDepth 100000 in
set_option maxHeartbeats 4000000 in
theorem t_L_ballots_J805 {p : Program} {l : Launch} {e : Env} {s : State} {m : MethodId} {args : Array Value} {below : List Frame} {meth : Method} {c : Code} {G : GG} {A : Nat → Prop} (C : KX p s m args c cL_ballots 19 RL wsL_ballots G shC A) (hr : meth.sig.returnType = (some .boolean)) (hk0 : meth.locks = false) (a2 : Int32) (a3 : Int32) (a4 : Int32) (a5 : Int32) (a6 : Int32)  (s0 : Int32) (s1 : Int32) (g : Mem) {res : Bool × Mem} (hf : f_L_ballots_J805 s0 s1 g = some res) : JJ p l e rm_L_ballots s m args below meth c 19 G shC A (MQ below (k_Qi G shC A (bI res.1) res.2) args s 0 0 A) 805 [] [.int s0, .int s1] g := by
  rw [f_L_ballots_J805] at hf
  refine r_icmp_ne 812 808 C dL_ballots_805 rfl rfl (fun c38 => ?_) (fun c38 => ?_)
  · have hf := oin c38 hf
    refine r_iconst (v := 0) 813 C dL_ballots_812 rfl (by decide) ?_
    have hf := Option.some.inj hf
    subst hf
    exact r_zret C hr hk0 false rfl dL_ballots_813
  · have hf := oip c38 hf
    refine r_iconst (v := 1) 809 C dL_ballots_808 rfl (by decide) ?_
    refine r_goto 813 C dL_ballots_809 rfl ?_
    have hf := Option.some.inj hf
    subst hf
    exact r_zret C hr hk0 true rfl dL_ballots_813
set_option maxRecDepth 100000 in
set_option maxHeartbeats 4000000 in
theorem t_L_ballots_J551 {p : Program} {l : Launch} {e : Env} {s : State} {m : MethodId} {args : Array Value} {below : List Frame} {meth : Method} {c : Code} {G : GG} {A : Nat → Prop} (C : KX p s m args c cL_ballots 19 RL wsL_ballots G shC A) (hr : meth.sig.returnType = (some .boolean)) (hk0 : meth.locks = false) (a2 : Int32) (a3 : Int32) (a4 : Int32) (a5 : Int32) (a6 : Int32)  (v2 : Int32) (v3 : Int32) (v4 : Int32) (v6 : Int32) (v7 : Int32) (v10 : Int32) (v11 : Int32) (s0 : Int32) (g : Mem) {res : Bool × Mem} (hf : f_L_ballots_J551 v2 v3 v4 v6 v7 v10 v11 s0 g = some res) : JJ p l e rm_L_ballots s m args below meth c 19 G shC A (MQ below (k_Qi G shC A (bI res.1) res.2) args s 0 0 A) 551 [(0, .ref (G.2.1 0)), (2, .int v2), (3, .int v3), (4, .int v4), (6, .int v6), (7, .int v7), (10, .int v10), (11, .int v11)] [.int s0] g := by
  rw [f_L_ballots_J551] at hf
  refine r_istore 553 C [(12, .int s0), (0, .ref (G.2.1 0)), (2, .int v2), (3, .int v3), (4, .int v4), (6, .int v6), (7, .int v7), (10, .int v10), (11, .int v11)] dL_ballots_551 rfl rfl (by decide) rfl ?_
  refine r_aload_n 554 C 1 dL_ballots_553 rfl rfl ?_
  refine r_iload_n 555 C 3 dL_ballots_554 rfl rfl ?_
  refine r_iload 557 C 4 dL_ballots_555 rfl rfl ?_
  refine r_iconst (v := 0) 558 C dL_ballots_557 rfl (by decide) ?_
  obtain ⟨x13, hx13, hf⟩ := ob hf
  refine r_Vi (As := [.int v3, .int v4, .int 0]) 561 C shC_0 rfl (c_X4_voted l G A v3 v4 0 g _ hx13) (cwV 3 C.1.2.2.2.2 gL_ballots_X4_voted rfl rfl rfl hd_X4_voted ⟨Nat.le_of_ble_eq_true rfl, Nat.le_of_ble_eq_true rfl⟩) rfl rfl (Nat.le_of_ble_eq_true rfl) dL_ballots_558 rfl ?_
  refine r_istore 563 C [(13, .int x13), (12, .int s0), (0, .ref (G.2.1 0)), (2, .int v2), (3, .int v3), (4, .int v4), (6, .int v6), (7, .int v7), (10, .int v10), (11, .int v11)] dL_ballots_561 rfl rfl (by decide) rfl ?_
  refine r_aload_n 564 C 2 dL_ballots_563 rfl rfl ?_
  refine r_iload 566 C 5 dL_ballots_564 rfl rfl ?_
  refine r_iconst (v := 0) 567 C dL_ballots_566 rfl (by decide) ?_
  obtain ⟨x14, hx14, hf⟩ := ob hf
  refine r_Vi (As := [.int v4, .int 0]) 570 C shC_0 rfl (c_X4_slot l G A v4 0 g _ hx14) (cwV 2 C.1.2.2.2.2 gL_ballots_X4_slot rfl rfl rfl hd_X4_slot ⟨Nat.le_of_ble_eq_true rfl, Nat.le_of_ble_eq_true rfl⟩) rfl rfl (Nat.le_of_ble_eq_true rfl) dL_ballots_567 rfl ?_
  refine r_istore 572 C [(14, .int x14), (13, .int x13), (12, .int s0), (0, .ref (G.2.1 0)), (2, .int v2), (3, .int v3), (4, .int v4), (6, .int v6), (7, .int v7), (10, .int v10), (11, .int v11)] dL_ballots_570 rfl rfl (by decide) rfl ?_
  refine r_aload_n 573 C 3 dL_ballots_572 rfl rfl ?_
  refine r_iload 575 C 6 dL_ballots_573 rfl rfl ?_
  refine r_iconst (v := 4) 576 C dL_ballots_575 rfl (by decide) ?_
  obtain ⟨x15, hx15, hf⟩ := ob hf
  refine r_Vi (As := [.int v4, .int 4]) 579 C shC_0 rfl (c_X4_slot l G A v4 4 g _ hx15) (cwV 2 C.1.2.2.2.2 gL_ballots_X4_slot rfl rfl rfl hd_X4_slot ⟨Nat.le_of_ble_eq_true rfl, Nat.le_of_ble_eq_true rfl⟩) rfl rfl (Nat.le_of_ble_eq_true rfl) dL_ballots_576 rfl ?_
  refine r_istore 581 C [(15, .int x15), (14, .int x14), (13, .int x13), (12, .int s0), (0, .ref (G.2.1 0)), (2, .int v2), (3, .int v3), (4, .int v4), (6, .int v6), (7, .int v7), (10, .int v10), (11, .int v11)] dL_ballots_579 rfl rfl (by decide) rfl ?_
  refine r_aload_n 582 C 4 dL_ballots_581 rfl rfl ?_
  refine r_iload_n 583 C 5 dL_ballots_582 rfl rfl ?_
  refine r_iload 585 C 7 dL_ballots_583 rfl rfl ?_
  refine r_iload_n 586 C 6 dL_ballots_585 rfl rfl ?_
  obtain ⟨x16, g17, hx16, hf⟩ := ob2 hf
  refine r_Vi (As := [.int v2, .int v4, .int v3]) 589 C shC_0 rfl (c_X4_vote l G A v2 v4 v3 g _ hx16) (cwV 3 C.1.2.2.2.2 gL_ballots_X4_vote rfl rfl rfl hd_X4_vote ⟨Nat.le_of_ble_eq_true rfl, Nat.le_of_ble_eq_true rfl⟩) rfl rfl (Nat.le_of_ble_eq_true rfl) dL_ballots_586 rfl ?_
  refine r_istore 591 C [(16, .int x16), (15, .int x15), (14, .int x14), (13, .int x13), (12, .int s0), (0, .ref (G.2.1 0)), (2, .int v2), (3, .int v3), (4, .int v4), (6, .int v6), (7, .int v7), (10, .int v10), (11, .int v11)] dL_ballots_589 rfl rfl (by decide) rfl ?_
  refine r_iload 593 C 4 dL_ballots_591 rfl rfl ?_
  refine r_if_ne 609 596 C dL_ballots_593 rfl rfl (fun c18 => ?_) (fun c18 => ?_)
  · have hf := oin c18 hf
    refine r_iload 611 C 3 dL_ballots_609 rfl rfl ?_
    refine r_iload 613 C 9 dL_ballots_611 rfl rfl ?_
    refine r_icmp_ne 629 616 C dL_ballots_613 rfl rfl (fun c19 => ?_) (fun c19 => ?_)
    · have hf := oin c19 hf
      refine r_iload 631 C 9 dL_ballots_629 rfl rfl ?_
      refine r_iload 633 C 10 dL_ballots_631 rfl rfl ?_
      refine r_icmp_ge 676 636 C dL_ballots_633 rfl rfl (fun c20 => ?_) (fun c20 => ?_)
      · have hf := oip c20 hf
        refine r_iconst (v := 0) 677 C dL_ballots_676 rfl (by decide) ?_
        refine r_istore 679 C [(17, .int 0), (16, .int x16), (15, .int x15), (14, .int x14), (13, .int x13), (12, .int s0), (0, .ref (G.2.1 0)), (2, .int v2), (3, .int v3), (4, .int v4), (6, .int v6), (7, .int v7), (10, .int v10), (11, .int v11)] dL_ballots_677 rfl rfl (by decide) rfl ?_
        refine r_iconst (v := 0) 680 C dL_ballots_679 rfl (by decide) ?_
        refine r_istore 682 C [(18, .int 0), (17, .int 0), (16, .int x16), (15, .int x15), (14, .int x14), (13, .int x13), (12, .int s0), (0, .ref (G.2.1 0)), (2, .int v2), (3, .int v3), (4, .int v4), (6, .int v6), (7, .int v7), (10, .int v10), (11, .int v11)] dL_ballots_680 rfl rfl (by decide) rfl ?_
        refine r_sub [(0, .ref (G.2.1 0)), (3, .int v3), (4, .int v4), (6, .int v6), (10, .int v10), (11, .int v11), (14, .int x14), (15, .int x15), (16, .int x16), (17, .int 0), (18, .int 0)] [7, 9, 10, 11, 13, 14, 4, 3, 2, 1, 0] rfl ?_
        refine t_L_ballots_L682 C hr hk0 a2 a3 a4 a5 a6 v3 v4 v6 v10 v11 x14 x15 x16 g17 (fun x27 hf => ?_) fuel0 _ _ hf
        refine r_iload 732 C 7 dL_ballots_730 rfl rfl ?_
        refine r_iload 734 C 8 dL_ballots_732 rfl rfl ?_
        refine r_icmp_ne 812 737 C dL_ballots_734 rfl rfl (fun c28 => ?_) (fun c28 => ?_)
        · have hf := oin c28 hf
          refine r_iconst (v := 0) 813 C dL_ballots_812 rfl (by decide) ?_
          have hf := Option.some.inj hf
          subst hf
          exact r_zret C hr hk0 false rfl dL_ballots_813
        · have hf := oip c28 hf
          refine r_aload_n 738 C 0 dL_ballots_737 rfl rfl ?_
          refine r_iload_n 739 C 1 dL_ballots_738 rfl rfl ?_
          refine r_iload 741 C 2 dL_ballots_739 rfl rfl ?_
          refine r_iconst (v := 0) 742 C dL_ballots_741 rfl (by decide) ?_
          obtain ⟨x29, hx29, hf⟩ := ob hf
          refine r_Vi (As := [.int v3, .int v4, .int 0]) 745 C shC_0 rfl (c_X4_voted l G A v3 v4 0 g17 _ hx29) (cwV 3 C.1.2.2.2.2 gL_ballots_X4_voted rfl rfl rfl hd_X4_voted ⟨Nat.le_of_ble_eq_true rfl, Nat.le_of_ble_eq_true rfl⟩) rfl rfl (Nat.le_of_ble_eq_true rfl) dL_ballots_742 rfl ?_
          refine r_iload 747 C 3 dL_ballots_745 rfl rfl ?_
          refine r_icmp_ne 812 750 C dL_ballots_747 rfl rfl (fun c30 => ?_) (fun c30 => ?_)
          · have hf := oin c30 hf
            refine r_iconst (v := 0) 813 C dL_ballots_812 rfl (by decide) ?_
            have hf := Option.some.inj hf
            subst hf
            exact r_zret C hr hk0 false rfl dL_ballots_813
          · have hf := oip c30 hf
            refine r_aload_n 751 C 0 dL_ballots_750 rfl rfl ?_
            refine r_iload_n 752 C 1 dL_ballots_751 rfl rfl ?_
            refine r_iload 754 C 2 dL_ballots_752 rfl rfl ?_
            refine r_iconst (v := 1) 755 C dL_ballots_754 rfl (by decide) ?_
            obtain ⟨x31, hx31, hf⟩ := ob hf
            refine r_Vi (As := [.int v3, .int v4, .int 1]) 758 C shC_0 rfl (c_X4_voted l G A v3 v4 1 g17 _ hx31) (cwV 3 C.1.2.2.2.2 gL_ballots_X4_voted rfl rfl rfl hd_X4_voted ⟨Nat.le_of_ble_eq_true rfl, Nat.le_of_ble_eq_true rfl⟩) rfl rfl (Nat.le_of_ble_eq_true rfl) dL_ballots_755 rfl ?_
            refine r_iload 760 C 4 dL_ballots_758 rfl rfl ?_
            refine r_icmp_ne 812 763 C dL_ballots_760 rfl rfl (fun c32 => ?_) (fun c32 => ?_)
            · have hf := oin c32 hf
              refine r_iconst (v := 0) 813 C dL_ballots_812 rfl (by decide) ?_
              have hf := Option.some.inj hf
              subst hf
              exact r_zret C hr hk0 false rfl dL_ballots_813
            · have hf := oip c32 hf
              refine r_aload_n 764 C 0 dL_ballots_763 rfl rfl ?_
              refine r_iload_n 765 C 1 dL_ballots_764 rfl rfl ?_
              refine r_iconst (v := 1) 766 C dL_ballots_765 rfl (by decide) ?_
              obtain ⟨x33, hx33, hf⟩ := ob hf
              refine r_Vi (As := [.int v3, .int 1]) 769 C shC_0 rfl (c_X4_acceptor l G A v3 1 g17 _ hx33) (cwV 2 C.1.2.2.2.2 gL_ballots_X4_acceptor rfl rfl rfl hd_X4_acceptor ⟨Nat.le_of_ble_eq_true rfl, Nat.le_of_ble_eq_true rfl⟩) rfl rfl (Nat.le_of_ble_eq_true rfl) dL_ballots_766 rfl ?_
              refine r_iload 771 C 3 dL_ballots_769 rfl rfl ?_
              refine r_icmp_ne 812 774 C dL_ballots_771 rfl rfl (fun c34 => ?_) (fun c34 => ?_)
              · have hf := oin c34 hf
                refine r_iconst (v := 0) 813 C dL_ballots_812 rfl (by decide) ?_
                have hf := Option.some.inj hf
                subst hf
                exact r_zret C hr hk0 false rfl dL_ballots_813
              · have hf := oip c34 hf
                refine r_aload_n 775 C 0 dL_ballots_774 rfl rfl ?_
                refine r_iload 777 C 2 dL_ballots_775 rfl rfl ?_
                refine r_iconst (v := 0) 778 C dL_ballots_777 rfl (by decide) ?_
                obtain ⟨x35, hx35, hf⟩ := ob hf
                refine r_Vi (As := [.int v4, .int 0]) 781 C shC_0 rfl (c_X4_slot l G A v4 0 g17 _ hx35) (cwV 2 C.1.2.2.2.2 gL_ballots_X4_slot rfl rfl rfl hd_X4_slot ⟨Nat.le_of_ble_eq_true rfl, Nat.le_of_ble_eq_true rfl⟩) rfl rfl (Nat.le_of_ble_eq_true rfl) dL_ballots_778 rfl ?_
                refine r_iload 783 C 5 dL_ballots_781 rfl rfl ?_
                refine r_if_le 791 786 C dL_ballots_783 rfl rfl (fun c36 => ?_) (fun c36 => ?_)
                · have hf := oip c36 hf
                  refine r_iload 793 C 8 dL_ballots_791 rfl rfl ?_
                  refine r_iload 795 C 6 dL_ballots_793 rfl rfl ?_
                  refine r_icmp_lt 803 798 C dL_ballots_795 rfl rfl (fun c37 => ?_) (fun c37 => ?_)
                  · have hf := oip c37 hf
                    refine r_bipush (v := (-5)) 805 C dL_ballots_803 rfl (by decide) ?_
                    refine r_sub [] [] rfl ?_
                    exact t_L_ballots_J805 C hr hk0 a2 a3 a4 a5 a6 (-5) x35 g17 hf
                  · have hf := oin c37 hf
                    refine r_iload 800 C 4 dL_ballots_798 rfl rfl ?_
                    refine r_goto 805 C dL_ballots_800 rfl ?_
                    refine r_sub [] [] rfl ?_
                    exact t_L_ballots_J805 C hr hk0 a2 a3 a4 a5 a6 v10 x35 g17 hf
                · have hf := oin c36 hf
                  refine r_iload 788 C 5 dL_ballots_786 rfl rfl ?_
                  refine r_goto 805 C dL_ballots_788 rfl ?_
                  refine r_sub [] [] rfl ?_
                  exact t_L_ballots_J805 C hr hk0 a2 a3 a4 a5 a6 x14 x35 g17 hf
      · have hf := oin c20 hf
        refine r_iload 638 C 0 dL_ballots_636 rfl rfl ?_
        refine r_bipush (v := 100) 640 C dL_ballots_638 rfl (by decide) ?_
        refine r_iload 642 C 10 dL_ballots_640 rfl rfl ?_
        refine r_iadd 643 C dL_ballots_642 rfl ?_
        refine r_icmp_ne 674 646 C dL_ballots_643 rfl rfl (fun c39 => ?_) (fun c39 => ?_)
        · have hf := oin c39 hf
          refine r_iconst (v := 0) 675 C dL_ballots_674 rfl (by decide) ?_
          have hf := Option.some.inj hf
          subst hf
          exact r_zret C hr hk0 false rfl dL_ballots_675
        · have hf := oip c39 hf
          refine r_aload_n 647 C 5 dL_ballots_646 rfl rfl ?_
          refine r_iload_n 648 C 7 dL_ballots_647 rfl rfl ?_
          refine r_iload 650 C 8 dL_ballots_648 rfl rfl ?_
          refine r_iconst (v := 0) 651 C dL_ballots_650 rfl (by decide) ?_
          obtain ⟨x40, hx40, hf⟩ := ob hf
          refine r_Vi (As := [.int v3, .int v4, .int 0]) 654 C shC_0 rfl (c_X4_voted l G A v3 v4 0 g17 _ hx40) (cwV 3 C.1.2.2.2.2 gL_ballots_X4_voted rfl rfl rfl hd_X4_voted ⟨Nat.le_of_ble_eq_true rfl, Nat.le_of_ble_eq_true rfl⟩) rfl rfl (Nat.le_of_ble_eq_true rfl) dL_ballots_651 rfl ?_
          refine r_iload 656 C 3 dL_ballots_654 rfl rfl ?_
          refine r_icmp_ne 674 659 C dL_ballots_656 rfl rfl (fun c41 => ?_) (fun c41 => ?_)
          · have hf := oin c41 hf
            refine r_iconst (v := 0) 675 C dL_ballots_674 rfl (by decide) ?_
            have hf := Option.some.inj hf
            subst hf
            exact r_zret C hr hk0 false rfl dL_ballots_675
          · have hf := oip c41 hf
            refine r_aload_n 660 C 5 dL_ballots_659 rfl rfl ?_
            refine r_iload_n 661 C 6 dL_ballots_660 rfl rfl ?_
            refine r_iconst (v := 1) 662 C dL_ballots_661 rfl (by decide) ?_
            obtain ⟨x42, hx42, hf⟩ := ob hf
            refine r_Vi (As := [.int v2, .int 1]) 665 C shC_0 rfl (c_X4_proposer l G A v2 1 g17 _ hx42) (cwV 2 C.1.2.2.2.2 gL_ballots_X4_proposer rfl rfl rfl hd_X4_proposer ⟨Nat.le_of_ble_eq_true rfl, Nat.le_of_ble_eq_true rfl⟩) rfl rfl (Nat.le_of_ble_eq_true rfl) dL_ballots_662 rfl ?_
            refine r_iload 667 C 10 dL_ballots_665 rfl rfl ?_
            refine r_icmp_lt 674 670 C dL_ballots_667 rfl rfl (fun c43 => ?_) (fun c43 => ?_)
            · have hf := oip c43 hf
              refine r_iconst (v := 0) 675 C dL_ballots_674 rfl (by decide) ?_
              have hf := Option.some.inj hf
              subst hf
              exact r_zret C hr hk0 false rfl dL_ballots_675
            · have hf := oin c43 hf
              refine r_iconst (v := 1) 671 C dL_ballots_670 rfl (by decide) ?_
              refine r_goto 675 C dL_ballots_671 rfl ?_
              have hf := Option.some.inj hf
              subst hf
              exact r_zret C hr hk0 true rfl dL_ballots_675
    · have hf := oip c19 hf
      refine r_iload 618 C 0 dL_ballots_616 rfl rfl ?_
      refine r_bipush (v := (-5)) 620 C dL_ballots_618 rfl (by decide) ?_
      suffices kk45 : JJ p l e rm_L_ballots s m args below meth c 19 G shC A (MQ below (k_Qi G shC A (bI res.1) res.2) args s 0 0 A) 628 [(16, .int x16), (15, .int x15), (14, .int x14), (13, .int x13), (12, .int s0), (0, .ref (G.2.1 0)), (2, .int v2), (3, .int v3), (4, .int v4), (6, .int v6), (7, .int v7), (10, .int v10), (11, .int v11)] [.int (bI (decide (x16 = (-5))))] g17 by
        refine r_icmp_ne 627 623 C dL_ballots_620 rfl rfl (fun c44 => ?_) (fun c44 => ?_)
        · refine r_iconst (v := 0) 628 C dL_ballots_627 rfl (by decide) ?_
          rw [decide_eq_false c44] at kk45
          exact kk45
        · refine r_iconst (v := 1) 624 C dL_ballots_623 rfl (by decide) ?_
          refine r_goto 628 C dL_ballots_624 rfl ?_
          rw [decide_eq_true c44] at kk45
          exact kk45
      have hf := Option.some.inj hf
      subst hf
      exact r_zret C hr hk0 (decide (x16 = (-5))) rfl dL_ballots_628
  · have hf := oip c18 hf
    refine r_iload 598 C 0 dL_ballots_596 rfl rfl ?_
    refine r_bipush (v := (-4)) 600 C dL_ballots_598 rfl (by decide) ?_
    suffices kk47 : JJ p l e rm_L_ballots s m args below meth c 19 G shC A (MQ below (k_Qi G shC A (bI res.1) res.2) args s 0 0 A) 608 [(16, .int x16), (15, .int x15), (14, .int x14), (13, .int x13), (12, .int s0), (0, .ref (G.2.1 0)), (2, .int v2), (3, .int v3), (4, .int v4), (6, .int v6), (7, .int v7), (10, .int v10), (11, .int v11)] [.int (bI (decide (x16 = (-4))))] g17 by
      refine r_icmp_ne 607 603 C dL_ballots_600 rfl rfl (fun c46 => ?_) (fun c46 => ?_)
      · refine r_iconst (v := 0) 608 C dL_ballots_607 rfl (by decide) ?_
        rw [decide_eq_false c46] at kk47
        exact kk47
      · refine r_iconst (v := 1) 604 C dL_ballots_603 rfl (by decide) ?_
        refine r_goto 608 C dL_ballots_604 rfl ?_
        rw [decide_eq_true c46] at kk47
        exact kk47
    have hf := Option.some.inj hf
    subst hf
    exact r_zret C hr hk0 (decide (x16 = (-4))) rfl dL_ballots_608
set_option maxRecDepth 100000 in
set_option maxHeartbeats 4000000 in
theorem t_L_ballots_J550 {p : Program} {l : Launch} {e : Env} {s : State} {m : MethodId} {args : Array Value} {below : List Frame} {meth : Method} {c : Code} {G : GG} {A : Nat → Prop} (C : KX p s m args c cL_ballots 19 RL wsL_ballots G shC A) (hr : meth.sig.returnType = (some .boolean)) (hk0 : meth.locks = false) (a2 : Int32) (a3 : Int32) (a4 : Int32) (a5 : Int32) (a6 : Int32)  (v2 : Int32) (v3 : Int32) (v4 : Int32) (v6 : Int32) (v7 : Int32) (v10 : Int32) (v11 : Int32) (g : Mem) {res : Bool × Mem} (hf : f_L_ballots_J550 v2 v3 v4 v6 v7 v10 v11 g = some res) : JJ p l e rm_L_ballots s m args below meth c 19 G shC A (MQ below (k_Qi G shC A (bI res.1) res.2) args s 0 0 A) 550 [(0, .ref (G.2.1 0)), (2, .int v2), (3, .int v3), (4, .int v4), (6, .int v6), (7, .int v7), (10, .int v10), (11, .int v11)] [] g := by
  rw [f_L_ballots_J550] at hf
  refine r_iconst (v := 0) 551 C dL_ballots_550 rfl (by decide) ?_
  refine r_sub [(0, .ref (G.2.1 0)), (2, .int v2), (3, .int v3), (4, .int v4), (6, .int v6), (7, .int v7), (10, .int v10), (11, .int v11)] [0, 1, 2, 3, 4, 5, 6, 7] rfl ?_
  exact t_L_ballots_J551 C hr hk0 a2 a3 a4 a5 a6 v2 v3 v4 v6 v7 v10 v11 0 g hf
set_option maxRecDepth 100000 in
set_option maxHeartbeats 4000000 in
theorem t_L_ballots_J472 {p : Program} {l : Launch} {e : Env} {s : State} {m : MethodId} {args : Array Value} {below : List Frame} {meth : Method} {c : Code} {G : GG} {A : Nat → Prop} (C : KX p s m args c cL_ballots 19 RL wsL_ballots G shC A) (hr : meth.sig.returnType = (some .boolean)) (hk0 : meth.locks = false) (a2 : Int32) (a3 : Int32) (a4 : Int32) (a5 : Int32) (a6 : Int32)  (v2 : Int32) (v4 : Int32) (g : Mem) {res : Bool × Mem} (hf : f_L_ballots_J472 v2 v4 g = some res) : JJ p l e rm_L_ballots s m args below meth c 19 G shC A (MQ below (k_Qi G shC A (bI res.1) res.2) args s 0 0 A) 472 [(0, .ref (G.2.1 0)), (2, .int v2), (4, .int v4)] [] g := by
  rw [f_L_ballots_J472] at hf
  refine r_aload_n 473 C 0 dL_ballots_472 rfl rfl ?_
  refine r_iload_n 474 C 1 dL_ballots_473 rfl rfl ?_
  refine r_iload 476 C 2 dL_ballots_474 rfl rfl ?_
  refine r_bipush (v := 100) 478 C dL_ballots_476 rfl (by decide) ?_
  obtain ⟨x62, g63, hx62, hf⟩ := ob2 hf
  refine r_Vi (As := [.int v2, .int v4, .int 100]) 481 C shC_0 rfl (c_X4_propose l G A v2 v4 100 g _ hx62) (cwV 3 C.1.2.2.2.2 gL_ballots_X4_propose rfl rfl rfl hd_X4_propose ⟨Nat.le_of_ble_eq_true rfl, Nat.le_of_ble_eq_true rfl⟩) rfl rfl (Nat.le_of_ble_eq_true rfl) dL_ballots_478 rfl ?_
  refine r_bipush (v := (-2)) 483 C dL_ballots_481 rfl (by decide) ?_
  refine r_icmp_ne 490 486 C dL_ballots_483 rfl rfl (fun c64 => ?_) (fun c64 => ?_)
  · have hf := oin c64 hf
    refine r_iconst (v := 0) 491 C dL_ballots_490 rfl (by decide) ?_
    have hf := Option.some.inj hf
    subst hf
    exact r_zret C hr hk0 false rfl dL_ballots_491
  · have hf := oip c64 hf
    refine r_iconst (v := 1) 487 C dL_ballots_486 rfl (by decide) ?_
    refine r_goto 491 C dL_ballots_487 rfl ?_
    have hf := Option.some.inj hf
    subst hf
    exact r_zret C hr hk0 true rfl dL_ballots_491
set_option maxRecDepth 100000 in
set_option maxHeartbeats 4000000 in
theorem t_L_ballots_J451 {p : Program} {l : Launch} {e : Env} {s : State} {m : MethodId} {args : Array Value} {below : List Frame} {meth : Method} {c : Code} {G : GG} {A : Nat → Prop} (C : KX p s m args c cL_ballots 19 RL wsL_ballots G shC A) (hr : meth.sig.returnType = (some .boolean)) (hk0 : meth.locks = false) (a2 : Int32) (a3 : Int32) (a4 : Int32) (a5 : Int32) (a6 : Int32)  (v2 : Int32) (v4 : Int32) (v12 : Int32) (v13 : Int32) (s0 : Int32) (s1 : Int32) (g : Mem) {res : Bool × Mem} (hf : f_L_ballots_J451 v2 v4 v12 v13 s0 s1 g = some res) : JJ p l e rm_L_ballots s m args below meth c 19 G shC A (MQ below (k_Qi G shC A (bI res.1) res.2) args s 0 0 A) 451 [(0, .ref (G.2.1 0)), (2, .int v2), (4, .int v4), (12, .int v12), (13, .int v13)] [.int s0, .int s1] g := by
  rw [f_L_ballots_J451] at hf
  refine r_icmp_ne 490 454 C dL_ballots_451 rfl rfl (fun c60 => ?_) (fun c60 => ?_)
  · have hf := oin c60 hf
    refine r_iconst (v := 0) 491 C dL_ballots_490 rfl (by decide) ?_
    have hf := Option.some.inj hf
    subst hf
    exact r_zret C hr hk0 false rfl dL_ballots_491
  · have hf := oip c60 hf
    refine r_iload 456 C 3 dL_ballots_454 rfl rfl ?_
    refine r_if_eq 472 459 C dL_ballots_456 rfl rfl (fun c61 => ?_) (fun c61 => ?_)
    · have hf := oip c61 hf
      refine r_sub [(0, .ref (G.2.1 0)), (2, .int v2), (4, .int v4)] [0, 1, 2] rfl ?_
      exact t_L_ballots_J472 C hr hk0 a2 a3 a4 a5 a6 v2 v4 g hf
    · have hf := oin c61 hf
      refine r_aload_n 460 C 0 dL_ballots_459 rfl rfl ?_
      refine r_iload_n 461 C 1 dL_ballots_460 rfl rfl ?_
      refine r_iload 463 C 2 dL_ballots_461 rfl rfl ?_
      refine r_iconst (v := 0) 464 C dL_ballots_463 rfl (by decide) ?_
      obtain ⟨x65, hx65, hf⟩ := ob hf
      refine r_Vi (As := [.int v2, .int v4, .int 0]) 467 C shC_0 rfl (c_X4_proposed l G A v2 v4 0 g _ hx65) (cwV 3 C.1.2.2.2.2 gL_ballots_X4_proposed rfl rfl rfl hd_X4_proposed ⟨Nat.le_of_ble_eq_true rfl, Nat.le_of_ble_eq_true rfl⟩) rfl rfl (Nat.le_of_ble_eq_true rfl) dL_ballots_464 rfl ?_
      refine r_iload 469 C 4 dL_ballots_467 rfl rfl ?_
      refine r_icmp_ne 490 472 C dL_ballots_469 rfl rfl (fun c66 => ?_) (fun c66 => ?_)
      · have hf := oin c66 hf
        refine r_iconst (v := 0) 491 C dL_ballots_490 rfl (by decide) ?_
        have hf := Option.some.inj hf
        subst hf
        exact r_zret C hr hk0 false rfl dL_ballots_491
      · have hf := oip c66 hf
        refine r_sub [(0, .ref (G.2.1 0)), (2, .int v2), (4, .int v4)] [0, 1, 2] rfl ?_
        exact t_L_ballots_J472 C hr hk0 a2 a3 a4 a5 a6 v2 v4 g hf
set_option maxRecDepth 100000 in
set_option maxHeartbeats 4000000 in
theorem t_L_ballots_J414 {p : Program} {l : Launch} {e : Env} {s : State} {m : MethodId} {args : Array Value} {below : List Frame} {meth : Method} {c : Code} {G : GG} {A : Nat → Prop} (C : KX p s m args c cL_ballots 19 RL wsL_ballots G shC A) (hr : meth.sig.returnType = (some .boolean)) (hk0 : meth.locks = false) (a2 : Int32) (a3 : Int32) (a4 : Int32) (a5 : Int32) (a6 : Int32)  (v2 : Int32) (v4 : Int32) (v10 : Int32) (v11 : Int32) (s0 : Int32) (g : Mem) {res : Bool × Mem} (hf : f_L_ballots_J414 v2 v4 v10 v11 s0 g = some res) : JJ p l e rm_L_ballots s m args below meth c 19 G shC A (MQ below (k_Qi G shC A (bI res.1) res.2) args s 0 0 A) 414 [(0, .ref (G.2.1 0)), (2, .int v2), (4, .int v4), (10, .int v10), (11, .int v11)] [.int s0] g := by
  rw [f_L_ballots_J414] at hf
  refine r_istore 416 C [(12, .int s0), (0, .ref (G.2.1 0)), (2, .int v2), (4, .int v4), (10, .int v10), (11, .int v11)] dL_ballots_414 rfl rfl (by decide) rfl ?_
  refine r_aload_n 417 C 1 dL_ballots_416 rfl rfl ?_
  refine r_iload_n 418 C 2 dL_ballots_417 rfl rfl ?_
  refine r_iload 420 C 3 dL_ballots_418 rfl rfl ?_
  refine r_iload 422 C 4 dL_ballots_420 rfl rfl ?_
  obtain ⟨x57, g58, hx57, hf⟩ := ob2 hf
  refine r_Vi (As := [.int v2, .int v4, .int v10]) 425 C shC_0 rfl (c_X4_propose l G A v2 v4 v10 g _ hx57) (cwV 3 C.1.2.2.2.2 gL_ballots_X4_propose rfl rfl rfl hd_X4_propose ⟨Nat.le_of_ble_eq_true rfl, Nat.le_of_ble_eq_true rfl⟩) rfl rfl (Nat.le_of_ble_eq_true rfl) dL_ballots_422 rfl ?_
  refine r_istore 427 C [(13, .int x57), (12, .int s0), (0, .ref (G.2.1 0)), (2, .int v2), (4, .int v4), (10, .int v10), (11, .int v11)] dL_ballots_425 rfl rfl (by decide) rfl ?_
  refine r_iload 429 C 0 dL_ballots_427 rfl rfl ?_
  refine r_iload 431 C 1 dL_ballots_429 rfl rfl ?_
  refine r_if_eq 449 434 C dL_ballots_431 rfl rfl (fun c59 => ?_) (fun c59 => ?_)
  · have hf := oip c59 hf
    refine r_bipush (v := (-4)) 451 C dL_ballots_449 rfl (by decide) ?_
    refine r_sub [(0, .ref (G.2.1 0)), (2, .int v2), (4, .int v4), (12, .int s0), (13, .int x57)] [2, 3, 4, 1, 0] rfl ?_
    exact t_L_ballots_J451 C hr hk0 a2 a3 a4 a5 a6 v2 v4 s0 x57 (-4) x57 g58 hf
  · have hf := oin c59 hf
    refine r_iload 436 C 6 dL_ballots_434 rfl rfl ?_
    refine r_if_le 444 439 C dL_ballots_436 rfl rfl (fun c67 => ?_) (fun c67 => ?_)
    · have hf := oip c67 hf
      refine r_iload 446 C 5 dL_ballots_444 rfl rfl ?_
      refine r_goto 451 C dL_ballots_446 rfl ?_
      refine r_sub [(0, .ref (G.2.1 0)), (2, .int v2), (4, .int v4), (12, .int s0), (13, .int x57)] [2, 3, 4, 1, 0] rfl ?_
      exact t_L_ballots_J451 C hr hk0 a2 a3 a4 a5 a6 v2 v4 s0 x57 v10 x57 g58 hf
    · have hf := oin c67 hf
      refine r_iload 441 C 6 dL_ballots_439 rfl rfl ?_
      refine r_goto 451 C dL_ballots_441 rfl ?_
      refine r_sub [(0, .ref (G.2.1 0)), (2, .int v2), (4, .int v4), (12, .int s0), (13, .int x57)] [2, 3, 4, 1, 0] rfl ?_
      exact t_L_ballots_J451 C hr hk0 a2 a3 a4 a5 a6 v2 v4 s0 x57 v11 x57 g58 hf
set_option maxRecDepth 100000 in
set_option maxHeartbeats 4000000 in
theorem t_L_ballots_J413 {p : Program} {l : Launch} {e : Env} {s : State} {m : MethodId} {args : Array Value} {below : List Frame} {meth : Method} {c : Code} {G : GG} {A : Nat → Prop} (C : KX p s m args c cL_ballots 19 RL wsL_ballots G shC A) (hr : meth.sig.returnType = (some .boolean)) (hk0 : meth.locks = false) (a2 : Int32) (a3 : Int32) (a4 : Int32) (a5 : Int32) (a6 : Int32)  (v2 : Int32) (v4 : Int32) (v10 : Int32) (v11 : Int32) (g : Mem) {res : Bool × Mem} (hf : f_L_ballots_J413 v2 v4 v10 v11 g = some res) : JJ p l e rm_L_ballots s m args below meth c 19 G shC A (MQ below (k_Qi G shC A (bI res.1) res.2) args s 0 0 A) 413 [(0, .ref (G.2.1 0)), (2, .int v2), (4, .int v4), (10, .int v10), (11, .int v11)] [] g := by
  rw [f_L_ballots_J413] at hf
  refine r_iconst (v := 0) 414 C dL_ballots_413 rfl (by decide) ?_
  refine r_sub [(0, .ref (G.2.1 0)), (2, .int v2), (4, .int v4), (10, .int v10), (11, .int v11)] [0, 1, 2, 3, 4] rfl ?_
  exact t_L_ballots_J414 C hr hk0 a2 a3 a4 a5 a6 v2 v4 v10 v11 0 g hf
set_option maxRecDepth 100000 in
set_option maxHeartbeats 4000000 in
theorem t_L_ballots_J355 {p : Program} {l : Launch} {e : Env} {s : State} {m : MethodId} {args : Array Value} {below : List Frame} {meth : Method} {c : Code} {G : GG} {A : Nat → Prop} (C : KX p s m args c cL_ballots 19 RL wsL_ballots G shC A) (hr : meth.sig.returnType = (some .boolean)) (hk0 : meth.locks = false) (a2 : Int32) (a3 : Int32) (a4 : Int32) (a5 : Int32) (a6 : Int32)  (v2 : Int32) (v4 : Int32) (v6 : Int32) (s0 : Int32) (g : Mem) {res : Bool × Mem} (hf : f_L_ballots_J355 v2 v4 v6 s0 g = some res) : JJ p l e rm_L_ballots s m args below meth c 19 G shC A (MQ below (k_Qi G shC A (bI res.1) res.2) args s 0 0 A) 355 [(0, .ref (G.2.1 0)), (2, .int v2), (4, .int v4), (6, .int v6)] [.int s0] g := by
  rw [f_L_ballots_J355] at hf
  refine r_istore 357 C [(10, .int s0), (0, .ref (G.2.1 0)), (2, .int v2), (4, .int v4), (6, .int v6)] dL_ballots_355 rfl rfl (by decide) rfl ?_
  refine r_aload_n 358 C 1 dL_ballots_357 rfl rfl ?_
  refine r_iload_n 359 C 2 dL_ballots_358 rfl rfl ?_
  refine r_iload 361 C 3 dL_ballots_359 rfl rfl ?_
  refine r_iconst (v := 1) 362 C dL_ballots_361 rfl (by decide) ?_
  obtain ⟨x55, hx55, hf⟩ := ob hf
  refine r_Vi (As := [.int v2, .int v4, .int 1]) 365 C shC_0 rfl (c_X4_proposed l G A v2 v4 1 g _ hx55) (cwV 3 C.1.2.2.2.2 gL_ballots_X4_proposed rfl rfl rfl hd_X4_proposed ⟨Nat.le_of_ble_eq_true rfl, Nat.le_of_ble_eq_true rfl⟩) rfl rfl (Nat.le_of_ble_eq_true rfl) dL_ballots_362 rfl ?_
  refine r_istore 367 C [(11, .int x55), (10, .int s0), (0, .ref (G.2.1 0)), (2, .int v2), (4, .int v4), (6, .int v6)] dL_ballots_365 rfl rfl (by decide) rfl ?_
  refine r_iload 369 C 5 dL_ballots_367 rfl rfl ?_
  refine r_if_le 413 372 C dL_ballots_369 rfl rfl (fun c56 => ?_) (fun c56 => ?_)
  · have hf := oip c56 hf
    refine r_sub [(0, .ref (G.2.1 0)), (2, .int v2), (4, .int v4), (10, .int s0), (11, .int x55)] [2, 3, 4, 1, 0] rfl ?_
    exact t_L_ballots_J413 C hr hk0 a2 a3 a4 a5 a6 v2 v4 s0 x55 g hf
  · have hf := oin c56 hf
    refine r_iload 374 C 4 dL_ballots_372 rfl rfl ?_
    refine r_aload_n 375 C 2 dL_ballots_374 rfl rfl ?_
    refine r_iconst (v := 2) 376 C dL_ballots_375 rfl (by decide) ?_
    obtain ⟨x68, hx68, hf⟩ := ob hf
    refine r_Vi (As := [.int 2]) 379 C shC_0 rfl (c_X4_count l G A 2 g _ hx68) (cwV 1 C.1.2.2.2.2 gL_ballots_X4_count rfl rfl rfl hd_X4_count ⟨Nat.le_of_ble_eq_true rfl, Nat.le_of_ble_eq_true rfl⟩) rfl rfl (Nat.le_of_ble_eq_true rfl) dL_ballots_376 rfl ?_
    refine r_icmp_le 413 382 C dL_ballots_379 rfl rfl (fun c69 => ?_) (fun c69 => ?_)
    · have hf := oip c69 hf
      refine r_sub [(0, .ref (G.2.1 0)), (2, .int v2), (4, .int v4), (10, .int s0), (11, .int x55)] [2, 3, 4, 1, 0] rfl ?_
      exact t_L_ballots_J413 C hr hk0 a2 a3 a4 a5 a6 v2 v4 s0 x55 g hf
    · have hf := oin c69 hf
      refine r_iload 384 C 0 dL_ballots_382 rfl rfl ?_
      refine r_if_lt 413 387 C dL_ballots_384 rfl rfl (fun c70 => ?_) (fun c70 => ?_)
      · have hf := oip c70 hf
        refine r_sub [(0, .ref (G.2.1 0)), (2, .int v2), (4, .int v4), (10, .int s0), (11, .int x55)] [2, 3, 4, 1, 0] rfl ?_
        exact t_L_ballots_J413 C hr hk0 a2 a3 a4 a5 a6 v2 v4 s0 x55 g hf
      · have hf := oin c70 hf
        refine r_aload_n 388 C 2 dL_ballots_387 rfl rfl ?_
        refine r_iload_n 389 C 3 dL_ballots_388 rfl rfl ?_
        refine r_iload 391 C 4 dL_ballots_389 rfl rfl ?_
        refine r_iconst (v := 2) 392 C dL_ballots_391 rfl (by decide) ?_
        obtain ⟨x71, hx71, hf⟩ := ob hf
        refine r_Vi (As := [.int v2, .int v4, .int 2]) 395 C shC_0 rfl (c_X4_proposed l G A v2 v4 2 g _ hx71) (cwV 3 C.1.2.2.2.2 gL_ballots_X4_proposed rfl rfl rfl hd_X4_proposed ⟨Nat.le_of_ble_eq_true rfl, Nat.le_of_ble_eq_true rfl⟩) rfl rfl (Nat.le_of_ble_eq_true rfl) dL_ballots_392 rfl ?_
        refine r_if_ne 413 398 C dL_ballots_395 rfl rfl (fun c72 => ?_) (fun c72 => ?_)
        · have hf := oin c72 hf
          refine r_sub [(0, .ref (G.2.1 0)), (2, .int v2), (4, .int v4), (10, .int s0), (11, .int x55)] [2, 3, 4, 1, 0] rfl ?_
          exact t_L_ballots_J413 C hr hk0 a2 a3 a4 a5 a6 v2 v4 s0 x55 g hf
        · have hf := oip c72 hf
          refine r_aload_n 399 C 2 dL_ballots_398 rfl rfl ?_
          refine r_iload_n 400 C 3 dL_ballots_399 rfl rfl ?_
          refine r_iload 402 C 4 dL_ballots_400 rfl rfl ?_
          refine r_iconst (v := 0) 403 C dL_ballots_402 rfl (by decide) ?_
          obtain ⟨x73, hx73, hf⟩ := ob hf
          refine r_Vi (As := [.int v2, .int v4, .int 0]) 406 C shC_0 rfl (c_X4_proposed l G A v2 v4 0 g _ hx73) (cwV 3 C.1.2.2.2.2 gL_ballots_X4_proposed rfl rfl rfl hd_X4_proposed ⟨Nat.le_of_ble_eq_true rfl, Nat.le_of_ble_eq_true rfl⟩) rfl rfl (Nat.le_of_ble_eq_true rfl) dL_ballots_403 rfl ?_
          refine r_if_ge 413 409 C dL_ballots_406 rfl rfl (fun c74 => ?_) (fun c74 => ?_)
          · have hf := oip c74 hf
            refine r_sub [(0, .ref (G.2.1 0)), (2, .int v2), (4, .int v4), (10, .int s0), (11, .int x55)] [2, 3, 4, 1, 0] rfl ?_
            exact t_L_ballots_J413 C hr hk0 a2 a3 a4 a5 a6 v2 v4 s0 x55 g hf
          · have hf := oin c74 hf
            refine r_iconst (v := 1) 410 C dL_ballots_409 rfl (by decide) ?_
            refine r_goto 414 C dL_ballots_410 rfl ?_
            refine r_sub [(0, .ref (G.2.1 0)), (2, .int v2), (4, .int v4), (10, .int s0), (11, .int x55)] [2, 3, 4, 1, 0] rfl ?_
            exact t_L_ballots_J414 C hr hk0 a2 a3 a4 a5 a6 v2 v4 s0 x55 1 g hf
set_option maxRecDepth 100000 in
set_option maxHeartbeats 4000000 in
theorem t_L_ballots_J180 {p : Program} {l : Launch} {e : Env} {s : State} {m : MethodId} {args : Array Value} {below : List Frame} {meth : Method} {c : Code} {G : GG} {A : Nat → Prop} (C : KX p s m args c cL_ballots 19 RL wsL_ballots G shC A) (hr : meth.sig.returnType = (some .boolean)) (hk0 : meth.locks = false) (a2 : Int32) (a3 : Int32) (a4 : Int32) (a5 : Int32) (a6 : Int32)  (v12 : Int32) (g : Mem) {res : Bool × Mem} (hf : f_L_ballots_J180 v12 g = some res) : JJ p l e rm_L_ballots s m args below meth c 19 G shC A (MQ below (k_Qi G shC A (bI res.1) res.2) args s 0 0 A) 180 [(12, .int v12)] [] g := by
  rw [f_L_ballots_J180] at hf
  refine r_iload 182 C 0 dL_ballots_180 rfl rfl ?_
  refine r_bipush (v := (-4)) 184 C dL_ballots_182 rfl (by decide) ?_
  suffices kk82 : JJ p l e rm_L_ballots s m args below meth c 19 G shC A (MQ below (k_Qi G shC A (bI res.1) res.2) args s 0 0 A) 192 [(12, .int v12)] [.int (bI (decide (v12 = (-4))))] g by
    refine r_icmp_ne 191 187 C dL_ballots_184 rfl rfl (fun c81 => ?_) (fun c81 => ?_)
    · refine r_iconst (v := 0) 192 C dL_ballots_191 rfl (by decide) ?_
      rw [decide_eq_false c81] at kk82
      exact kk82
    · refine r_iconst (v := 1) 188 C dL_ballots_187 rfl (by decide) ?_
      refine r_goto 192 C dL_ballots_188 rfl ?_
      rw [decide_eq_true c81] at kk82
      exact kk82
  have hf := Option.some.inj hf
  subst hf
  exact r_zret C hr hk0 (decide (v12 = (-4))) rfl dL_ballots_192
set_option maxRecDepth 100000 in
set_option maxHeartbeats 4000000 in
theorem t_L_ballots_J117 {p : Program} {l : Launch} {e : Env} {s : State} {m : MethodId} {args : Array Value} {below : List Frame} {meth : Method} {c : Code} {G : GG} {A : Nat → Prop} (C : KX p s m args c cL_ballots 19 RL wsL_ballots G shC A) (hr : meth.sig.returnType = (some .boolean)) (hk0 : meth.locks = false) (a2 : Int32) (a3 : Int32) (a4 : Int32) (a5 : Int32) (a6 : Int32)  (v2 : Int32) (g : Mem) {res : Bool × Mem} (hf : f_L_ballots_J117 v2 g = some res) : JJ p l e rm_L_ballots s m args below meth c 19 G shC A (MQ below (k_Qi G shC A (bI res.1) res.2) args s 0 0 A) 117 [(0, .ref (G.2.1 0)), (2, .int v2)] [] g := by
  rw [f_L_ballots_J117] at hf
  refine r_aload_n 118 C 0 dL_ballots_117 rfl rfl ?_
  refine r_iload_n 119 C 1 dL_ballots_118 rfl rfl ?_
  refine r_iconst (v := 2) 120 C dL_ballots_119 rfl (by decide) ?_
  obtain ⟨x108, hx108, hf⟩ := ob hf
  refine r_Vi (As := [.int v2, .int 2]) 123 C shC_0 rfl (c_X4_proposer l G A v2 2 g _ hx108) (cwV 2 C.1.2.2.2.2 gL_ballots_X4_proposer rfl rfl rfl hd_X4_proposer ⟨Nat.le_of_ble_eq_true rfl, Nat.le_of_ble_eq_true rfl⟩) rfl rfl (Nat.le_of_ble_eq_true rfl) dL_ballots_120 rfl ?_
  refine r_if_ne 139 126 C dL_ballots_123 rfl rfl (fun c109 => ?_) (fun c109 => ?_)
  · have hf := oin c109 hf
    refine r_iconst (v := 0) 140 C dL_ballots_139 rfl (by decide) ?_
    have hf := Option.some.inj hf
    subst hf
    exact r_zret C hr hk0 false rfl dL_ballots_140
  · have hf := oip c109 hf
    refine r_aload_n 127 C 0 dL_ballots_126 rfl rfl ?_
    refine r_iload_n 128 C 1 dL_ballots_127 rfl rfl ?_
    refine r_iconst (v := 3) 129 C dL_ballots_128 rfl (by decide) ?_
    obtain ⟨x110, hx110, hf⟩ := ob hf
    refine r_Vi (As := [.int v2, .int 3]) 132 C shC_0 rfl (c_X4_proposer l G A v2 3 g _ hx110) (cwV 2 C.1.2.2.2.2 gL_ballots_X4_proposer rfl rfl rfl hd_X4_proposer ⟨Nat.le_of_ble_eq_true rfl, Nat.le_of_ble_eq_true rfl⟩) rfl rfl (Nat.le_of_ble_eq_true rfl) dL_ballots_129 rfl ?_
    refine r_if_ne 139 135 C dL_ballots_132 rfl rfl (fun c111 => ?_) (fun c111 => ?_)
    · have hf := oin c111 hf
      refine r_iconst (v := 0) 140 C dL_ballots_139 rfl (by decide) ?_
      have hf := Option.some.inj hf
      subst hf
      exact r_zret C hr hk0 false rfl dL_ballots_140
    · have hf := oip c111 hf
      refine r_iconst (v := 1) 136 C dL_ballots_135 rfl (by decide) ?_
      refine r_goto 140 C dL_ballots_136 rfl ?_
      have hf := Option.some.inj hf
      subst hf
      exact r_zret C hr hk0 true rfl dL_ballots_140
set_option maxRecDepth 100000 in
set_option maxHeartbeats 4000000 in
theorem c_L_ballots (l : Launch) (G : GG) (A : Nat → Prop) (a2 : Int32) (a3 : Int32) (a4 : Int32) (a5 : Int32) (a6 : Int32)  (g : Mem) (res : Bool × Mem) (hf : f_L_ballots a2 a3 a4 a5 a6 g = some res) : k_Mi l yL_ballots wsL_ballots rm_L_ballots G shC A [.ref (G.2.1 0), .int a2, .int a3, .int a4, .int a5, .int a6] g (bI res.1) res.2 := by
  refine k_ofi (cc := cL_ballots) (nL := 19) (own := RL) (by decide +kernel) rfl rfl (by simp [lg_sl, Value.category]) ⟨rfl, rfl⟩ [(0, .ref (G.2.1 0)), (1, .int a2), (2, .int a3), (3, .int a4), (4, .int a5), (5, .int a6)] rfl ?_
  intro p e s m args below meth c C hr hk0
  rw [f_L_ballots] at hf
  refine r_aload_n 1 C 0 dL_ballots_0 rfl rfl ?_
  refine r_iload_n 2 C 2 dL_ballots_1 rfl rfl ?_
  refine r_iconst (v := 0) 3 C dL_ballots_2 rfl (by decide) ?_
  obtain ⟨x1, hx1, hf⟩ := ob hf
  refine r_Vi (As := [.int a3, .int 0]) 6 C shC_0 rfl (c_X4_proposer l G A a3 0 g _ hx1) (cwV 2 C.1.2.2.2.2 gL_ballots_X4_proposer rfl rfl rfl hd_X4_proposer ⟨Nat.le_of_ble_eq_true rfl, Nat.le_of_ble_eq_true rfl⟩) rfl rfl (Nat.le_of_ble_eq_true rfl) dL_ballots_3 rfl ?_
  refine r_istore 8 C [(6, .int x1), (0, .ref (G.2.1 0)), (1, .int a2), (2, .int a3), (3, .int a4), (4, .int a5), (5, .int a6)] dL_ballots_6 rfl rfl (by decide) rfl ?_
  refine r_aload_n 9 C 1 dL_ballots_8 rfl rfl ?_
  refine r_iload_n 10 C 4 dL_ballots_9 rfl rfl ?_
  refine r_iconst (v := 1) 11 C dL_ballots_10 rfl (by decide) ?_
  obtain ⟨x2, hx2, hf⟩ := ob hf
  refine r_Vi (As := [.int a4, .int 1]) 14 C shC_0 rfl (c_X4_acceptor l G A a4 1 g _ hx2) (cwV 2 C.1.2.2.2.2 gL_ballots_X4_acceptor rfl rfl rfl hd_X4_acceptor ⟨Nat.le_of_ble_eq_true rfl, Nat.le_of_ble_eq_true rfl⟩) rfl rfl (Nat.le_of_ble_eq_true rfl) dL_ballots_11 rfl ?_
  refine r_istore 16 C [(7, .int x2), (6, .int x1), (0, .ref (G.2.1 0)), (1, .int a2), (2, .int a3), (3, .int a4), (4, .int a5), (5, .int a6)] dL_ballots_14 rfl rfl (by decide) rfl ?_
  refine r_aload_n 17 C 2 dL_ballots_16 rfl rfl ?_
  refine r_iload_n 18 C 4 dL_ballots_17 rfl rfl ?_
  refine r_iconst (v := 2) 19 C dL_ballots_18 rfl (by decide) ?_
  obtain ⟨x3, hx3, hf⟩ := ob hf
  refine r_Vi (As := [.int a3, .int 2]) 22 C shC_0 rfl (c_X4_proposer l G A a3 2 g _ hx3) (cwV 2 C.1.2.2.2.2 gL_ballots_X4_proposer rfl rfl rfl hd_X4_proposer ⟨Nat.le_of_ble_eq_true rfl, Nat.le_of_ble_eq_true rfl⟩) rfl rfl (Nat.le_of_ble_eq_true rfl) dL_ballots_19 rfl ?_
  refine r_istore 24 C [(8, .int x3), (7, .int x2), (6, .int x1), (0, .ref (G.2.1 0)), (1, .int a2), (2, .int a3), (3, .int a4), (4, .int a5), (5, .int a6)] dL_ballots_22 rfl rfl (by decide) rfl ?_
  refine r_aload_n 25 C 3 dL_ballots_24 rfl rfl ?_
  refine r_iload_n 26 C 6 dL_ballots_25 rfl rfl ?_
  refine r_iconst (v := 0) 27 C dL_ballots_26 rfl (by decide) ?_
  obtain ⟨x4, hx4, hf⟩ := ob hf
  refine r_Vi (As := [.int a4, .int 0]) 30 C shC_0 rfl (c_X4_acceptor l G A a4 0 g _ hx4) (cwV 2 C.1.2.2.2.2 gL_ballots_X4_acceptor rfl rfl rfl hd_X4_acceptor ⟨Nat.le_of_ble_eq_true rfl, Nat.le_of_ble_eq_true rfl⟩) rfl rfl (Nat.le_of_ble_eq_true rfl) dL_ballots_27 rfl ?_
  refine r_iconst (v := 1) 31 C dL_ballots_30 rfl (by decide) ?_
  suffices kk6 : JJ p l e rm_L_ballots s m args below meth c 19 G shC A (MQ below (k_Qi G shC A (bI res.1) res.2) args s 0 0 A) 39 [(8, .int x3), (7, .int x2), (6, .int x1), (0, .ref (G.2.1 0)), (1, .int a2), (2, .int a3), (3, .int a4), (4, .int a5), (5, .int a6)] [.int (bI (decide (x4 = 1)))] g by
    refine r_icmp_ne 38 34 C dL_ballots_31 rfl rfl (fun c5 => ?_) (fun c5 => ?_)
    · refine r_iconst (v := 0) 39 C dL_ballots_38 rfl (by decide) ?_
      rw [decide_eq_false c5] at kk6
      exact kk6
    · refine r_iconst (v := 1) 35 C dL_ballots_34 rfl (by decide) ?_
      refine r_goto 39 C dL_ballots_35 rfl ?_
      rw [decide_eq_true c5] at kk6
      exact kk6
  refine r_istore 41 C [(9, .int (bI (decide (x4 = 1)))), (8, .int x3), (7, .int x2), (6, .int x1), (0, .ref (G.2.1 0)), (1, .int a2), (2, .int a3), (3, .int a4), (4, .int a5), (5, .int a6)] dL_ballots_39 rfl rfl (by decide) rfl ?_
  refine r_iload_n 42 C 5 dL_ballots_41 rfl rfl ?_
  refine r_if_ne 141 45 C dL_ballots_42 rfl rfl (fun c7 => ?_) (fun c7 => ?_)
  · have hf := oin c7 hf
    refine r_iload_n 142 C 5 dL_ballots_141 rfl rfl ?_
    refine r_iconst (v := 4) 143 C dL_ballots_142 rfl (by decide) ?_
    refine r_icmp_ge 315 146 C dL_ballots_143 rfl rfl (fun c8 => ?_) (fun c8 => ?_)
    · have hf := oip c8 hf
      refine r_iload_n 316 C 5 dL_ballots_315 rfl rfl ?_
      refine r_bipush (v := 6) 318 C dL_ballots_316 rfl (by decide) ?_
      refine r_icmp_ge 492 321 C dL_ballots_318 rfl rfl (fun c9 => ?_) (fun c9 => ?_)
      · have hf := oip c9 hf
        refine r_aload_n 493 C 4 dL_ballots_492 rfl rfl ?_
        refine r_iload_n 494 C 6 dL_ballots_493 rfl rfl ?_
        refine r_iload 496 C 8 dL_ballots_494 rfl rfl ?_
        refine r_iconst (v := 0) 497 C dL_ballots_496 rfl (by decide) ?_
        obtain ⟨x10, hx10, hf⟩ := ob hf
        refine r_Vi (As := [.int a3, .int a5, .int 0]) 500 C shC_0 rfl (c_X4_proposed l G A a3 a5 0 g _ hx10) (cwV 3 C.1.2.2.2.2 gL_ballots_X4_proposed rfl rfl rfl hd_X4_proposed ⟨Nat.le_of_ble_eq_true rfl, Nat.le_of_ble_eq_true rfl⟩) rfl rfl (Nat.le_of_ble_eq_true rfl) dL_ballots_497 rfl ?_
        refine r_istore 502 C [(10, .int x10), (9, .int (bI (decide (x4 = 1)))), (8, .int x3), (7, .int x2), (6, .int x1), (0, .ref (G.2.1 0)), (1, .int a2), (2, .int a3), (3, .int a4), (4, .int a5), (5, .int a6)] dL_ballots_500 rfl rfl (by decide) rfl ?_
        refine r_aload_n 503 C 5 dL_ballots_502 rfl rfl ?_
        refine r_iload 505 C 9 dL_ballots_503 rfl rfl ?_
        refine r_iconst (v := 2) 506 C dL_ballots_505 rfl (by decide) ?_
        obtain ⟨x11, hx11, hf⟩ := ob hf
        refine r_Vi (As := [.int a5, .int 2]) 509 C shC_0 rfl (c_X4_slot l G A a5 2 g _ hx11) (cwV 2 C.1.2.2.2.2 gL_ballots_X4_slot rfl rfl rfl hd_X4_slot ⟨Nat.le_of_ble_eq_true rfl, Nat.le_of_ble_eq_true rfl⟩) rfl rfl (Nat.le_of_ble_eq_true rfl) dL_ballots_506 rfl ?_
        refine r_istore 511 C [(11, .int x11), (10, .int x10), (9, .int (bI (decide (x4 = 1)))), (8, .int x3), (7, .int x2), (6, .int x1), (0, .ref (G.2.1 0)), (1, .int a2), (2, .int a3), (3, .int a4), (4, .int a5), (5, .int a6)] dL_ballots_509 rfl rfl (by decide) rfl ?_
        refine r_iload 513 C 1 dL_ballots_511 rfl rfl ?_
        refine r_if_le 550 516 C dL_ballots_513 rfl rfl (fun c12 => ?_) (fun c12 => ?_)
        · have hf := oip c12 hf
          refine r_sub [(0, .ref (G.2.1 0)), (2, .int a3), (3, .int a4), (4, .int a5), (6, .int x1), (7, .int x2), (10, .int x10), (11, .int x11)] [6, 8, 9, 10, 5, 4, 1, 0] rfl ?_
          exact t_L_ballots_J550 C hr hk0 a2 a3 a4 a5 a6 a3 a4 a5 x1 x2 x10 x11 g hf
        · have hf := oin c12 hf
          refine r_iload 518 C 10 dL_ballots_516 rfl rfl ?_
          refine r_aload_n 519 C 6 dL_ballots_518 rfl rfl ?_
          refine r_iconst (v := 2) 520 C dL_ballots_519 rfl (by decide) ?_
          obtain ⟨x48, hx48, hf⟩ := ob hf
          refine r_Vi (As := [.int 2]) 523 C shC_0 rfl (c_X4_count l G A 2 g _ hx48) (cwV 1 C.1.2.2.2.2 gL_ballots_X4_count rfl rfl rfl hd_X4_count ⟨Nat.le_of_ble_eq_true rfl, Nat.le_of_ble_eq_true rfl⟩) rfl rfl (Nat.le_of_ble_eq_true rfl) dL_ballots_520 rfl ?_
          refine r_icmp_le 550 526 C dL_ballots_523 rfl rfl (fun c49 => ?_) (fun c49 => ?_)
          · have hf := oip c49 hf
            refine r_sub [(0, .ref (G.2.1 0)), (2, .int a3), (3, .int a4), (4, .int a5), (6, .int x1), (7, .int x2), (10, .int x10), (11, .int x11)] [6, 8, 9, 10, 5, 4, 1, 0] rfl ?_
            exact t_L_ballots_J550 C hr hk0 a2 a3 a4 a5 a6 a3 a4 a5 x1 x2 x10 x11 g hf
          · have hf := oin c49 hf
            refine r_iload 528 C 2 dL_ballots_526 rfl rfl ?_
            refine r_if_eq 550 531 C dL_ballots_528 rfl rfl (fun c50 => ?_) (fun c50 => ?_)
            · have hf := obf c50 hf
              refine r_sub [(0, .ref (G.2.1 0)), (2, .int a3), (3, .int a4), (4, .int a5), (6, .int x1), (7, .int x2), (10, .int x10), (11, .int x11)] [6, 8, 9, 10, 5, 4, 1, 0] rfl ?_
              exact t_L_ballots_J550 C hr hk0 a2 a3 a4 a5 a6 a3 a4 a5 x1 x2 x10 x11 g hf
            · have hf := obt c50 hf
              refine r_iload 533 C 0 dL_ballots_531 rfl rfl ?_
              refine r_if_le 550 536 C dL_ballots_533 rfl rfl (fun c51 => ?_) (fun c51 => ?_)
              · have hf := oip c51 hf
                refine r_sub [(0, .ref (G.2.1 0)), (2, .int a3), (3, .int a4), (4, .int a5), (6, .int x1), (7, .int x2), (10, .int x10), (11, .int x11)] [6, 8, 9, 10, 5, 4, 1, 0] rfl ?_
                exact t_L_ballots_J550 C hr hk0 a2 a3 a4 a5 a6 a3 a4 a5 x1 x2 x10 x11 g hf
              · have hf := oin c51 hf
                refine r_iload 538 C 0 dL_ballots_536 rfl rfl ?_
                refine r_iload_n 539 C 9 dL_ballots_538 rfl rfl ?_
                refine r_ishr 540 C dL_ballots_539 rfl ?_
                refine r_iconst (v := 1) 541 C dL_ballots_540 rfl (by decide) ?_
                refine r_iand 542 C dL_ballots_541 rfl ?_
                refine r_iconst (v := 1) 543 C dL_ballots_542 rfl (by decide) ?_
                refine r_icmp_ne 550 546 C dL_ballots_543 rfl rfl (fun c52 => ?_) (fun c52 => ?_)
                · have hf := oin c52 hf
                  refine r_sub [(0, .ref (G.2.1 0)), (2, .int a3), (3, .int a4), (4, .int a5), (6, .int x1), (7, .int x2), (10, .int x10), (11, .int x11)] [6, 8, 9, 10, 5, 4, 1, 0] rfl ?_
                  exact t_L_ballots_J550 C hr hk0 a2 a3 a4 a5 a6 a3 a4 a5 x1 x2 x10 x11 g hf
                · have hf := oip c52 hf
                  refine r_iconst (v := 1) 547 C dL_ballots_546 rfl (by decide) ?_
                  refine r_goto 551 C dL_ballots_547 rfl ?_
                  refine r_sub [(0, .ref (G.2.1 0)), (2, .int a3), (3, .int a4), (4, .int a5), (6, .int x1), (7, .int x2), (10, .int x10), (11, .int x11)] [6, 8, 9, 10, 5, 4, 1, 0] rfl ?_
                  exact t_L_ballots_J551 C hr hk0 a2 a3 a4 a5 a6 a3 a4 a5 x1 x2 x10 x11 1 g hf
      · have hf := oin c9 hf
        refine r_iload 323 C 9 dL_ballots_321 rfl rfl ?_
        refine r_bipush (v := 7) 325 C dL_ballots_323 rfl (by decide) ?_
        refine r_iand 326 C dL_ballots_325 rfl ?_
        refine r_if_ne 344 329 C dL_ballots_326 rfl rfl (fun c53 => ?_) (fun c53 => ?_)
        · have hf := oin c53 hf
          refine r_iconst (v := 1) 345 C dL_ballots_344 rfl (by decide) ?_
          refine r_iload 347 C 9 dL_ballots_345 rfl rfl ?_
          refine r_iconst (v := 3) 348 C dL_ballots_347 rfl (by decide) ?_
          refine r_ishr 349 C dL_ballots_348 rfl ?_
          refine r_bipush (v := 99) 351 C dL_ballots_349 rfl (by decide) ?_
          obtain ⟨x54, hx54, hf⟩ := ob hf
          refine r_Si (As := [.int (a6 >>> (3 &&& 31)), .int 99]) 354 C (c_L_low l G A (a6 >>> (3 &&& 31)) 99 g _ hx54) (va_cwS 2 C.1.2.2.2.2 gL_ballots_L_low rfl rfl rfl hd_L_low ⟨Nat.le_of_ble_eq_true rfl, Nat.le_of_ble_eq_true rfl⟩) rfl rfl (Nat.le_of_ble_eq_true rfl) dL_ballots_351 rfl ?_
          refine r_iadd 355 C dL_ballots_354 rfl ?_
          refine r_sub [(0, .ref (G.2.1 0)), (2, .int a3), (4, .int a5), (6, .int x1)] [4, 6, 8, 3] rfl ?_
          exact t_L_ballots_J355 C hr hk0 a2 a3 a4 a5 a6 a3 a5 x1 (1 + x54) g hf
        · have hf := oip c53 hf
          refine r_bipush (v := 101) 331 C dL_ballots_329 rfl (by decide) ?_
          refine r_iload 333 C 9 dL_ballots_331 rfl rfl ?_
          refine r_iconst (v := 3) 334 C dL_ballots_333 rfl (by decide) ?_
          refine r_ishr 335 C dL_ballots_334 rfl ?_
          refine r_bipush (v := 63) 337 C dL_ballots_335 rfl (by decide) ?_
          obtain ⟨x75, hx75, hf⟩ := ob hf
          refine r_Si (As := [.int (a6 >>> (3 &&& 31)), .int 63]) 340 C (c_L_low l G A (a6 >>> (3 &&& 31)) 63 g _ hx75) (va_cwS 2 C.1.2.2.2.2 gL_ballots_L_low rfl rfl rfl hd_L_low ⟨Nat.le_of_ble_eq_true rfl, Nat.le_of_ble_eq_true rfl⟩) rfl rfl (Nat.le_of_ble_eq_true rfl) dL_ballots_337 rfl ?_
          refine r_iadd 341 C dL_ballots_340 rfl ?_
          refine r_goto 355 C dL_ballots_341 rfl ?_
          refine r_sub [(0, .ref (G.2.1 0)), (2, .int a3), (4, .int a5), (6, .int x1)] [4, 6, 8, 3] rfl ?_
          exact t_L_ballots_J355 C hr hk0 a2 a3 a4 a5 a6 a3 a5 x1 (101 + x75) g hf
    · have hf := oin c8 hf
      refine r_aload_n 147 C 4 dL_ballots_146 rfl rfl ?_
      refine r_iload_n 148 C 7 dL_ballots_147 rfl rfl ?_
      refine r_iconst (v := 2) 149 C dL_ballots_148 rfl (by decide) ?_
      obtain ⟨x76, hx76, hf⟩ := ob hf
      refine r_Vi (As := [.int a4, .int 2]) 152 C shC_0 rfl (c_X4_acceptor l G A a4 2 g _ hx76) (cwV 2 C.1.2.2.2.2 gL_ballots_X4_acceptor rfl rfl rfl hd_X4_acceptor ⟨Nat.le_of_ble_eq_true rfl, Nat.le_of_ble_eq_true rfl⟩) rfl rfl (Nat.le_of_ble_eq_true rfl) dL_ballots_149 rfl ?_
      refine r_istore 154 C [(10, .int x76), (9, .int (bI (decide (x4 = 1)))), (8, .int x3), (7, .int x2), (6, .int x1), (0, .ref (G.2.1 0)), (1, .int a2), (2, .int a3), (3, .int a4), (4, .int a5), (5, .int a6)] dL_ballots_152 rfl rfl (by decide) rfl ?_
      refine r_aload_n 155 C 5 dL_ballots_154 rfl rfl ?_
      refine r_bipush (v := 6) 157 C dL_ballots_155 rfl (by decide) ?_
      obtain ⟨x77, hx77, hf⟩ := ob hf
      refine r_Vi (As := [.int 6]) 160 C shC_0 rfl (c_X4_count l G A 6 g _ hx77) (cwV 1 C.1.2.2.2.2 gL_ballots_X4_count rfl rfl rfl hd_X4_count ⟨Nat.le_of_ble_eq_true rfl, Nat.le_of_ble_eq_true rfl⟩) rfl rfl (Nat.le_of_ble_eq_true rfl) dL_ballots_157 rfl ?_
      refine r_istore 162 C [(11, .int x77), (10, .int x76), (9, .int (bI (decide (x4 = 1)))), (8, .int x3), (7, .int x2), (6, .int x1), (0, .ref (G.2.1 0)), (1, .int a2), (2, .int a3), (3, .int a4), (4, .int a5), (5, .int a6)] dL_ballots_160 rfl rfl (by decide) rfl ?_
      refine r_aload_n 163 C 6 dL_ballots_162 rfl rfl ?_
      refine r_iload_n 164 C 8 dL_ballots_163 rfl rfl ?_
      refine r_iload_n 165 C 9 dL_ballots_164 rfl rfl ?_
      obtain ⟨x78, g79, hx78, hf⟩ := ob2 hf
      refine r_Vi (As := [.int a3, .int a4]) 168 C shC_0 rfl (c_X4_promise l G A a3 a4 g _ hx78) (cwV 2 C.1.2.2.2.2 gL_ballots_X4_promise rfl rfl rfl hd_X4_promise ⟨Nat.le_of_ble_eq_true rfl, Nat.le_of_ble_eq_true rfl⟩) rfl rfl (Nat.le_of_ble_eq_true rfl) dL_ballots_165 rfl ?_
      refine r_istore 170 C [(12, .int x78), (11, .int x77), (10, .int x76), (9, .int (bI (decide (x4 = 1)))), (8, .int x3), (7, .int x2), (6, .int x1), (0, .ref (G.2.1 0)), (1, .int a2), (2, .int a3), (3, .int a4), (4, .int a5), (5, .int a6)] dL_ballots_168 rfl rfl (by decide) rfl ?_
      refine r_iload 172 C 6 dL_ballots_170 rfl rfl ?_
      refine r_if_eq 180 175 C dL_ballots_172 rfl rfl (fun c80 => ?_) (fun c80 => ?_)
      · have hf := oip c80 hf
        refine r_sub [(12, .int x78)] [0] rfl ?_
        exact t_L_ballots_J180 C hr hk0 a2 a3 a4 a5 a6 x78 g79 hf
      · have hf := oin c80 hf
        refine r_iload 177 C 3 dL_ballots_175 rfl rfl ?_
        refine r_if_ne 193 180 C dL_ballots_177 rfl rfl (fun c83 => ?_) (fun c83 => ?_)
        · have hf := obt c83 hf
          refine r_iload 195 C 4 dL_ballots_193 rfl rfl ?_
          refine r_iload_n 196 C 10 dL_ballots_195 rfl rfl ?_
          refine r_ishr 197 C dL_ballots_196 rfl ?_
          refine r_iconst (v := 1) 198 C dL_ballots_197 rfl (by decide) ?_
          refine r_iand 199 C dL_ballots_198 rfl ?_
          refine r_iconst (v := 1) 200 C dL_ballots_199 rfl (by decide) ?_
          refine r_icmp_ne 216 203 C dL_ballots_200 rfl rfl (fun c84 => ?_) (fun c84 => ?_)
          · have hf := oin c84 hf
            refine r_iload 218 C 6 dL_ballots_216 rfl rfl ?_
            refine r_iload 220 C 5 dL_ballots_218 rfl rfl ?_
            refine r_icmp_le 264 223 C dL_ballots_220 rfl rfl (fun c85 => ?_) (fun c85 => ?_)
            · have hf := oip c85 hf
              refine r_iload 266 C 0 dL_ballots_264 rfl rfl ?_
              refine r_bipush (v := 100) 268 C dL_ballots_266 rfl (by decide) ?_
              refine r_iload 270 C 5 dL_ballots_268 rfl rfl ?_
              refine r_iadd 271 C dL_ballots_270 rfl ?_
              refine r_icmp_ne 313 274 C dL_ballots_271 rfl rfl (fun c86 => ?_) (fun c86 => ?_)
              · have hf := oin c86 hf
                refine r_iconst (v := 0) 314 C dL_ballots_313 rfl (by decide) ?_
                have hf := Option.some.inj hf
                subst hf
                exact r_zret C hr hk0 false rfl dL_ballots_314
              · have hf := oip c86 hf
                refine r_aload_n 275 C 7 dL_ballots_274 rfl rfl ?_
                refine r_bipush (v := 6) 277 C dL_ballots_275 rfl (by decide) ?_
                obtain ⟨x87, hx87, hf⟩ := ob hf
                refine r_Vi (As := [.int 6]) 280 C shC_0 rfl (c_X4_count l G A 6 g79 _ hx87) (cwV 1 C.1.2.2.2.2 gL_ballots_X4_count rfl rfl rfl hd_X4_count ⟨Nat.le_of_ble_eq_true rfl, Nat.le_of_ble_eq_true rfl⟩) rfl rfl (Nat.le_of_ble_eq_true rfl) dL_ballots_277 rfl ?_
                refine r_iload 282 C 1 dL_ballots_280 rfl rfl ?_
                refine r_iconst (v := 1) 283 C dL_ballots_282 rfl (by decide) ?_
                refine r_iadd 284 C dL_ballots_283 rfl ?_
                refine r_icmp_ne 313 287 C dL_ballots_284 rfl rfl (fun c88 => ?_) (fun c88 => ?_)
                · have hf := oin c88 hf
                  refine r_iconst (v := 0) 314 C dL_ballots_313 rfl (by decide) ?_
                  have hf := Option.some.inj hf
                  subst hf
                  exact r_zret C hr hk0 false rfl dL_ballots_314
                · have hf := oip c88 hf
                  refine r_aload_n 288 C 7 dL_ballots_287 rfl rfl ?_
                  refine r_iload_n 289 C 9 dL_ballots_288 rfl rfl ?_
                  refine r_iconst (v := 1) 290 C dL_ballots_289 rfl (by decide) ?_
                  obtain ⟨x89, hx89, hf⟩ := ob hf
                  refine r_Vi (As := [.int a3, .int 1]) 293 C shC_0 rfl (c_X4_proposer l G A a3 1 g79 _ hx89) (cwV 2 C.1.2.2.2.2 gL_ballots_X4_proposer rfl rfl rfl hd_X4_proposer ⟨Nat.le_of_ble_eq_true rfl, Nat.le_of_ble_eq_true rfl⟩) rfl rfl (Nat.le_of_ble_eq_true rfl) dL_ballots_290 rfl ?_
                  refine r_iload 295 C 5 dL_ballots_293 rfl rfl ?_
                  refine r_icmp_lt 313 298 C dL_ballots_295 rfl rfl (fun c90 => ?_) (fun c90 => ?_)
                  · have hf := oip c90 hf
                    refine r_iconst (v := 0) 314 C dL_ballots_313 rfl (by decide) ?_
                    have hf := Option.some.inj hf
                    subst hf
                    exact r_zret C hr hk0 false rfl dL_ballots_314
                  · have hf := oin c90 hf
                    refine r_aload_n 299 C 7 dL_ballots_298 rfl rfl ?_
                    refine r_iload_n 300 C 9 dL_ballots_299 rfl rfl ?_
                    refine r_iconst (v := 2) 301 C dL_ballots_300 rfl (by decide) ?_
                    obtain ⟨x91, hx91, hf⟩ := ob hf
                    refine r_Vi (As := [.int a3, .int 2]) 304 C shC_0 rfl (c_X4_proposer l G A a3 2 g79 _ hx91) (cwV 2 C.1.2.2.2.2 gL_ballots_X4_proposer rfl rfl rfl hd_X4_proposer ⟨Nat.le_of_ble_eq_true rfl, Nat.le_of_ble_eq_true rfl⟩) rfl rfl (Nat.le_of_ble_eq_true rfl) dL_ballots_301 rfl ?_
                    refine r_iload 306 C 4 dL_ballots_304 rfl rfl ?_
                    refine r_icmp_ne 313 309 C dL_ballots_306 rfl rfl (fun c92 => ?_) (fun c92 => ?_)
                    · have hf := oin c92 hf
                      refine r_iconst (v := 0) 314 C dL_ballots_313 rfl (by decide) ?_
                      have hf := Option.some.inj hf
                      subst hf
                      exact r_zret C hr hk0 false rfl dL_ballots_314
                    · have hf := oip c92 hf
                      refine r_iconst (v := 1) 310 C dL_ballots_309 rfl (by decide) ?_
                      refine r_goto 314 C dL_ballots_310 rfl ?_
                      have hf := Option.some.inj hf
                      subst hf
                      exact r_zret C hr hk0 true rfl dL_ballots_314
            · have hf := oin c85 hf
              refine r_iload 225 C 0 dL_ballots_223 rfl rfl ?_
              refine r_iload 227 C 2 dL_ballots_225 rfl rfl ?_
              refine r_icmp_ne 260 230 C dL_ballots_227 rfl rfl (fun c93 => ?_) (fun c93 => ?_)
              · have hf := oin c93 hf
                refine r_iconst (v := 0) 261 C dL_ballots_260 rfl (by decide) ?_
                refine r_goto 314 C dL_ballots_261 rfl ?_
                have hf := Option.some.inj hf
                subst hf
                exact r_zret C hr hk0 false rfl dL_ballots_314
              · have hf := oip c93 hf
                refine r_aload_n 231 C 7 dL_ballots_230 rfl rfl ?_
                refine r_iload_n 232 C 10 dL_ballots_231 rfl rfl ?_
                refine r_iconst (v := 1) 233 C dL_ballots_232 rfl (by decide) ?_
                obtain ⟨x94, hx94, hf⟩ := ob hf
                refine r_Vi (As := [.int a4, .int 1]) 236 C shC_0 rfl (c_X4_acceptor l G A a4 1 g79 _ hx94) (cwV 2 C.1.2.2.2.2 gL_ballots_X4_acceptor rfl rfl rfl hd_X4_acceptor ⟨Nat.le_of_ble_eq_true rfl, Nat.le_of_ble_eq_true rfl⟩) rfl rfl (Nat.le_of_ble_eq_true rfl) dL_ballots_233 rfl ?_
                refine r_iload 238 C 6 dL_ballots_236 rfl rfl ?_
                refine r_icmp_ne 260 241 C dL_ballots_238 rfl rfl (fun c95 => ?_) (fun c95 => ?_)
                · have hf := oin c95 hf
                  refine r_iconst (v := 0) 261 C dL_ballots_260 rfl (by decide) ?_
                  refine r_goto 314 C dL_ballots_261 rfl ?_
                  have hf := Option.some.inj hf
                  subst hf
                  exact r_zret C hr hk0 false rfl dL_ballots_314
                · have hf := oip c95 hf
                  refine r_aload_n 242 C 7 dL_ballots_241 rfl rfl ?_
                  refine r_iload_n 243 C 9 dL_ballots_242 rfl rfl ?_
                  refine r_iconst (v := 2) 244 C dL_ballots_243 rfl (by decide) ?_
                  obtain ⟨x96, hx96, hf⟩ := ob hf
                  refine r_Vi (As := [.int a3, .int 2]) 247 C shC_0 rfl (c_X4_proposer l G A a3 2 g79 _ hx96) (cwV 2 C.1.2.2.2.2 gL_ballots_X4_proposer rfl rfl rfl hd_X4_proposer ⟨Nat.le_of_ble_eq_true rfl, Nat.le_of_ble_eq_true rfl⟩) rfl rfl (Nat.le_of_ble_eq_true rfl) dL_ballots_244 rfl ?_
                  refine r_iload 249 C 4 dL_ballots_247 rfl rfl ?_
                  refine r_iconst (v := 1) 250 C dL_ballots_249 rfl (by decide) ?_
                  refine r_iload_n 251 C 10 dL_ballots_250 rfl rfl ?_
                  refine r_ishl 252 C dL_ballots_251 rfl ?_
                  refine r_ior 253 C dL_ballots_252 rfl ?_
                  refine r_icmp_ne 260 256 C dL_ballots_253 rfl rfl (fun c97 => ?_) (fun c97 => ?_)
                  · have hf := oin c97 hf
                    refine r_iconst (v := 0) 261 C dL_ballots_260 rfl (by decide) ?_
                    refine r_goto 314 C dL_ballots_261 rfl ?_
                    have hf := Option.some.inj hf
                    subst hf
                    exact r_zret C hr hk0 false rfl dL_ballots_314
                  · have hf := oip c97 hf
                    refine r_iconst (v := 1) 257 C dL_ballots_256 rfl (by decide) ?_
                    refine r_goto 314 C dL_ballots_257 rfl ?_
                    have hf := Option.some.inj hf
                    subst hf
                    exact r_zret C hr hk0 true rfl dL_ballots_314
          · have hf := oip c84 hf
            refine r_iload 205 C 0 dL_ballots_203 rfl rfl ?_
            refine r_bipush (v := (-5)) 207 C dL_ballots_205 rfl (by decide) ?_
            suffices kk99 : JJ p l e rm_L_ballots s m args below meth c 19 G shC A (MQ below (k_Qi G shC A (bI res.1) res.2) args s 0 0 A) 215 [(12, .int x78), (11, .int x77), (10, .int x76), (9, .int (bI (decide (x4 = 1)))), (8, .int x3), (7, .int x2), (6, .int x1), (0, .ref (G.2.1 0)), (1, .int a2), (2, .int a3), (3, .int a4), (4, .int a5), (5, .int a6)] [.int (bI (decide (x78 = (-5))))] g79 by
              refine r_icmp_ne 214 210 C dL_ballots_207 rfl rfl (fun c98 => ?_) (fun c98 => ?_)
              · refine r_iconst (v := 0) 215 C dL_ballots_214 rfl (by decide) ?_
                rw [decide_eq_false c98] at kk99
                exact kk99
              · refine r_iconst (v := 1) 211 C dL_ballots_210 rfl (by decide) ?_
                refine r_goto 215 C dL_ballots_211 rfl ?_
                rw [decide_eq_true c98] at kk99
                exact kk99
            have hf := Option.some.inj hf
            subst hf
            exact r_zret C hr hk0 (decide (x78 = (-5))) rfl dL_ballots_215
        · have hf := obf c83 hf
          refine r_sub [(12, .int x78)] [0] rfl ?_
          exact t_L_ballots_J180 C hr hk0 a2 a3 a4 a5 a6 x78 g79 hf
  · have hf := oip c7 hf
    refine r_aload_n 46 C 4 dL_ballots_45 rfl rfl ?_
    refine r_iload_n 47 C 6 dL_ballots_46 rfl rfl ?_
    refine r_iconst (v := 1) 48 C dL_ballots_47 rfl (by decide) ?_
    obtain ⟨x100, hx100, hf⟩ := ob hf
    refine r_Vi (As := [.int a3, .int 1]) 51 C shC_0 rfl (c_X4_proposer l G A a3 1 g _ hx100) (cwV 2 C.1.2.2.2.2 gL_ballots_X4_proposer rfl rfl rfl hd_X4_proposer ⟨Nat.le_of_ble_eq_true rfl, Nat.le_of_ble_eq_true rfl⟩) rfl rfl (Nat.le_of_ble_eq_true rfl) dL_ballots_48 rfl ?_
    refine r_istore 53 C [(10, .int x100), (9, .int (bI (decide (x4 = 1)))), (8, .int x3), (7, .int x2), (6, .int x1), (0, .ref (G.2.1 0)), (1, .int a2), (2, .int a3), (3, .int a4), (4, .int a5), (5, .int a6)] dL_ballots_51 rfl rfl (by decide) rfl ?_
    refine r_aload_n 54 C 5 dL_ballots_53 rfl rfl ?_
    refine r_iload_n 55 C 7 dL_ballots_54 rfl rfl ?_
    obtain ⟨x101, g102, hx101, hf⟩ := ob2 hf
    refine r_Vi (As := [.int a3]) 58 C shC_0 rfl (c_X4_prepare l G A a3 g _ hx101) (cwV 1 C.1.2.2.2.2 gL_ballots_X4_prepare rfl rfl rfl hd_X4_prepare ⟨Nat.le_of_ble_eq_true rfl, Nat.le_of_ble_eq_true rfl⟩) rfl rfl (Nat.le_of_ble_eq_true rfl) dL_ballots_55 rfl ?_
    refine r_istore 60 C [(11, .int x101), (10, .int x100), (9, .int (bI (decide (x4 = 1)))), (8, .int x3), (7, .int x2), (6, .int x1), (0, .ref (G.2.1 0)), (1, .int a2), (2, .int a3), (3, .int a4), (4, .int a5), (5, .int a6)] dL_ballots_58 rfl rfl (by decide) rfl ?_
    refine r_iload 62 C 0 dL_ballots_60 rfl rfl ?_
    refine r_bipush (v := (-3)) 64 C dL_ballots_62 rfl (by decide) ?_
    refine r_icmp_eq 135 67 C dL_ballots_64 rfl rfl (fun c103 => ?_) (fun c103 => ?_)
    · have hf := oip c103 hf
      refine r_iconst (v := 1) 136 C dL_ballots_135 rfl (by decide) ?_
      refine r_goto 140 C dL_ballots_136 rfl ?_
      have hf := Option.some.inj hf
      subst hf
      exact r_zret C hr hk0 true rfl dL_ballots_140
    · have hf := oin c103 hf
      refine r_iload 69 C 0 dL_ballots_67 rfl rfl ?_
      refine r_iload 71 C 5 dL_ballots_69 rfl rfl ?_
      refine r_icmp_le 139 74 C dL_ballots_71 rfl rfl (fun c104 => ?_) (fun c104 => ?_)
      · have hf := oip c104 hf
        refine r_iconst (v := 0) 140 C dL_ballots_139 rfl (by decide) ?_
        have hf := Option.some.inj hf
        subst hf
        exact r_zret C hr hk0 false rfl dL_ballots_140
      · have hf := oin c104 hf
        refine r_iload 76 C 0 dL_ballots_74 rfl rfl ?_
        refine r_iload 78 C 1 dL_ballots_76 rfl rfl ?_
        refine r_icmp_le 139 81 C dL_ballots_78 rfl rfl (fun c105 => ?_) (fun c105 => ?_)
        · have hf := oip c105 hf
          refine r_iconst (v := 0) 140 C dL_ballots_139 rfl (by decide) ?_
          have hf := Option.some.inj hf
          subst hf
          exact r_zret C hr hk0 false rfl dL_ballots_140
        · have hf := oin c105 hf
          refine r_iload 83 C 0 dL_ballots_81 rfl rfl ?_
          refine r_iconst (v := 3) 84 C dL_ballots_83 rfl (by decide) ?_
          refine r_irem 85 C dL_ballots_84 rfl (by decide) ?_
          refine r_iload_n 86 C 8 dL_ballots_85 rfl rfl ?_
          refine r_iconst (v := 1) 87 C dL_ballots_86 rfl (by decide) ?_
          refine r_iadd 88 C dL_ballots_87 rfl ?_
          refine r_iconst (v := 3) 89 C dL_ballots_88 rfl (by decide) ?_
          refine r_irem 90 C dL_ballots_89 rfl (by decide) ?_
          refine r_icmp_ne 139 93 C dL_ballots_90 rfl rfl (fun c106 => ?_) (fun c106 => ?_)
          · have hf := oin c106 hf
            refine r_iconst (v := 0) 140 C dL_ballots_139 rfl (by decide) ?_
            have hf := Option.some.inj hf
            subst hf
            exact r_zret C hr hk0 false rfl dL_ballots_140
          · have hf := oip c106 hf
            refine r_iload 95 C 0 dL_ballots_93 rfl rfl ?_
            refine r_iconst (v := 3) 96 C dL_ballots_95 rfl (by decide) ?_
            refine r_icmp_le 117 99 C dL_ballots_96 rfl rfl (fun c107 => ?_) (fun c107 => ?_)
            · have hf := oip c107 hf
              refine r_sub [(0, .ref (G.2.1 0)), (2, .int a3)] [6, 8] rfl ?_
              exact t_L_ballots_J117 C hr hk0 a2 a3 a4 a5 a6 a3 g102 hf
            · have hf := oin c107 hf
              refine r_iload 101 C 0 dL_ballots_99 rfl rfl ?_
              refine r_iconst (v := 3) 102 C dL_ballots_101 rfl (by decide) ?_
              refine r_isub 103 C dL_ballots_102 rfl ?_
              refine r_iload 105 C 5 dL_ballots_103 rfl rfl ?_
              refine r_icmp_le 117 108 C dL_ballots_105 rfl rfl (fun c112 => ?_) (fun c112 => ?_)
              · have hf := oip c112 hf
                refine r_sub [(0, .ref (G.2.1 0)), (2, .int a3)] [6, 8] rfl ?_
                exact t_L_ballots_J117 C hr hk0 a2 a3 a4 a5 a6 a3 g102 hf
              · have hf := oin c112 hf
                refine r_iload 110 C 0 dL_ballots_108 rfl rfl ?_
                refine r_iconst (v := 3) 111 C dL_ballots_110 rfl (by decide) ?_
                refine r_isub 112 C dL_ballots_111 rfl ?_
                refine r_iload 114 C 1 dL_ballots_112 rfl rfl ?_
                refine r_icmp_gt 139 117 C dL_ballots_114 rfl rfl (fun c113 => ?_) (fun c113 => ?_)
                · have hf := oip c113 hf
                  refine r_iconst (v := 0) 140 C dL_ballots_139 rfl (by decide) ?_
                  have hf := Option.some.inj hf
                  subst hf
                  exact r_zret C hr hk0 false rfl dL_ballots_140
                · have hf := oin c113 hf
                  refine r_sub [(0, .ref (G.2.1 0)), (2, .int a3)] [6, 8] rfl ?_
                  exact t_L_ballots_J117 C hr hk0 a2 a3 a4 a5 a6 a3 g102 hf
