theorem in_X5_type_X5 : ∀ w ∈ wsX50, w ∈ wsX5_type := by decide +kernel
def rm_X5_type : Room := { frames := 0, cells := 0, slots := 0, locals := 0 }
theorem hd_X5_type : yX5_type.cls = RX5 ∧ yX5_type.cls ≠ "java/lang/invoke/MethodHandle" ∧ yX5_type.cls ≠ "java/lang/invoke/VarHandle" ∧ (parseMethodDescriptor yX5_type.desc).map (fun d => d.parameters.length) = some 1 := by decide +kernel
set_option maxRecDepth 100000 in
set_option maxHeartbeats 4000000 in
theorem c_X5_type (l : Launch) (G : GG) (A : Nat → Prop) (a1 : Int32)  (g : Mem) (res : Int32 × Mem) (hf : f_X5_type a1 g = some res) : k_Mi l yX5_type wsX5_type rm_X5_type G shM A [.ref (G.2.1 0), .int a1] g res.1 res.2 := by
  have hinX5 : ∀ w ∈ wsX50, w ∈ wsX5_type := in_X5_type_X5
  refine k_ofi (cc := cX5_type) (nL := 2) (own := RX5) (by decide +kernel) rfl rfl (by simp [lg_sl, Value.category]) ⟨rfl, rfl⟩ [(0, .ref (G.2.1 0)), (1, .int a1)] rfl ?_
  intro p e s m args below meth c C hr hk0
  rw [f_X5_type] at hf
  refine r_aload_n 1 C 0 dX5_type_0 rfl rfl ?_
  refine r_geti 4 C (k := 6) shM_0 rfl hinX5 (by decide) rfl dX5_type_1 rfl (by decide +kernel) ?_
  refine r_bipush (v := 60) 6 C dX5_type_4 rfl (by decide) ?_
  refine r_icmp_ne 12 9 C dX5_type_6 rfl rfl (fun c1 => ?_) (fun c1 => ?_)
  · have hf := oin c1 hf
    refine r_aload_n 13 C 0 dX5_type_12 rfl rfl ?_
    refine r_getr 16 C (k := 7) shM_0 rfl hinX5 (by decide) rfl dX5_type_13 rfl (by decide +kernel) ?_
    refine r_aload_n 17 C 0 dX5_type_16 rfl rfl ?_
    refine r_geti 20 C (k := 6) shM_0 rfl hinX5 (by decide) rfl dX5_type_17 rfl (by decide +kernel) ?_
    refine r_iload_n 21 C 1 dX5_type_20 rfl rfl ?_
    obtain ⟨g2, hg2, hf⟩ := ob hf
    refine r_castore 22 C shM_4 dX5_type_21 rfl hg2 ?_
    refine r_aload_n 23 C 0 dX5_type_22 rfl rfl ?_
    refine r_dup 24 C dX5_type_23 rfl rfl ?_
    refine r_geti 27 C (k := 6) shM_0 rfl hinX5 (by decide) rfl dX5_type_24 rfl (by decide +kernel) ?_
    refine r_iconst (v := 1) 28 C dX5_type_27 rfl (by decide) ?_
    refine r_iadd 29 C dX5_type_28 rfl ?_
    obtain ⟨g3, hg3, hf⟩ := ol hf
    refine r_puti 32 C (k := 6) (ty := .int) tyX5 tyX5_ok nmX5 shM_0 rfl hinX5 (by decide) rfl rfl (by decide +kernel) rfl rfl hg3 dX5_type_29 rfl (by decide +kernel) ?_
    refine r_aload_n 33 C 0 dX5_type_32 rfl rfl ?_
    refine r_geti 36 C (k := 6) shM_0 rfl hinX5 (by decide) rfl dX5_type_33 rfl (by decide +kernel) ?_
    have hf := Option.some.inj hf
    subst hf
    exact r_iret C hr hk0 dX5_type_36
  · have hf := oip c1 hf
    refine r_bipush (v := (-3)) 11 C dX5_type_9 rfl (by decide) ?_
    have hf := Option.some.inj hf
    subst hf
    exact r_iret C hr hk0 dX5_type_11
theorem in_X5_clearText_X5 : ∀ w ∈ wsX50, w ∈ wsX5_clearText := by decide +kernel
def rm_X5_clearText : Room := { frames := 0, cells := 0, slots := 0, locals := 0 }
theorem hd_X5_clearText : yX5_clearText.cls = RX5 ∧ yX5_clearText.cls ≠ "java/lang/invoke/MethodHandle" ∧ yX5_clearText.cls ≠ "java/lang/invoke/VarHandle" ∧ (parseMethodDescriptor yX5_clearText.desc).map (fun d => d.parameters.length) = some 0 := by decide +kernel
set_option maxRecDepth 100000 in
set_option maxHeartbeats 4000000 in
theorem c_X5_clearText (l : Launch) (G : GG) (A : Nat → Prop)   (g : Mem) (res : Int32 × Mem) (hf : f_X5_clearText  g = some res) : k_Mi l yX5_clearText wsX5_clearText rm_X5_clearText G shM A [.ref (G.2.1 0)] g res.1 res.2 := by
  have hinX5 : ∀ w ∈ wsX50, w ∈ wsX5_clearText := in_X5_clearText_X5
  refine k_ofi (cc := cX5_clearText) (nL := 2) (own := RX5) (by decide +kernel) rfl rfl (by simp [lg_sl, Value.category]) ⟨rfl, rfl⟩ [(0, .ref (G.2.1 0))] rfl ?_
  intro p e s m args below meth c C hr hk0
  rw [f_X5_clearText] at hf
  refine r_aload_n 1 C 0 dX5_clearText_0 rfl rfl ?_
  refine r_geti 4 C (k := 6) shM_0 rfl hinX5 (by decide) rfl dX5_clearText_1 rfl (by decide +kernel) ?_
  obtain ⟨x1, hx1, hf⟩ := ol hf
  refine r_istore_n 5 C [(1, .int x1), (0, .ref (G.2.1 0))] dX5_clearText_4 rfl hx1 (by decide) rfl ?_
  refine r_aload_n 6 C 1 dX5_clearText_5 rfl rfl ?_
  refine r_iconst (v := 0) 7 C dX5_clearText_6 rfl (by decide) ?_
  obtain ⟨g2, hg2, hf⟩ := ol hf
  refine r_puti 10 C (k := 6) (ty := .int) tyX5 tyX5_ok nmX5 shM_0 rfl hinX5 (by decide) rfl rfl (by decide +kernel) rfl rfl hg2 dX5_clearText_7 rfl (by decide +kernel) ?_
  refine r_iload_n 11 C 0 dX5_clearText_10 rfl rfl ?_
  have hf := Option.some.inj hf
  subst hf
  exact r_iret C hr hk0 dX5_clearText_11
theorem in_X5_isBetween_X5 : ∀ w ∈ wsX50, w ∈ wsX5_isBetween := by decide +kernel
def rm_X5_isBetween : Room := { frames := 1, cells := 0, slots := 0, locals := 22 }
theorem hd_X5_isBetween : yX5_isBetween.cls = RX5 ∧ yX5_isBetween.cls ≠ "java/lang/invoke/MethodHandle" ∧ yX5_isBetween.cls ≠ "java/lang/invoke/VarHandle" ∧ (parseMethodDescriptor yX5_isBetween.desc).map (fun d => d.parameters.length) = some 2 := by decide +kernel
set_option maxRecDepth 100000 in
set_option maxHeartbeats 4000000 in
theorem c_X5_isBetween (l : Launch) (G : GG) (A : Nat → Prop) (a1 : Int32) (a2 : Int32)  (g : Mem) (res : Bool) (hf : f_X5_isBetween a1 a2 g = some res) : k_Mi l yX5_isBetween wsX5_isBetween rm_X5_isBetween G shM A [.ref (G.2.1 0), .int a1, .int a2] g (bI res) g := by
  have hinX5 : ∀ w ∈ wsX50, w ∈ wsX5_isBetween := in_X5_isBetween_X5
  refine k_ofi (cc := cX5_isBetween) (nL := 3) (own := RX5) (by decide +kernel) rfl rfl (by simp [lg_sl, Value.category]) ⟨rfl, rfl⟩ [(0, .ref (G.2.1 0)), (1, .int a1), (2, .int a2)] rfl ?_
  intro p e s m args below meth c C hr hk0
  rw [f_X5_isBetween] at hf
  refine r_aload_n 1 C 0 dX5_isBetween_0 rfl rfl ?_
  refine r_geti 4 C (k := 8) shM_0 rfl hinX5 (by decide) rfl dX5_isBetween_1 rfl (by decide +kernel) ?_
  refine r_aload_n 5 C 0 dX5_isBetween_4 rfl rfl ?_
  refine r_geti 8 C (k := 6) shM_0 rfl hinX5 (by decide) rfl dX5_isBetween_5 rfl (by decide +kernel) ?_
  refine r_icmp_ge 32 11 C dX5_isBetween_8 rfl rfl (fun c1 => ?_) (fun c1 => ?_)
  · have hf := oip c1 hf
    refine r_iconst (v := 0) 33 C dX5_isBetween_32 rfl (by decide) ?_
    have hf := Option.some.inj hf
    subst hf
    exact r_zret C hr hk0 false rfl dX5_isBetween_33
  · have hf := oin c1 hf
    refine r_aload_n 12 C 0 dX5_isBetween_11 rfl rfl ?_
    refine r_getr 15 C (k := 7) shM_0 rfl hinX5 (by decide) rfl dX5_isBetween_12 rfl (by decide +kernel) ?_
    refine r_aload_n 16 C 0 dX5_isBetween_15 rfl rfl ?_
    refine r_geti 19 C (k := 8) shM_0 rfl hinX5 (by decide) rfl dX5_isBetween_16 rfl (by decide +kernel) ?_
    obtain ⟨x2, hx2, hf⟩ := ob hf
    refine r_caload 20 C shM_4 dX5_isBetween_19 rfl hx2 ?_
    refine r_iload_n 21 C 1 dX5_isBetween_20 rfl rfl ?_
    refine r_iload_n 22 C 2 dX5_isBetween_21 rfl rfl ?_
    refine r_Si (As := [.int x2, .int a1, .int a2]) 25 C (c_X5_in l G A x2 a1 a2 g _ rfl) (va_cwS 3 C.1.2.2.2.2 gX5_isBetween_X5_in rfl rfl rfl hd_X5_in ⟨Nat.le_of_ble_eq_true rfl, Nat.le_of_ble_eq_true rfl⟩) rfl rfl (Nat.le_of_ble_eq_true rfl) dX5_isBetween_22 rfl ?_
    refine r_if_eq 32 28 C dX5_isBetween_25 rfl rfl (fun c3 => ?_) (fun c3 => ?_)
    · have hf := obf c3 hf
      refine r_iconst (v := 0) 33 C dX5_isBetween_32 rfl (by decide) ?_
      have hf := Option.some.inj hf
      subst hf
      exact r_zret C hr hk0 false rfl dX5_isBetween_33
    · have hf := obt c3 hf
      refine r_iconst (v := 1) 29 C dX5_isBetween_28 rfl (by decide) ?_
      refine r_goto 33 C dX5_isBetween_29 rfl ?_
      have hf := Option.some.inj hf
      subst hf
      exact r_zret C hr hk0 true rfl dX5_isBetween_33
theorem in_X5_takes_X5 : ∀ w ∈ wsX50, w ∈ wsX5_takes := by decide +kernel
def rm_X5_takes : Room := { frames := 2, cells := 0, slots := 0, locals := 44 }
theorem hd_X5_takes : yX5_takes.cls = RX5 ∧ yX5_takes.cls ≠ "java/lang/invoke/MethodHandle" ∧ yX5_takes.cls ≠ "java/lang/invoke/VarHandle" ∧ (parseMethodDescriptor yX5_takes.desc).map (fun d => d.parameters.length) = some 2 := by decide +kernel
set_option maxRecDepth 100000 in
set_option maxHeartbeats 4000000 in
theorem t_X5_takes_L87 {p : Program} {l : Launch} {e : Env} {s : State} {m : MethodId} {args : Array Value} {below : List Frame} {meth : Method} {c : Code} {G : GG} {A : Nat → Prop} (C : KX p s m args c cX5_takes 5 RX5 wsX5_takes G shM A) (hr : meth.sig.returnType = (some .boolean)) (hk0 : meth.locks = false) (a1 : Int32) (a2 : Int32)  (v1 : Int32) (v2 : Int32) {res : Bool × Mem} {k : Int32 → Mem → Option (Bool × Mem)} (hk : ∀ (v3 : Int32) (g : Mem), k v3 g = some res → JJ p l e rm_X5_takes s m args below meth c 5 G shM A (MQ below (k_Qi G shM A (bI res.1) res.2) args s 0 0 A) 142 [(0, .ref (G.2.1 0)), (1, .int v1), (3, .int v3)] [] g) : ∀ (n : Nat) (v3 : Int32) (v4 : Int32) (g : Mem), f_X5_takes_L87 k v1 v2 n v3 v4 g = some res → JJ p l e rm_X5_takes s m args below meth c 5 G shM A (MQ below (k_Qi G shM A (bI res.1) res.2) args s 0 0 A) 87 [(0, .ref (G.2.1 0)), (1, .int v1), (2, .int v2), (3, .int v3), (4, .int v4)] [] g := by
  have hinX5 : ∀ w ∈ wsX50, w ∈ wsX5_takes := in_X5_takes_X5
  intro n
  induction n with
  | zero =>
    intro v3 v4 g hf
    rw [f_X5_takes_L87] at hf
    cases hf
  | succ n ih =>
    intro v3 v4 g hf
    rw [f_X5_takes_L87] at hf
    refine r_iload 89 C 4 dX5_takes_87 rfl rfl ?_
    refine r_iconst (v := 2) 90 C dX5_takes_89 rfl (by decide) ?_
    refine r_icmp_ge 142 93 C dX5_takes_90 rfl rfl (fun c8 => ?_) (fun c8 => ?_)
    · have hf := oip c8 hf
      refine r_sub [(0, .ref (G.2.1 0)), (1, .int v1), (3, .int v3)] [0, 1, 3] rfl ?_
      exact hk _ _ hf
    · have hf := oin c8 hf
      refine r_iload_n 94 C 2 dX5_takes_93 rfl rfl ?_
      refine r_if_ne 142 97 C dX5_takes_94 rfl rfl (fun c9 => ?_) (fun c9 => ?_)
      · have hf := oin c9 hf
        refine r_sub [(0, .ref (G.2.1 0)), (1, .int v1), (3, .int v3)] [0, 1, 3] rfl ?_
        exact hk _ _ hf
      · have hf := oip c9 hf
        refine r_aload_n 98 C 0 dX5_takes_97 rfl rfl ?_
        refine r_bipush (v := 48) 100 C dX5_takes_98 rfl (by decide) ?_
        refine r_bipush (v := 57) 102 C dX5_takes_100 rfl (by decide) ?_
        obtain ⟨x10, hx10, hf⟩ := ob hf
        refine r_Vi (As := [.int 48, .int 57]) 105 C shM_0 rfl (c_X5_isBetween l G A 48 57 g _ hx10) (cwV 2 C.1.2.2.2.2 gX5_takes_X5_isBetween rfl rfl rfl hd_X5_isBetween ⟨Nat.le_of_ble_eq_true rfl, Nat.le_of_ble_eq_true rfl⟩) rfl rfl (Nat.le_of_ble_eq_true rfl) dX5_takes_102 rfl ?_
        refine r_if_eq 142 108 C dX5_takes_105 rfl rfl (fun c11 => ?_) (fun c11 => ?_)
        · have hf := obf c11 hf
          refine r_sub [(0, .ref (G.2.1 0)), (1, .int v1), (3, .int v3)] [0, 1, 3] rfl ?_
          exact hk _ _ hf
        · have hf := obt c11 hf
          refine r_bipush (v := 10) 110 C dX5_takes_108 rfl (by decide) ?_
          refine r_iload_n 111 C 3 dX5_takes_110 rfl rfl ?_
          refine r_imul 112 C dX5_takes_111 rfl ?_
          refine r_aload_n 113 C 0 dX5_takes_112 rfl rfl ?_
          refine r_getr 116 C (k := 7) shM_0 rfl hinX5 (by decide) rfl dX5_takes_113 rfl (by decide +kernel) ?_
          refine r_aload_n 117 C 0 dX5_takes_116 rfl rfl ?_
          refine r_geti 120 C (k := 8) shM_0 rfl hinX5 (by decide) rfl dX5_takes_117 rfl (by decide +kernel) ?_
          obtain ⟨x12, hx12, hf⟩ := ob hf
          refine r_caload 121 C shM_4 dX5_takes_120 rfl hx12 ?_
          refine r_iadd 122 C dX5_takes_121 rfl ?_
          refine r_bipush (v := 48) 124 C dX5_takes_122 rfl (by decide) ?_
          refine r_isub 125 C dX5_takes_124 rfl ?_
          obtain ⟨x13, hx13, hf⟩ := ol hf
          refine r_istore_n 126 C [(3, .int x13), (0, .ref (G.2.1 0)), (1, .int v1), (2, .int v2), (4, .int v4)] dX5_takes_125 rfl hx13 (by decide) rfl ?_
          refine r_aload_n 127 C 1 dX5_takes_126 rfl rfl ?_
          refine r_dup 128 C dX5_takes_127 rfl rfl ?_
          refine r_geti 131 C (k := 8) shM_0 rfl hinX5 (by decide) rfl dX5_takes_128 rfl (by decide +kernel) ?_
          refine r_iconst (v := 1) 132 C dX5_takes_131 rfl (by decide) ?_
          refine r_iadd 133 C dX5_takes_132 rfl ?_
          obtain ⟨g14, hg14, hf⟩ := ol hf
          refine r_puti 136 C (k := 8) (ty := .int) tyX5 tyX5_ok nmX5 shM_0 rfl hinX5 (by decide) rfl rfl (by decide +kernel) rfl rfl hg14 dX5_takes_133 rfl (by decide +kernel) ?_
          obtain ⟨x15, hx15, hf⟩ := ol hf
          refine r_iinc 139 C 4 x15 [(4, .int x15), (3, .int x13), (0, .ref (G.2.1 0)), (1, .int v1), (2, .int v2)] dX5_takes_136 rfl rfl hx15.symm (by decide) rfl ?_
          refine r_goto 87 C dX5_takes_139 rfl ?_
          refine r_sub [(0, .ref (G.2.1 0)), (1, .int v1), (2, .int v2), (3, .int x13), (4, .int x15)] [2, 3, 4, 1, 0] rfl ?_
          exact ih _ _ _ hf
set_option maxRecDepth 100000 in
set_option maxHeartbeats 4000000 in
theorem t_X5_takes_J28 {p : Program} {l : Launch} {e : Env} {s : State} {m : MethodId} {args : Array Value} {below : List Frame} {meth : Method} {c : Code} {G : GG} {A : Nat → Prop} (C : KX p s m args c cX5_takes 5 RX5 wsX5_takes G shM A) (hr : meth.sig.returnType = (some .boolean)) (hk0 : meth.locks = false) (a1 : Int32) (a2 : Int32)  (v1 : Int32) (v2 : Int32) (g : Mem) {res : Bool × Mem} (hf : f_X5_takes_J28 v1 v2 g = some res) : JJ p l e rm_X5_takes s m args below meth c 5 G shM A (MQ below (k_Qi G shM A (bI res.1) res.2) args s 0 0 A) 28 [(0, .ref (G.2.1 0)), (1, .int v1), (2, .int v2)] [] g := by
  have hinX5 : ∀ w ∈ wsX50, w ∈ wsX5_takes := in_X5_takes_X5
  rw [f_X5_takes_J28] at hf
  refine r_iload_n 29 C 2 dX5_takes_28 rfl rfl ?_
  refine r_if_le 48 32 C dX5_takes_29 rfl rfl (fun c30 => ?_) (fun c30 => ?_)
  · have hf := oip c30 hf
    refine r_aload_n 49 C 0 dX5_takes_48 rfl rfl ?_
    refine r_bipush (v := 49) 51 C dX5_takes_49 rfl (by decide) ?_
    refine r_bipush (v := 57) 53 C dX5_takes_51 rfl (by decide) ?_
    obtain ⟨x31, hx31, hf⟩ := ob hf
    refine r_Vi (As := [.int 49, .int 57]) 56 C shM_0 rfl (c_X5_isBetween l G A 49 57 g _ hx31) (cwV 2 C.1.2.2.2.2 gX5_takes_X5_isBetween rfl rfl rfl hd_X5_isBetween ⟨Nat.le_of_ble_eq_true rfl, Nat.le_of_ble_eq_true rfl⟩) rfl rfl (Nat.le_of_ble_eq_true rfl) dX5_takes_53 rfl ?_
    refine r_if_ne 61 59 C dX5_takes_56 rfl rfl (fun c32 => ?_) (fun c32 => ?_)
    · have hf := obt c32 hf
      refine r_aload_n 62 C 0 dX5_takes_61 rfl rfl ?_
      refine r_getr 65 C (k := 7) shM_0 rfl hinX5 (by decide) rfl dX5_takes_62 rfl (by decide +kernel) ?_
      refine r_aload_n 66 C 0 dX5_takes_65 rfl rfl ?_
      refine r_geti 69 C (k := 8) shM_0 rfl hinX5 (by decide) rfl dX5_takes_66 rfl (by decide +kernel) ?_
      obtain ⟨x33, hx33, hf⟩ := ob hf
      refine r_caload 70 C shM_4 dX5_takes_69 rfl hx33 ?_
      refine r_bipush (v := 48) 72 C dX5_takes_70 rfl (by decide) ?_
      refine r_isub 73 C dX5_takes_72 rfl ?_
      obtain ⟨x34, hx34, hf⟩ := ol hf
      refine r_istore_n 74 C [(3, .int x34), (0, .ref (G.2.1 0)), (1, .int v1), (2, .int v2)] dX5_takes_73 rfl hx34 (by decide) rfl ?_
      refine r_aload_n 75 C 1 dX5_takes_74 rfl rfl ?_
      refine r_dup 76 C dX5_takes_75 rfl rfl ?_
      refine r_geti 79 C (k := 8) shM_0 rfl hinX5 (by decide) rfl dX5_takes_76 rfl (by decide +kernel) ?_
      refine r_iconst (v := 1) 80 C dX5_takes_79 rfl (by decide) ?_
      refine r_iadd 81 C dX5_takes_80 rfl ?_
      obtain ⟨g35, hg35, hf⟩ := ol hf
      refine r_puti 84 C (k := 8) (ty := .int) tyX5 tyX5_ok nmX5 shM_0 rfl hinX5 (by decide) rfl rfl (by decide +kernel) rfl rfl hg35 dX5_takes_81 rfl (by decide +kernel) ?_
      refine r_iconst (v := 0) 85 C dX5_takes_84 rfl (by decide) ?_
      refine r_istore 87 C [(4, .int 0), (3, .int x34), (0, .ref (G.2.1 0)), (1, .int v1), (2, .int v2)] dX5_takes_85 rfl rfl (by decide) rfl ?_
      refine r_sub [(0, .ref (G.2.1 0)), (1, .int v1), (2, .int v2), (3, .int x34), (4, .int 0)] [2, 3, 4, 1, 0] rfl ?_
      refine t_X5_takes_L87 C hr hk0 a1 a2 v1 v2 (fun x36 g37 hf => ?_) fuel0 _ _ _ hf
      refine r_aload_n 143 C 0 dX5_takes_142 rfl rfl ?_
      refine r_getr 146 C (k := 9) shM_0 rfl hinX5 (by decide) rfl dX5_takes_143 rfl (by decide +kernel) ?_
      refine r_iconst (v := 5) 147 C dX5_takes_146 rfl (by decide) ?_
      refine r_aload_n 148 C 0 dX5_takes_147 rfl rfl ?_
      refine r_geti 151 C (k := 10) shM_0 rfl hinX5 (by decide) rfl dX5_takes_148 rfl (by decide +kernel) ?_
      refine r_imul 152 C dX5_takes_151 rfl ?_
      refine r_iload_n 153 C 1 dX5_takes_152 rfl rfl ?_
      refine r_iadd 154 C dX5_takes_153 rfl ?_
      refine r_iload_n 155 C 2 dX5_takes_154 rfl rfl ?_
      obtain ⟨g38, hg38, hf⟩ := ob hf
      refine r_iastore 156 C shM_5 dX5_takes_155 rfl hg38 ?_
      refine r_iconst (v := 1) 157 C dX5_takes_156 rfl (by decide) ?_
      have hf := Option.some.inj hf
      subst hf
      exact r_zret C hr hk0 true rfl dX5_takes_157
    · have hf := obf c32 hf
      refine r_iconst (v := 0) 60 C dX5_takes_59 rfl (by decide) ?_
      have hf := Option.some.inj hf
      subst hf
      exact r_zret C hr hk0 false rfl dX5_takes_60
  · have hf := oin c30 hf
    refine r_aload_n 33 C 0 dX5_takes_32 rfl rfl ?_
    refine r_bipush (v := 48) 35 C dX5_takes_33 rfl (by decide) ?_
    refine r_bipush (v := 48) 37 C dX5_takes_35 rfl (by decide) ?_
    refine r_iload_n 38 C 2 dX5_takes_37 rfl rfl ?_
    refine r_iadd 39 C dX5_takes_38 rfl ?_
    obtain ⟨x39, hx39, hf⟩ := ob hf
    refine r_Vi (As := [.int 48, .int (48 + v2)]) 42 C shM_0 rfl (c_X5_isBetween l G A 48 (48 + v2) g _ hx39) (cwV 2 C.1.2.2.2.2 gX5_takes_X5_isBetween rfl rfl rfl hd_X5_isBetween ⟨Nat.le_of_ble_eq_true rfl, Nat.le_of_ble_eq_true rfl⟩) rfl rfl (Nat.le_of_ble_eq_true rfl) dX5_takes_39 rfl ?_
    refine r_if_ne 61 45 C dX5_takes_42 rfl rfl (fun c40 => ?_) (fun c40 => ?_)
    · have hf := obt c40 hf
      refine r_aload_n 62 C 0 dX5_takes_61 rfl rfl ?_
      refine r_getr 65 C (k := 7) shM_0 rfl hinX5 (by decide) rfl dX5_takes_62 rfl (by decide +kernel) ?_
      refine r_aload_n 66 C 0 dX5_takes_65 rfl rfl ?_
      refine r_geti 69 C (k := 8) shM_0 rfl hinX5 (by decide) rfl dX5_takes_66 rfl (by decide +kernel) ?_
      obtain ⟨x41, hx41, hf⟩ := ob hf
      refine r_caload 70 C shM_4 dX5_takes_69 rfl hx41 ?_
      refine r_bipush (v := 48) 72 C dX5_takes_70 rfl (by decide) ?_
      refine r_isub 73 C dX5_takes_72 rfl ?_
      obtain ⟨x42, hx42, hf⟩ := ol hf
      refine r_istore_n 74 C [(3, .int x42), (0, .ref (G.2.1 0)), (1, .int v1), (2, .int v2)] dX5_takes_73 rfl hx42 (by decide) rfl ?_
      refine r_aload_n 75 C 1 dX5_takes_74 rfl rfl ?_
      refine r_dup 76 C dX5_takes_75 rfl rfl ?_
      refine r_geti 79 C (k := 8) shM_0 rfl hinX5 (by decide) rfl dX5_takes_76 rfl (by decide +kernel) ?_
      refine r_iconst (v := 1) 80 C dX5_takes_79 rfl (by decide) ?_
      refine r_iadd 81 C dX5_takes_80 rfl ?_
      obtain ⟨g43, hg43, hf⟩ := ol hf
      refine r_puti 84 C (k := 8) (ty := .int) tyX5 tyX5_ok nmX5 shM_0 rfl hinX5 (by decide) rfl rfl (by decide +kernel) rfl rfl hg43 dX5_takes_81 rfl (by decide +kernel) ?_
      refine r_iconst (v := 0) 85 C dX5_takes_84 rfl (by decide) ?_
      refine r_istore 87 C [(4, .int 0), (3, .int x42), (0, .ref (G.2.1 0)), (1, .int v1), (2, .int v2)] dX5_takes_85 rfl rfl (by decide) rfl ?_
      refine r_sub [(0, .ref (G.2.1 0)), (1, .int v1), (2, .int v2), (3, .int x42), (4, .int 0)] [2, 3, 4, 1, 0] rfl ?_
      refine t_X5_takes_L87 C hr hk0 a1 a2 v1 v2 (fun x44 g45 hf => ?_) fuel0 _ _ _ hf
      refine r_aload_n 143 C 0 dX5_takes_142 rfl rfl ?_
      refine r_getr 146 C (k := 9) shM_0 rfl hinX5 (by decide) rfl dX5_takes_143 rfl (by decide +kernel) ?_
      refine r_iconst (v := 5) 147 C dX5_takes_146 rfl (by decide) ?_
      refine r_aload_n 148 C 0 dX5_takes_147 rfl rfl ?_
      refine r_geti 151 C (k := 10) shM_0 rfl hinX5 (by decide) rfl dX5_takes_148 rfl (by decide +kernel) ?_
      refine r_imul 152 C dX5_takes_151 rfl ?_
      refine r_iload_n 153 C 1 dX5_takes_152 rfl rfl ?_
      refine r_iadd 154 C dX5_takes_153 rfl ?_
      refine r_iload_n 155 C 2 dX5_takes_154 rfl rfl ?_
      obtain ⟨g46, hg46, hf⟩ := ob hf
      refine r_iastore 156 C shM_5 dX5_takes_155 rfl hg46 ?_
      refine r_iconst (v := 1) 157 C dX5_takes_156 rfl (by decide) ?_
      have hf := Option.some.inj hf
      subst hf
      exact r_zret C hr hk0 true rfl dX5_takes_157
    · have hf := obf c40 hf
      refine r_goto 59 C dX5_takes_45 rfl ?_
      refine r_iconst (v := 0) 60 C dX5_takes_59 rfl (by decide) ?_
      have hf := Option.some.inj hf
      subst hf
      exact r_zret C hr hk0 false rfl dX5_takes_60
set_option maxRecDepth 100000 in
set_option maxHeartbeats 4000000 in
theorem c_X5_takes (l : Launch) (G : GG) (A : Nat → Prop) (a1 : Int32) (a2 : Int32)  (g : Mem) (res : Bool × Mem) (hf : f_X5_takes a1 a2 g = some res) : k_Mi l yX5_takes wsX5_takes rm_X5_takes G shM A [.ref (G.2.1 0), .int a1, .int a2] g (bI res.1) res.2 := by
  have hinX5 : ∀ w ∈ wsX50, w ∈ wsX5_takes := in_X5_takes_X5
  refine k_ofi (cc := cX5_takes) (nL := 5) (own := RX5) (by decide +kernel) rfl rfl (by simp [lg_sl, Value.category]) ⟨rfl, rfl⟩ [(0, .ref (G.2.1 0)), (1, .int a1), (2, .int a2)] rfl ?_
  intro p e s m args below meth c C hr hk0
  rw [f_X5_takes] at hf
  refine r_iload_n 1 C 1 dX5_takes_0 rfl rfl ?_
  refine r_iconst (v := 1) 2 C dX5_takes_1 rfl (by decide) ?_
  refine r_icmp_le 28 5 C dX5_takes_2 rfl rfl (fun c1 => ?_) (fun c1 => ?_)
  · have hf := oip c1 hf
    refine r_iload_n 29 C 2 dX5_takes_28 rfl rfl ?_
    refine r_if_le 48 32 C dX5_takes_29 rfl rfl (fun c2 => ?_) (fun c2 => ?_)
    · have hf := oip c2 hf
      refine r_aload_n 49 C 0 dX5_takes_48 rfl rfl ?_
      refine r_bipush (v := 49) 51 C dX5_takes_49 rfl (by decide) ?_
      refine r_bipush (v := 57) 53 C dX5_takes_51 rfl (by decide) ?_
      obtain ⟨x3, hx3, hf⟩ := ob hf
      refine r_Vi (As := [.int 49, .int 57]) 56 C shM_0 rfl (c_X5_isBetween l G A 49 57 g _ hx3) (cwV 2 C.1.2.2.2.2 gX5_takes_X5_isBetween rfl rfl rfl hd_X5_isBetween ⟨Nat.le_of_ble_eq_true rfl, Nat.le_of_ble_eq_true rfl⟩) rfl rfl (Nat.le_of_ble_eq_true rfl) dX5_takes_53 rfl ?_
      refine r_if_ne 61 59 C dX5_takes_56 rfl rfl (fun c4 => ?_) (fun c4 => ?_)
      · have hf := obt c4 hf
        refine r_aload_n 62 C 0 dX5_takes_61 rfl rfl ?_
        refine r_getr 65 C (k := 7) shM_0 rfl hinX5 (by decide) rfl dX5_takes_62 rfl (by decide +kernel) ?_
        refine r_aload_n 66 C 0 dX5_takes_65 rfl rfl ?_
        refine r_geti 69 C (k := 8) shM_0 rfl hinX5 (by decide) rfl dX5_takes_66 rfl (by decide +kernel) ?_
        obtain ⟨x5, hx5, hf⟩ := ob hf
        refine r_caload 70 C shM_4 dX5_takes_69 rfl hx5 ?_
        refine r_bipush (v := 48) 72 C dX5_takes_70 rfl (by decide) ?_
        refine r_isub 73 C dX5_takes_72 rfl ?_
        obtain ⟨x6, hx6, hf⟩ := ol hf
        refine r_istore_n 74 C [(3, .int x6), (0, .ref (G.2.1 0)), (1, .int a1), (2, .int a2)] dX5_takes_73 rfl hx6 (by decide) rfl ?_
        refine r_aload_n 75 C 1 dX5_takes_74 rfl rfl ?_
        refine r_dup 76 C dX5_takes_75 rfl rfl ?_
        refine r_geti 79 C (k := 8) shM_0 rfl hinX5 (by decide) rfl dX5_takes_76 rfl (by decide +kernel) ?_
        refine r_iconst (v := 1) 80 C dX5_takes_79 rfl (by decide) ?_
        refine r_iadd 81 C dX5_takes_80 rfl ?_
        obtain ⟨g7, hg7, hf⟩ := ol hf
        refine r_puti 84 C (k := 8) (ty := .int) tyX5 tyX5_ok nmX5 shM_0 rfl hinX5 (by decide) rfl rfl (by decide +kernel) rfl rfl hg7 dX5_takes_81 rfl (by decide +kernel) ?_
        refine r_iconst (v := 0) 85 C dX5_takes_84 rfl (by decide) ?_
        refine r_istore 87 C [(4, .int 0), (3, .int x6), (0, .ref (G.2.1 0)), (1, .int a1), (2, .int a2)] dX5_takes_85 rfl rfl (by decide) rfl ?_
        refine r_sub [(0, .ref (G.2.1 0)), (1, .int a1), (2, .int a2), (3, .int x6), (4, .int 0)] [2, 3, 4, 1, 0] rfl ?_
        refine t_X5_takes_L87 C hr hk0 a1 a2 a1 a2 (fun x16 g17 hf => ?_) fuel0 _ _ _ hf
        refine r_aload_n 143 C 0 dX5_takes_142 rfl rfl ?_
        refine r_getr 146 C (k := 9) shM_0 rfl hinX5 (by decide) rfl dX5_takes_143 rfl (by decide +kernel) ?_
        refine r_iconst (v := 5) 147 C dX5_takes_146 rfl (by decide) ?_
        refine r_aload_n 148 C 0 dX5_takes_147 rfl rfl ?_
        refine r_geti 151 C (k := 10) shM_0 rfl hinX5 (by decide) rfl dX5_takes_148 rfl (by decide +kernel) ?_
        refine r_imul 152 C dX5_takes_151 rfl ?_
        refine r_iload_n 153 C 1 dX5_takes_152 rfl rfl ?_
        refine r_iadd 154 C dX5_takes_153 rfl ?_
        refine r_iload_n 155 C 2 dX5_takes_154 rfl rfl ?_
        obtain ⟨g18, hg18, hf⟩ := ob hf
        refine r_iastore 156 C shM_5 dX5_takes_155 rfl hg18 ?_
        refine r_iconst (v := 1) 157 C dX5_takes_156 rfl (by decide) ?_
        have hf := Option.some.inj hf
        subst hf
        exact r_zret C hr hk0 true rfl dX5_takes_157
      · have hf := obf c4 hf
        refine r_iconst (v := 0) 60 C dX5_takes_59 rfl (by decide) ?_
        have hf := Option.some.inj hf
        subst hf
        exact r_zret C hr hk0 false rfl dX5_takes_60
    · have hf := oin c2 hf
      refine r_aload_n 33 C 0 dX5_takes_32 rfl rfl ?_
      refine r_bipush (v := 48) 35 C dX5_takes_33 rfl (by decide) ?_
      refine r_bipush (v := 48) 37 C dX5_takes_35 rfl (by decide) ?_
      refine r_iload_n 38 C 2 dX5_takes_37 rfl rfl ?_
      refine r_iadd 39 C dX5_takes_38 rfl ?_
      obtain ⟨x19, hx19, hf⟩ := ob hf
      refine r_Vi (As := [.int 48, .int (48 + a2)]) 42 C shM_0 rfl (c_X5_isBetween l G A 48 (48 + a2) g _ hx19) (cwV 2 C.1.2.2.2.2 gX5_takes_X5_isBetween rfl rfl rfl hd_X5_isBetween ⟨Nat.le_of_ble_eq_true rfl, Nat.le_of_ble_eq_true rfl⟩) rfl rfl (Nat.le_of_ble_eq_true rfl) dX5_takes_39 rfl ?_
      refine r_if_ne 61 45 C dX5_takes_42 rfl rfl (fun c20 => ?_) (fun c20 => ?_)
      · have hf := obt c20 hf
        refine r_aload_n 62 C 0 dX5_takes_61 rfl rfl ?_
        refine r_getr 65 C (k := 7) shM_0 rfl hinX5 (by decide) rfl dX5_takes_62 rfl (by decide +kernel) ?_
        refine r_aload_n 66 C 0 dX5_takes_65 rfl rfl ?_
        refine r_geti 69 C (k := 8) shM_0 rfl hinX5 (by decide) rfl dX5_takes_66 rfl (by decide +kernel) ?_
        obtain ⟨x21, hx21, hf⟩ := ob hf
        refine r_caload 70 C shM_4 dX5_takes_69 rfl hx21 ?_
        refine r_bipush (v := 48) 72 C dX5_takes_70 rfl (by decide) ?_
        refine r_isub 73 C dX5_takes_72 rfl ?_
        obtain ⟨x22, hx22, hf⟩ := ol hf
        refine r_istore_n 74 C [(3, .int x22), (0, .ref (G.2.1 0)), (1, .int a1), (2, .int a2)] dX5_takes_73 rfl hx22 (by decide) rfl ?_
        refine r_aload_n 75 C 1 dX5_takes_74 rfl rfl ?_
        refine r_dup 76 C dX5_takes_75 rfl rfl ?_
        refine r_geti 79 C (k := 8) shM_0 rfl hinX5 (by decide) rfl dX5_takes_76 rfl (by decide +kernel) ?_
        refine r_iconst (v := 1) 80 C dX5_takes_79 rfl (by decide) ?_
        refine r_iadd 81 C dX5_takes_80 rfl ?_
        obtain ⟨g23, hg23, hf⟩ := ol hf
        refine r_puti 84 C (k := 8) (ty := .int) tyX5 tyX5_ok nmX5 shM_0 rfl hinX5 (by decide) rfl rfl (by decide +kernel) rfl rfl hg23 dX5_takes_81 rfl (by decide +kernel) ?_
        refine r_iconst (v := 0) 85 C dX5_takes_84 rfl (by decide) ?_
        refine r_istore 87 C [(4, .int 0), (3, .int x22), (0, .ref (G.2.1 0)), (1, .int a1), (2, .int a2)] dX5_takes_85 rfl rfl (by decide) rfl ?_
        refine r_sub [(0, .ref (G.2.1 0)), (1, .int a1), (2, .int a2), (3, .int x22), (4, .int 0)] [2, 3, 4, 1, 0] rfl ?_
        refine t_X5_takes_L87 C hr hk0 a1 a2 a1 a2 (fun x24 g25 hf => ?_) fuel0 _ _ _ hf
        refine r_aload_n 143 C 0 dX5_takes_142 rfl rfl ?_
        refine r_getr 146 C (k := 9) shM_0 rfl hinX5 (by decide) rfl dX5_takes_143 rfl (by decide +kernel) ?_
        refine r_iconst (v := 5) 147 C dX5_takes_146 rfl (by decide) ?_
        refine r_aload_n 148 C 0 dX5_takes_147 rfl rfl ?_
        refine r_geti 151 C (k := 10) shM_0 rfl hinX5 (by decide) rfl dX5_takes_148 rfl (by decide +kernel) ?_
        refine r_imul 152 C dX5_takes_151 rfl ?_
        refine r_iload_n 153 C 1 dX5_takes_152 rfl rfl ?_
        refine r_iadd 154 C dX5_takes_153 rfl ?_
        refine r_iload_n 155 C 2 dX5_takes_154 rfl rfl ?_
        obtain ⟨g26, hg26, hf⟩ := ob hf
        refine r_iastore 156 C shM_5 dX5_takes_155 rfl hg26 ?_
        refine r_iconst (v := 1) 157 C dX5_takes_156 rfl (by decide) ?_
        have hf := Option.some.inj hf
        subst hf
        exact r_zret C hr hk0 true rfl dX5_takes_157
      · have hf := obf c20 hf
        refine r_goto 59 C dX5_takes_45 rfl ?_
        refine r_iconst (v := 0) 60 C dX5_takes_59 rfl (by decide) ?_
        have hf := Option.some.inj hf
        subst hf
        exact r_zret C hr hk0 false rfl dX5_takes_60
  · have hf := oin c1 hf
    refine r_aload_n 6 C 0 dX5_takes_5 rfl rfl ?_
    refine r_bipush (v := 44) 8 C dX5_takes_6 rfl (by decide) ?_
    refine r_bipush (v := 44) 10 C dX5_takes_8 rfl (by decide) ?_
    obtain ⟨x27, hx27, hf⟩ := ob hf
    refine r_Vi (As := [.int 44, .int 44]) 13 C shM_0 rfl (c_X5_isBetween l G A 44 44 g _ hx27) (cwV 2 C.1.2.2.2.2 gX5_takes_X5_isBetween rfl rfl rfl hd_X5_isBetween ⟨Nat.le_of_ble_eq_true rfl, Nat.le_of_ble_eq_true rfl⟩) rfl rfl (Nat.le_of_ble_eq_true rfl) dX5_takes_10 rfl ?_
    refine r_if_ne 18 16 C dX5_takes_13 rfl rfl (fun c28 => ?_) (fun c28 => ?_)
    · have hf := obt c28 hf
      refine r_aload_n 19 C 0 dX5_takes_18 rfl rfl ?_
      refine r_dup 20 C dX5_takes_19 rfl rfl ?_
      refine r_geti 23 C (k := 8) shM_0 rfl hinX5 (by decide) rfl dX5_takes_20 rfl (by decide +kernel) ?_
      refine r_iconst (v := 1) 24 C dX5_takes_23 rfl (by decide) ?_
      refine r_iadd 25 C dX5_takes_24 rfl ?_
      obtain ⟨g29, hg29, hf⟩ := ol hf
      refine r_puti 28 C (k := 8) (ty := .int) tyX5 tyX5_ok nmX5 shM_0 rfl hinX5 (by decide) rfl rfl (by decide +kernel) rfl rfl hg29 dX5_takes_25 rfl (by decide +kernel) ?_
      refine r_sub [(0, .ref (G.2.1 0)), (1, .int a1), (2, .int a2)] [0, 1, 2] rfl ?_
      exact t_X5_takes_J28 C hr hk0 a1 a2 a1 a2 g29 hf
    · have hf := obf c28 hf
      refine r_iconst (v := 0) 17 C dX5_takes_16 rfl (by decide) ?_
      have hf := Option.some.inj hf
      subst hf
      exact r_zret C hr hk0 false rfl dX5_takes_17
theorem in_X5_takesOrder_X5 : ∀ w ∈ wsX50, w ∈ wsX5_takesOrder := by decide +kernel
def rm_X5_takesOrder : Room := { frames := 3, cells := 0, slots := 0, locals := 68 }
theorem hd_X5_takesOrder : yX5_takesOrder.cls = RX5 ∧ yX5_takesOrder.cls ≠ "java/lang/invoke/MethodHandle" ∧ yX5_takesOrder.cls ≠ "java/lang/invoke/VarHandle" ∧ (parseMethodDescriptor yX5_takesOrder.desc).map (fun d => d.parameters.length) = some 0 := by decide +kernel
set_option maxRecDepth 100000 in
set_option maxHeartbeats 4000000 in
theorem t_X5_takesOrder_J135 {p : Program} {l : Launch} {e : Env} {s : State} {m : MethodId} {args : Array Value} {below : List Frame} {meth : Method} {c : Code} {G : GG} {A : Nat → Prop} (C : KX p s m args c cX5_takesOrder 3 RX5 wsX5_takesOrder G shM A) (hr : meth.sig.returnType = (some .boolean)) (hk0 : meth.locks = false)  (v1 : Int32) (s0 : Int32) (s1 : Int32) (g : Mem) {res : Bool × Mem} (hf : f_X5_takesOrder_J135 v1 s0 s1 g = some res) : JJ p l e rm_X5_takesOrder s m args below meth c 3 G shM A (MQ below (k_Qi G shM A (bI res.1) res.2) args s 0 0 A) 135 [(0, .ref (G.2.1 0)), (1, .int v1)] [.int s0, .int s1, .ref (G.2.1 0)] g := by
  have hinX5 : ∀ w ∈ wsX50, w ∈ wsX5_takesOrder := in_X5_takesOrder_X5
  rw [f_X5_takesOrder_J135] at hf
  obtain ⟨x10, g11, hx10, hf⟩ := ob2 hf
  refine r_Vi (As := [.int s1, .int s0]) 138 C shM_0 rfl (c_X5_takes l G A s1 s0 g _ hx10) (cwV 2 C.1.2.2.2.2 gX5_takesOrder_X5_takes rfl rfl rfl hd_X5_takes ⟨Nat.le_of_ble_eq_true rfl, Nat.le_of_ble_eq_true rfl⟩) rfl rfl (Nat.le_of_ble_eq_true rfl) dX5_takesOrder_135 rfl ?_
  refine r_if_ne 143 141 C dX5_takesOrder_138 rfl rfl (fun c12 => ?_) (fun c12 => ?_)
  · have hf := obt c12 hf
    refine r_iload_n 144 C 1 dX5_takesOrder_143 rfl rfl ?_
    refine r_bipush (v := 121) 146 C dX5_takesOrder_144 rfl (by decide) ?_
    refine r_icmp_ne 156 149 C dX5_takesOrder_146 rfl rfl (fun c13 => ?_) (fun c13 => ?_)
    · have hf := oin c13 hf
      refine r_iload_n 157 C 1 dX5_takesOrder_156 rfl rfl ?_
      refine r_bipush (v := 118) 159 C dX5_takesOrder_157 rfl (by decide) ?_
      refine r_icmp_eq 168 162 C dX5_takesOrder_159 rfl rfl (fun c14 => ?_) (fun c14 => ?_)
      · have hf := oip c14 hf
        refine r_aload_n 169 C 0 dX5_takesOrder_168 rfl rfl ?_
        refine r_iconst (v := 2) 170 C dX5_takesOrder_169 rfl (by decide) ?_
        refine r_iconst (v := 0) 171 C dX5_takesOrder_170 rfl (by decide) ?_
        obtain ⟨x15, g16, hx15, hf⟩ := ob2 hf
        refine r_Vi (As := [.int 2, .int 0]) 174 C shM_0 rfl (c_X5_takes l G A 2 0 g11 _ hx15) (cwV 2 C.1.2.2.2.2 gX5_takesOrder_X5_takes rfl rfl rfl hd_X5_takes ⟨Nat.le_of_ble_eq_true rfl, Nat.le_of_ble_eq_true rfl⟩) rfl rfl (Nat.le_of_ble_eq_true rfl) dX5_takesOrder_171 rfl ?_
        refine r_if_eq 200 177 C dX5_takesOrder_174 rfl rfl (fun c17 => ?_) (fun c17 => ?_)
        · have hf := obf c17 hf
          refine r_iconst (v := 0) 201 C dX5_takesOrder_200 rfl (by decide) ?_
          have hf := Option.some.inj hf
          subst hf
          exact r_zret C hr hk0 false rfl dX5_takesOrder_201
        · have hf := obt c17 hf
          refine r_aload_n 178 C 0 dX5_takesOrder_177 rfl rfl ?_
          refine r_iconst (v := 3) 179 C dX5_takesOrder_178 rfl (by decide) ?_
          refine r_iload_n 180 C 1 dX5_takesOrder_179 rfl rfl ?_
          refine r_bipush (v := 118) 182 C dX5_takesOrder_180 rfl (by decide) ?_
          refine r_icmp_ne 189 185 C dX5_takesOrder_182 rfl rfl (fun c18 => ?_) (fun c18 => ?_)
          · have hf := oin c18 hf
            refine r_iconst (v := 5) 190 C dX5_takesOrder_189 rfl (by decide) ?_
            obtain ⟨x19, g20, hx19, hf⟩ := ob2 hf
            refine r_Vi (As := [.int 3, .int 5]) 193 C shM_0 rfl (c_X5_takes l G A 3 5 g16 _ hx19) (cwV 2 C.1.2.2.2.2 gX5_takesOrder_X5_takes rfl rfl rfl hd_X5_takes ⟨Nat.le_of_ble_eq_true rfl, Nat.le_of_ble_eq_true rfl⟩) rfl rfl (Nat.le_of_ble_eq_true rfl) dX5_takesOrder_190 rfl ?_
            refine r_if_eq 200 196 C dX5_takesOrder_193 rfl rfl (fun c21 => ?_) (fun c21 => ?_)
            · have hf := obf c21 hf
              refine r_iconst (v := 0) 201 C dX5_takesOrder_200 rfl (by decide) ?_
              have hf := Option.some.inj hf
              subst hf
              exact r_zret C hr hk0 false rfl dX5_takesOrder_201
            · have hf := obt c21 hf
              refine r_iconst (v := 1) 197 C dX5_takesOrder_196 rfl (by decide) ?_
              refine r_goto 201 C dX5_takesOrder_197 rfl ?_
              have hf := Option.some.inj hf
              subst hf
              exact r_zret C hr hk0 true rfl dX5_takesOrder_201
          · have hf := oip c18 hf
            refine r_iconst (v := 0) 186 C dX5_takesOrder_185 rfl (by decide) ?_
            refine r_goto 190 C dX5_takesOrder_186 rfl ?_
            obtain ⟨x22, g23, hx22, hf⟩ := ob2 hf
            refine r_Vi (As := [.int 3, .int 0]) 193 C shM_0 rfl (c_X5_takes l G A 3 0 g16 _ hx22) (cwV 2 C.1.2.2.2.2 gX5_takesOrder_X5_takes rfl rfl rfl hd_X5_takes ⟨Nat.le_of_ble_eq_true rfl, Nat.le_of_ble_eq_true rfl⟩) rfl rfl (Nat.le_of_ble_eq_true rfl) dX5_takesOrder_190 rfl ?_
            refine r_if_eq 200 196 C dX5_takesOrder_193 rfl rfl (fun c24 => ?_) (fun c24 => ?_)
            · have hf := obf c24 hf
              refine r_iconst (v := 0) 201 C dX5_takesOrder_200 rfl (by decide) ?_
              have hf := Option.some.inj hf
              subst hf
              exact r_zret C hr hk0 false rfl dX5_takesOrder_201
            · have hf := obt c24 hf
              refine r_iconst (v := 1) 197 C dX5_takesOrder_196 rfl (by decide) ?_
              refine r_goto 201 C dX5_takesOrder_197 rfl ?_
              have hf := Option.some.inj hf
              subst hf
              exact r_zret C hr hk0 true rfl dX5_takesOrder_201
      · have hf := oin c14 hf
        refine r_iload_n 163 C 1 dX5_takesOrder_162 rfl rfl ?_
        refine r_bipush (v := 97) 165 C dX5_takesOrder_163 rfl (by decide) ?_
        refine r_icmp_ne 196 168 C dX5_takesOrder_165 rfl rfl (fun c25 => ?_) (fun c25 => ?_)
        · have hf := oin c25 hf
          refine r_iconst (v := 1) 197 C dX5_takesOrder_196 rfl (by decide) ?_
          refine r_goto 201 C dX5_takesOrder_197 rfl ?_
          have hf := Option.some.inj hf
          subst hf
          exact r_zret C hr hk0 true rfl dX5_takesOrder_201
        · have hf := oip c25 hf
          refine r_aload_n 169 C 0 dX5_takesOrder_168 rfl rfl ?_
          refine r_iconst (v := 2) 170 C dX5_takesOrder_169 rfl (by decide) ?_
          refine r_iconst (v := 0) 171 C dX5_takesOrder_170 rfl (by decide) ?_
          obtain ⟨x26, g27, hx26, hf⟩ := ob2 hf
          refine r_Vi (As := [.int 2, .int 0]) 174 C shM_0 rfl (c_X5_takes l G A 2 0 g11 _ hx26) (cwV 2 C.1.2.2.2.2 gX5_takesOrder_X5_takes rfl rfl rfl hd_X5_takes ⟨Nat.le_of_ble_eq_true rfl, Nat.le_of_ble_eq_true rfl⟩) rfl rfl (Nat.le_of_ble_eq_true rfl) dX5_takesOrder_171 rfl ?_
          refine r_if_eq 200 177 C dX5_takesOrder_174 rfl rfl (fun c28 => ?_) (fun c28 => ?_)
          · have hf := obf c28 hf
            refine r_iconst (v := 0) 201 C dX5_takesOrder_200 rfl (by decide) ?_
            have hf := Option.some.inj hf
            subst hf
            exact r_zret C hr hk0 false rfl dX5_takesOrder_201
          · have hf := obt c28 hf
            refine r_aload_n 178 C 0 dX5_takesOrder_177 rfl rfl ?_
            refine r_iconst (v := 3) 179 C dX5_takesOrder_178 rfl (by decide) ?_
            refine r_iload_n 180 C 1 dX5_takesOrder_179 rfl rfl ?_
            refine r_bipush (v := 118) 182 C dX5_takesOrder_180 rfl (by decide) ?_
            refine r_icmp_ne 189 185 C dX5_takesOrder_182 rfl rfl (fun c29 => ?_) (fun c29 => ?_)
            · have hf := oin c29 hf
              refine r_iconst (v := 5) 190 C dX5_takesOrder_189 rfl (by decide) ?_
              obtain ⟨x30, g31, hx30, hf⟩ := ob2 hf
              refine r_Vi (As := [.int 3, .int 5]) 193 C shM_0 rfl (c_X5_takes l G A 3 5 g27 _ hx30) (cwV 2 C.1.2.2.2.2 gX5_takesOrder_X5_takes rfl rfl rfl hd_X5_takes ⟨Nat.le_of_ble_eq_true rfl, Nat.le_of_ble_eq_true rfl⟩) rfl rfl (Nat.le_of_ble_eq_true rfl) dX5_takesOrder_190 rfl ?_
              refine r_if_eq 200 196 C dX5_takesOrder_193 rfl rfl (fun c32 => ?_) (fun c32 => ?_)
              · have hf := obf c32 hf
                refine r_iconst (v := 0) 201 C dX5_takesOrder_200 rfl (by decide) ?_
                have hf := Option.some.inj hf
                subst hf
                exact r_zret C hr hk0 false rfl dX5_takesOrder_201
              · have hf := obt c32 hf
                refine r_iconst (v := 1) 197 C dX5_takesOrder_196 rfl (by decide) ?_
                refine r_goto 201 C dX5_takesOrder_197 rfl ?_
                have hf := Option.some.inj hf
                subst hf
                exact r_zret C hr hk0 true rfl dX5_takesOrder_201
            · have hf := oip c29 hf
              refine r_iconst (v := 0) 186 C dX5_takesOrder_185 rfl (by decide) ?_
              refine r_goto 190 C dX5_takesOrder_186 rfl ?_
              obtain ⟨x33, g34, hx33, hf⟩ := ob2 hf
              refine r_Vi (As := [.int 3, .int 0]) 193 C shM_0 rfl (c_X5_takes l G A 3 0 g27 _ hx33) (cwV 2 C.1.2.2.2.2 gX5_takesOrder_X5_takes rfl rfl rfl hd_X5_takes ⟨Nat.le_of_ble_eq_true rfl, Nat.le_of_ble_eq_true rfl⟩) rfl rfl (Nat.le_of_ble_eq_true rfl) dX5_takesOrder_190 rfl ?_
              refine r_if_eq 200 196 C dX5_takesOrder_193 rfl rfl (fun c35 => ?_) (fun c35 => ?_)
              · have hf := obf c35 hf
                refine r_iconst (v := 0) 201 C dX5_takesOrder_200 rfl (by decide) ?_
                have hf := Option.some.inj hf
                subst hf
                exact r_zret C hr hk0 false rfl dX5_takesOrder_201
              · have hf := obt c35 hf
                refine r_iconst (v := 1) 197 C dX5_takesOrder_196 rfl (by decide) ?_
                refine r_goto 201 C dX5_takesOrder_197 rfl ?_
                have hf := Option.some.inj hf
                subst hf
                exact r_zret C hr hk0 true rfl dX5_takesOrder_201
    · have hf := oip c13 hf
      refine r_aload_n 150 C 0 dX5_takesOrder_149 rfl rfl ?_
      refine r_iconst (v := 2) 151 C dX5_takesOrder_150 rfl (by decide) ?_
      refine r_iconst (v := 5) 152 C dX5_takesOrder_151 rfl (by decide) ?_
      obtain ⟨x36, g37, hx36, hf⟩ := ob2 hf
      refine r_Vi (As := [.int 2, .int 5]) 155 C shM_0 rfl (c_X5_takes l G A 2 5 g11 _ hx36) (cwV 2 C.1.2.2.2.2 gX5_takesOrder_X5_takes rfl rfl rfl hd_X5_takes ⟨Nat.le_of_ble_eq_true rfl, Nat.le_of_ble_eq_true rfl⟩) rfl rfl (Nat.le_of_ble_eq_true rfl) dX5_takesOrder_152 rfl ?_
      have hf := Option.some.inj hf
      subst hf
      exact r_zret C hr hk0 x36 rfl dX5_takesOrder_155
  · have hf := obf c12 hf
    refine r_iconst (v := 0) 142 C dX5_takesOrder_141 rfl (by decide) ?_
    have hf := Option.some.inj hf
    subst hf
    exact r_zret C hr hk0 false rfl dX5_takesOrder_142
set_option maxRecDepth 100000 in
set_option maxHeartbeats 4000000 in
theorem t_X5_takesOrder_J108 {p : Program} {l : Launch} {e : Env} {s : State} {m : MethodId} {args : Array Value} {below : List Frame} {meth : Method} {c : Code} {G : GG} {A : Nat → Prop} (C : KX p s m args c cX5_takesOrder 3 RX5 wsX5_takesOrder G shM A) (hr : meth.sig.returnType = (some .boolean)) (hk0 : meth.locks = false)  (v1 : Int32) (v2 : Int32) (s0 : Int32) (s1 : Int32) (g : Mem) {res : Bool × Mem} (hf : f_X5_takesOrder_J108 v1 v2 s0 s1 g = some res) : JJ p l e rm_X5_takesOrder s m args below meth c 3 G shM A (MQ below (k_Qi G shM A (bI res.1) res.2) args s 0 0 A) 108 [(0, .ref (G.2.1 0)), (1, .int v1), (2, .int v2)] [.int s0, .int s1, .ref (G.2.1 0)] g := by
  have hinX5 : ∀ w ∈ wsX50, w ∈ wsX5_takesOrder := in_X5_takesOrder_X5
  rw [f_X5_takesOrder_J108] at hf
  refine r_iadd 109 C dX5_takesOrder_108 rfl ?_
  obtain ⟨g7, hg7, hf⟩ := ol hf
  refine r_puti 112 C (k := 8) (ty := .int) tyX5 tyX5_ok nmX5 shM_0 rfl hinX5 (by decide) rfl rfl (by decide +kernel) rfl rfl hg7 dX5_takesOrder_109 rfl (by decide +kernel) ?_
  refine r_iload_n 113 C 2 dX5_takesOrder_112 rfl rfl ?_
  refine r_if_eq 141 116 C dX5_takesOrder_113 rfl rfl (fun c8 => ?_) (fun c8 => ?_)
  · have hf := oip c8 hf
    refine r_iconst (v := 0) 142 C dX5_takesOrder_141 rfl (by decide) ?_
    have hf := Option.some.inj hf
    subst hf
    exact r_zret C hr hk0 false rfl dX5_takesOrder_142
  · have hf := oin c8 hf
    refine r_aload_n 117 C 0 dX5_takesOrder_116 rfl rfl ?_
    refine r_iconst (v := 1) 118 C dX5_takesOrder_117 rfl (by decide) ?_
    refine r_iload_n 119 C 1 dX5_takesOrder_118 rfl rfl ?_
    refine r_bipush (v := 100) 121 C dX5_takesOrder_119 rfl (by decide) ?_
    refine r_icmp_eq 130 124 C dX5_takesOrder_121 rfl rfl (fun c9 => ?_) (fun c9 => ?_)
    · have hf := oip c9 hf
      refine r_iconst (v := 5) 131 C dX5_takesOrder_130 rfl (by decide) ?_
      refine r_goto 135 C dX5_takesOrder_131 rfl ?_
      refine r_sub [(0, .ref (G.2.1 0)), (1, .int v1)] [0, 1] rfl ?_
      exact t_X5_takesOrder_J135 C hr hk0 v1 5 1 g7 hf
    · have hf := oin c9 hf
      refine r_iload_n 125 C 1 dX5_takesOrder_124 rfl rfl ?_
      refine r_bipush (v := 117) 127 C dX5_takesOrder_125 rfl (by decide) ?_
      refine r_icmp_ne 134 130 C dX5_takesOrder_127 rfl rfl (fun c38 => ?_) (fun c38 => ?_)
      · have hf := oin c38 hf
        refine r_iconst (v := 2) 135 C dX5_takesOrder_134 rfl (by decide) ?_
        refine r_sub [(0, .ref (G.2.1 0)), (1, .int v1)] [0, 1] rfl ?_
        exact t_X5_takesOrder_J135 C hr hk0 v1 2 1 g7 hf
      · have hf := oip c38 hf
        refine r_iconst (v := 5) 131 C dX5_takesOrder_130 rfl (by decide) ?_
        refine r_goto 135 C dX5_takesOrder_131 rfl ?_
        refine r_sub [(0, .ref (G.2.1 0)), (1, .int v1)] [0, 1] rfl ?_
        exact t_X5_takesOrder_J135 C hr hk0 v1 5 1 g7 hf
set_option maxRecDepth 100000 in
set_option maxHeartbeats 4000000 in
theorem t_X5_takesOrder_J93 {p : Program} {l : Launch} {e : Env} {s : State} {m : MethodId} {args : Array Value} {below : List Frame} {meth : Method} {c : Code} {G : GG} {A : Nat → Prop} (C : KX p s m args c cX5_takesOrder 3 RX5 wsX5_takesOrder G shM A) (hr : meth.sig.returnType = (some .boolean)) (hk0 : meth.locks = false)  (v1 : Int32) (s0 : Int32) (g : Mem) {res : Bool × Mem} (hf : f_X5_takesOrder_J93 v1 s0 g = some res) : JJ p l e rm_X5_takesOrder s m args below meth c 3 G shM A (MQ below (k_Qi G shM A (bI res.1) res.2) args s 0 0 A) 93 [(0, .ref (G.2.1 0)), (1, .int v1)] [.int s0] g := by
  have hinX5 : ∀ w ∈ wsX50, w ∈ wsX5_takesOrder := in_X5_takesOrder_X5
  rw [f_X5_takesOrder_J93] at hf
  refine r_istore_n 94 C [(2, .int s0), (0, .ref (G.2.1 0)), (1, .int v1)] dX5_takesOrder_93 rfl rfl (by decide) rfl ?_
  refine r_aload_n 95 C 1 dX5_takesOrder_94 rfl rfl ?_
  refine r_dup 96 C dX5_takesOrder_95 rfl rfl ?_
  refine r_geti 99 C (k := 8) shM_0 rfl hinX5 (by decide) rfl dX5_takesOrder_96 rfl (by decide +kernel) ?_
  refine r_iload_n 100 C 0 dX5_takesOrder_99 rfl rfl ?_
  refine r_if_eq 107 103 C dX5_takesOrder_100 rfl rfl (fun c6 => ?_) (fun c6 => ?_)
  · have hf := oip c6 hf
    refine r_iconst (v := 0) 108 C dX5_takesOrder_107 rfl (by decide) ?_
    refine r_sub [(0, .ref (G.2.1 0)), (1, .int v1), (2, .int s0)] [1, 2, 0] rfl ?_
    exact t_X5_takesOrder_J108 C hr hk0 v1 s0 0 (g 0 8) g hf
  · have hf := oin c6 hf
    refine r_iconst (v := 1) 104 C dX5_takesOrder_103 rfl (by decide) ?_
    refine r_goto 108 C dX5_takesOrder_104 rfl ?_
    refine r_sub [(0, .ref (G.2.1 0)), (1, .int v1), (2, .int s0)] [1, 2, 0] rfl ?_
    exact t_X5_takesOrder_J108 C hr hk0 v1 s0 1 (g 0 8) g hf
set_option maxRecDepth 100000 in
set_option maxHeartbeats 4000000 in
theorem c_X5_takesOrder (l : Launch) (G : GG) (A : Nat → Prop)   (g : Mem) (res : Bool × Mem) (hf : f_X5_takesOrder  g = some res) : k_Mi l yX5_takesOrder wsX5_takesOrder rm_X5_takesOrder G shM A [.ref (G.2.1 0)] g (bI res.1) res.2 := by
  have hinX5 : ∀ w ∈ wsX50, w ∈ wsX5_takesOrder := in_X5_takesOrder_X5
  refine k_ofi (cc := cX5_takesOrder) (nL := 3) (own := RX5) (by decide +kernel) rfl rfl (by simp [lg_sl, Value.category]) ⟨rfl, rfl⟩ [(0, .ref (G.2.1 0))] rfl ?_
  intro p e s m args below meth c C hr hk0
  rw [f_X5_takesOrder] at hf
  refine r_aload_n 1 C 0 dX5_takesOrder_0 rfl rfl ?_
  refine r_geti 4 C (k := 8) shM_0 rfl hinX5 (by decide) rfl dX5_takesOrder_1 rfl (by decide +kernel) ?_
  refine r_aload_n 5 C 0 dX5_takesOrder_4 rfl rfl ?_
  refine r_geti 8 C (k := 6) shM_0 rfl hinX5 (by decide) rfl dX5_takesOrder_5 rfl (by decide +kernel) ?_
  refine r_icmp_ne 13 11 C dX5_takesOrder_8 rfl rfl (fun c1 => ?_) (fun c1 => ?_)
  · have hf := oin c1 hf
    refine r_aload_n 14 C 0 dX5_takesOrder_13 rfl rfl ?_
    refine r_getr 17 C (k := 7) shM_0 rfl hinX5 (by decide) rfl dX5_takesOrder_14 rfl (by decide +kernel) ?_
    refine r_aload_n 18 C 0 dX5_takesOrder_17 rfl rfl ?_
    refine r_geti 21 C (k := 8) shM_0 rfl hinX5 (by decide) rfl dX5_takesOrder_18 rfl (by decide +kernel) ?_
    obtain ⟨x2, hx2, hf⟩ := ob hf
    refine r_caload 22 C shM_4 dX5_takesOrder_21 rfl hx2 ?_
    refine r_istore_n 23 C [(1, .int x2), (0, .ref (G.2.1 0))] dX5_takesOrder_22 rfl rfl (by decide) rfl ?_
    refine r_aload_n 24 C 1 dX5_takesOrder_23 rfl rfl ?_
    refine r_getr 27 C (k := 9) shM_0 rfl hinX5 (by decide) rfl dX5_takesOrder_24 rfl (by decide +kernel) ?_
    refine r_iconst (v := 5) 28 C dX5_takesOrder_27 rfl (by decide) ?_
    refine r_aload_n 29 C 1 dX5_takesOrder_28 rfl rfl ?_
    refine r_geti 32 C (k := 10) shM_0 rfl hinX5 (by decide) rfl dX5_takesOrder_29 rfl (by decide +kernel) ?_
    refine r_imul 33 C dX5_takesOrder_32 rfl ?_
    refine r_iload_n 34 C 0 dX5_takesOrder_33 rfl rfl ?_
    obtain ⟨g3, hg3, hf⟩ := ob hf
    refine r_iastore 35 C shM_5 dX5_takesOrder_34 rfl hg3 ?_
    refine r_aload_n 36 C 1 dX5_takesOrder_35 rfl rfl ?_
    refine r_getr 39 C (k := 9) shM_0 rfl hinX5 (by decide) rfl dX5_takesOrder_36 rfl (by decide +kernel) ?_
    refine r_iconst (v := 5) 40 C dX5_takesOrder_39 rfl (by decide) ?_
    refine r_aload_n 41 C 1 dX5_takesOrder_40 rfl rfl ?_
    refine r_geti 44 C (k := 10) shM_0 rfl hinX5 (by decide) rfl dX5_takesOrder_41 rfl (by decide +kernel) ?_
    refine r_imul 45 C dX5_takesOrder_44 rfl ?_
    refine r_iconst (v := 4) 46 C dX5_takesOrder_45 rfl (by decide) ?_
    refine r_iadd 47 C dX5_takesOrder_46 rfl ?_
    refine r_aload_n 48 C 1 dX5_takesOrder_47 rfl rfl ?_
    refine r_geti 51 C (k := 8) shM_0 rfl hinX5 (by decide) rfl dX5_takesOrder_48 rfl (by decide +kernel) ?_
    obtain ⟨g4, hg4, hf⟩ := ob hf
    refine r_iastore 52 C shM_5 dX5_takesOrder_51 rfl hg4 ?_
    refine r_iload_n 53 C 0 dX5_takesOrder_52 rfl rfl ?_
    refine r_bipush (v := 110) 55 C dX5_takesOrder_53 rfl (by decide) ?_
    refine r_icmp_eq 88 58 C dX5_takesOrder_55 rfl rfl (fun c5 => ?_) (fun c5 => ?_)
    · have hf := oip c5 hf
      refine r_iconst (v := 1) 89 C dX5_takesOrder_88 rfl (by decide) ?_
      refine r_goto 93 C dX5_takesOrder_89 rfl ?_
      refine r_sub [(0, .ref (G.2.1 0)), (1, .int x2)] [1, 0] rfl ?_
      exact t_X5_takesOrder_J93 C hr hk0 x2 1 g4 hf
    · have hf := oin c5 hf
      refine r_iload_n 59 C 0 dX5_takesOrder_58 rfl rfl ?_
      refine r_bipush (v := 121) 61 C dX5_takesOrder_59 rfl (by decide) ?_
      refine r_icmp_eq 88 64 C dX5_takesOrder_61 rfl rfl (fun c39 => ?_) (fun c39 => ?_)
      · have hf := oip c39 hf
        refine r_iconst (v := 1) 89 C dX5_takesOrder_88 rfl (by decide) ?_
        refine r_goto 93 C dX5_takesOrder_89 rfl ?_
        refine r_sub [(0, .ref (G.2.1 0)), (1, .int x2)] [1, 0] rfl ?_
        exact t_X5_takesOrder_J93 C hr hk0 x2 1 g4 hf
      · have hf := oin c39 hf
        refine r_iload_n 65 C 0 dX5_takesOrder_64 rfl rfl ?_
        refine r_bipush (v := 118) 67 C dX5_takesOrder_65 rfl (by decide) ?_
        refine r_icmp_eq 88 70 C dX5_takesOrder_67 rfl rfl (fun c40 => ?_) (fun c40 => ?_)
        · have hf := oip c40 hf
          refine r_iconst (v := 1) 89 C dX5_takesOrder_88 rfl (by decide) ?_
          refine r_goto 93 C dX5_takesOrder_89 rfl ?_
          refine r_sub [(0, .ref (G.2.1 0)), (1, .int x2)] [1, 0] rfl ?_
          exact t_X5_takesOrder_J93 C hr hk0 x2 1 g4 hf
        · have hf := oin c40 hf
          refine r_iload_n 71 C 0 dX5_takesOrder_70 rfl rfl ?_
          refine r_bipush (v := 97) 73 C dX5_takesOrder_71 rfl (by decide) ?_
          refine r_icmp_eq 88 76 C dX5_takesOrder_73 rfl rfl (fun c41 => ?_) (fun c41 => ?_)
          · have hf := oip c41 hf
            refine r_iconst (v := 1) 89 C dX5_takesOrder_88 rfl (by decide) ?_
            refine r_goto 93 C dX5_takesOrder_89 rfl ?_
            refine r_sub [(0, .ref (G.2.1 0)), (1, .int x2)] [1, 0] rfl ?_
            exact t_X5_takesOrder_J93 C hr hk0 x2 1 g4 hf
          · have hf := oin c41 hf
            refine r_iload_n 77 C 0 dX5_takesOrder_76 rfl rfl ?_
            refine r_bipush (v := 100) 79 C dX5_takesOrder_77 rfl (by decide) ?_
            refine r_icmp_eq 88 82 C dX5_takesOrder_79 rfl rfl (fun c42 => ?_) (fun c42 => ?_)
            · have hf := oip c42 hf
              refine r_iconst (v := 1) 89 C dX5_takesOrder_88 rfl (by decide) ?_
              refine r_goto 93 C dX5_takesOrder_89 rfl ?_
              refine r_sub [(0, .ref (G.2.1 0)), (1, .int x2)] [1, 0] rfl ?_
              exact t_X5_takesOrder_J93 C hr hk0 x2 1 g4 hf
            · have hf := oin c42 hf
              refine r_iload_n 83 C 0 dX5_takesOrder_82 rfl rfl ?_
              refine r_bipush (v := 117) 85 C dX5_takesOrder_83 rfl (by decide) ?_
              refine r_icmp_ne 92 88 C dX5_takesOrder_85 rfl rfl (fun c43 => ?_) (fun c43 => ?_)
              · have hf := oin c43 hf
                refine r_iconst (v := 0) 93 C dX5_takesOrder_92 rfl (by decide) ?_
                refine r_sub [(0, .ref (G.2.1 0)), (1, .int x2)] [1, 0] rfl ?_
                exact t_X5_takesOrder_J93 C hr hk0 x2 0 g4 hf
              · have hf := oip c43 hf
                refine r_iconst (v := 1) 89 C dX5_takesOrder_88 rfl (by decide) ?_
                refine r_goto 93 C dX5_takesOrder_89 rfl ?_
                refine r_sub [(0, .ref (G.2.1 0)), (1, .int x2)] [1, 0] rfl ?_
                exact t_X5_takesOrder_J93 C hr hk0 x2 1 g4 hf
  · have hf := oip c1 hf
    refine r_iconst (v := 0) 12 C dX5_takesOrder_11 rfl (by decide) ?_
    have hf := Option.some.inj hf
    subst hf
    exact r_zret C hr hk0 false rfl dX5_takesOrder_12
theorem in_X5_isRead_X5 : ∀ w ∈ wsX50, w ∈ wsX5_isRead := by decide +kernel
def rm_X5_isRead : Room := { frames := 4, cells := 0, slots := 0, locals := 90 }
theorem hd_X5_isRead : yX5_isRead.cls = RX5 ∧ yX5_isRead.cls ≠ "java/lang/invoke/MethodHandle" ∧ yX5_isRead.cls ≠ "java/lang/invoke/VarHandle" ∧ (parseMethodDescriptor yX5_isRead.desc).map (fun d => d.parameters.length) = some 0 := by decide +kernel
set_option maxRecDepth 100000 in
set_option maxHeartbeats 4000000 in
theorem t_X5_isRead_L12 {p : Program} {l : Launch} {e : Env} {s : State} {m : MethodId} {args : Array Value} {below : List Frame} {meth : Method} {c : Code} {G : GG} {A : Nat → Prop} (C : KX p s m args c cX5_isRead 2 RX5 wsX5_isRead G shM A) (hr : meth.sig.returnType = (some .boolean)) (hk0 : meth.locks = false)  {res : Bool × Mem} {k : Mem → Option (Bool × Mem)} (hk : ∀ (g : Mem), k g = some res → JJ p l e rm_X5_isRead s m args below meth c 2 G shM A (MQ below (k_Qi G shM A (bI res.1) res.2) args s 0 0 A) 93 [] [] g) : ∀ (n : Nat) (v1 : Int32) (g : Mem), f_X5_isRead_L12 k n v1 g = some res → JJ p l e rm_X5_isRead s m args below meth c 2 G shM A (MQ below (k_Qi G shM A (bI res.1) res.2) args s 0 0 A) 12 [(0, .ref (G.2.1 0)), (1, .int v1)] [] g := by
  have hinX5 : ∀ w ∈ wsX50, w ∈ wsX5_isRead := in_X5_isRead_X5
  intro n
  induction n with
  | zero =>
    intro v1 g hf
    rw [f_X5_isRead_L12] at hf
    cases hf
  | succ n ih =>
    intro v1 g hf
    rw [f_X5_isRead_L12] at hf
    refine r_iload_n 13 C 1 dX5_isRead_12 rfl rfl ?_
    refine r_if_eq 93 16 C dX5_isRead_13 rfl rfl (fun c3 => ?_) (fun c3 => ?_)
    · have hf := oip c3 hf
      refine r_sub [] [] rfl ?_
      exact hk  _ hf
    · have hf := oin c3 hf
      refine r_aload_n 17 C 0 dX5_isRead_16 rfl rfl ?_
      obtain ⟨x4, g5, hx4, hf⟩ := ob2 hf
      refine r_Vi (As := []) 20 C shM_0 rfl (c_X5_takesOrder l G A g _ hx4) (cwV 0 C.1.2.2.2.2 gX5_isRead_X5_takesOrder rfl rfl rfl hd_X5_takesOrder ⟨Nat.le_of_ble_eq_true rfl, Nat.le_of_ble_eq_true rfl⟩) rfl rfl (Nat.le_of_ble_eq_true rfl) dX5_isRead_17 rfl ?_
      refine r_if_ne 25 23 C dX5_isRead_20 rfl rfl (fun c6 => ?_) (fun c6 => ?_)
      · have hf := obt c6 hf
        refine r_aload_n 26 C 0 dX5_isRead_25 rfl rfl ?_
        refine r_dup 27 C dX5_isRead_26 rfl rfl ?_
        refine r_geti 30 C (k := 10) shM_0 rfl hinX5 (by decide) rfl dX5_isRead_27 rfl (by decide +kernel) ?_
        refine r_iconst (v := 1) 31 C dX5_isRead_30 rfl (by decide) ?_
        refine r_iadd 32 C dX5_isRead_31 rfl ?_
        obtain ⟨g7, hg7, hf⟩ := ol hf
        refine r_puti 35 C (k := 10) (ty := .int) tyX5 tyX5_ok nmX5 shM_0 rfl hinX5 (by decide) rfl rfl (by decide +kernel) rfl rfl hg7 dX5_isRead_32 rfl (by decide +kernel) ?_
        refine r_aload_n 36 C 0 dX5_isRead_35 rfl rfl ?_
        refine r_geti 39 C (k := 8) shM_0 rfl hinX5 (by decide) rfl dX5_isRead_36 rfl (by decide +kernel) ?_
        refine r_aload_n 40 C 0 dX5_isRead_39 rfl rfl ?_
        refine r_geti 43 C (k := 6) shM_0 rfl hinX5 (by decide) rfl dX5_isRead_40 rfl (by decide +kernel) ?_
        refine r_icmp_ge 50 46 C dX5_isRead_43 rfl rfl (fun c8 => ?_) (fun c8 => ?_)
        · have hf := oip c8 hf
          refine r_iconst (v := 0) 51 C dX5_isRead_50 rfl (by decide) ?_
          refine r_istore_n 52 C [(1, .int 0), (0, .ref (G.2.1 0))] dX5_isRead_51 rfl rfl (by decide) rfl ?_
          refine r_iload_n 53 C 0 dX5_isRead_52 rfl rfl ?_
          refine r_if_eq 72 56 C dX5_isRead_53 rfl rfl (fun _ => ?_) (fun c => by first | exact absurd c (by decide) | exact absurd (by decide) c)
          refine r_aload_n 73 C 1 dX5_isRead_72 rfl rfl ?_
          refine r_dup 74 C dX5_isRead_73 rfl rfl ?_
          refine r_geti 77 C (k := 8) shM_0 rfl hinX5 (by decide) rfl dX5_isRead_74 rfl (by decide +kernel) ?_
          refine r_iload_n 78 C 0 dX5_isRead_77 rfl rfl ?_
          refine r_if_eq 85 81 C dX5_isRead_78 rfl rfl (fun _ => ?_) (fun c => by first | exact absurd c (by decide) | exact absurd (by decide) c)
          refine r_iconst (v := 0) 86 C dX5_isRead_85 rfl (by decide) ?_
          refine r_iadd 87 C dX5_isRead_86 rfl ?_
          obtain ⟨g11, hg11, hf⟩ := ol hf
          refine r_puti 90 C (k := 8) (ty := .int) tyX5 tyX5_ok nmX5 shM_0 rfl hinX5 (by decide) rfl rfl (by decide +kernel) rfl rfl hg11 dX5_isRead_87 rfl (by decide +kernel) ?_
          refine r_goto 12 C dX5_isRead_90 rfl ?_
          refine r_sub [(0, .ref (G.2.1 0)), (1, .int 0)] [1, 0] rfl ?_
          exact ih _ _ hf
        · have hf := oin c8 hf
          refine r_iconst (v := 1) 47 C dX5_isRead_46 rfl (by decide) ?_
          refine r_goto 51 C dX5_isRead_47 rfl ?_
          refine r_istore_n 52 C [(1, .int 1), (0, .ref (G.2.1 0))] dX5_isRead_51 rfl rfl (by decide) rfl ?_
          refine r_iload_n 53 C 0 dX5_isRead_52 rfl rfl ?_
          refine r_if_eq 72 56 C dX5_isRead_53 rfl rfl (fun c => by first | exact absurd c (by decide) | exact absurd (by decide) c) (fun _ => ?_)
          refine r_aload_n 57 C 1 dX5_isRead_56 rfl rfl ?_
          refine r_getr 60 C (k := 7) shM_0 rfl hinX5 (by decide) rfl dX5_isRead_57 rfl (by decide +kernel) ?_
          refine r_aload_n 61 C 1 dX5_isRead_60 rfl rfl ?_
          refine r_geti 64 C (k := 8) shM_0 rfl hinX5 (by decide) rfl dX5_isRead_61 rfl (by decide +kernel) ?_
          obtain ⟨x13, hx13, hf⟩ := ob hf
          refine r_caload 65 C shM_4 dX5_isRead_64 rfl hx13 ?_
          refine r_bipush (v := 59) 67 C dX5_isRead_65 rfl (by decide) ?_
          refine r_icmp_eq 72 70 C dX5_isRead_67 rfl rfl (fun c14 => ?_) (fun c14 => ?_)
          · have hf := oip c14 hf
            refine r_aload_n 73 C 1 dX5_isRead_72 rfl rfl ?_
            refine r_dup 74 C dX5_isRead_73 rfl rfl ?_
            refine r_geti 77 C (k := 8) shM_0 rfl hinX5 (by decide) rfl dX5_isRead_74 rfl (by decide +kernel) ?_
            refine r_iload_n 78 C 0 dX5_isRead_77 rfl rfl ?_
            refine r_if_eq 85 81 C dX5_isRead_78 rfl rfl (fun c => by first | exact absurd c (by decide) | exact absurd (by decide) c) (fun _ => ?_)
            refine r_iconst (v := 1) 82 C dX5_isRead_81 rfl (by decide) ?_
            refine r_goto 86 C dX5_isRead_82 rfl ?_
            refine r_iadd 87 C dX5_isRead_86 rfl ?_
            obtain ⟨g16, hg16, hf⟩ := ol hf
            refine r_puti 90 C (k := 8) (ty := .int) tyX5 tyX5_ok nmX5 shM_0 rfl hinX5 (by decide) rfl rfl (by decide +kernel) rfl rfl hg16 dX5_isRead_87 rfl (by decide +kernel) ?_
            refine r_goto 12 C dX5_isRead_90 rfl ?_
            refine r_sub [(0, .ref (G.2.1 0)), (1, .int 1)] [1, 0] rfl ?_
            exact ih _ _ hf
          · have hf := oin c14 hf
            refine r_iconst (v := 0) 71 C dX5_isRead_70 rfl (by decide) ?_
            have hf := Option.some.inj hf
            subst hf
            exact r_zret C hr hk0 false rfl dX5_isRead_71
      · have hf := obf c6 hf
        refine r_iconst (v := 0) 24 C dX5_isRead_23 rfl (by decide) ?_
        have hf := Option.some.inj hf
        subst hf
        exact r_zret C hr hk0 false rfl dX5_isRead_24
set_option maxRecDepth 100000 in
set_option maxHeartbeats 4000000 in
theorem c_X5_isRead (l : Launch) (G : GG) (A : Nat → Prop)   (g : Mem) (res : Bool × Mem) (hf : f_X5_isRead  g = some res) : k_Mi l yX5_isRead wsX5_isRead rm_X5_isRead G shM A [.ref (G.2.1 0)] g (bI res.1) res.2 := by
  have hinX5 : ∀ w ∈ wsX50, w ∈ wsX5_isRead := in_X5_isRead_X5
  refine k_ofi (cc := cX5_isRead) (nL := 2) (own := RX5) (by decide +kernel) rfl rfl (by simp [lg_sl, Value.category]) ⟨rfl, rfl⟩ [(0, .ref (G.2.1 0))] rfl ?_
  intro p e s m args below meth c C hr hk0
  rw [f_X5_isRead] at hf
  refine r_aload_n 1 C 0 dX5_isRead_0 rfl rfl ?_
  refine r_iconst (v := 0) 2 C dX5_isRead_1 rfl (by decide) ?_
  obtain ⟨g1, hg1, hf⟩ := ol hf
  refine r_puti 5 C (k := 8) (ty := .int) tyX5 tyX5_ok nmX5 shM_0 rfl hinX5 (by decide) rfl rfl (by decide +kernel) rfl rfl hg1 dX5_isRead_2 rfl (by decide +kernel) ?_
  refine r_aload_n 6 C 0 dX5_isRead_5 rfl rfl ?_
  refine r_iconst (v := 0) 7 C dX5_isRead_6 rfl (by decide) ?_
  obtain ⟨g2, hg2, hf⟩ := ol hf
  refine r_puti 10 C (k := 10) (ty := .int) tyX5 tyX5_ok nmX5 shM_0 rfl hinX5 (by decide) rfl rfl (by decide +kernel) rfl rfl hg2 dX5_isRead_7 rfl (by decide +kernel) ?_
  refine r_iconst (v := 1) 11 C dX5_isRead_10 rfl (by decide) ?_
  refine r_istore_n 12 C [(1, .int 1), (0, .ref (G.2.1 0))] dX5_isRead_11 rfl rfl (by decide) rfl ?_
  refine r_sub [(0, .ref (G.2.1 0)), (1, .int 1)] [1, 0] rfl ?_
  refine t_X5_isRead_L12 C hr hk0 (fun g17 hf => ?_) fuel0 _ _ hf
  refine r_iconst (v := 1) 94 C dX5_isRead_93 rfl (by decide) ?_
  have hf := Option.some.inj hf
  subst hf
  exact r_zret C hr hk0 true rfl dX5_isRead_94
theorem in_X5_does_X5 : ∀ w ∈ wsX50, w ∈ wsX5_does := by decide +kernel
def rm_X5_does : Room := { frames := 6, cells := 0, slots := 0, locals := 133 }
theorem hd_X5_does : yX5_does.cls = RX5 ∧ yX5_does.cls ≠ "java/lang/invoke/MethodHandle" ∧ yX5_does.cls ≠ "java/lang/invoke/VarHandle" ∧ (parseMethodDescriptor yX5_does.desc).map (fun d => d.parameters.length) = some 1 := by decide +kernel
set_option maxRecDepth 100000 in
set_option maxHeartbeats 4000000 in
theorem c_X5_does (l : Launch) (G : GG) (A : Nat → Prop) (a1 : Int32)  (g : Mem) (res : Int32 × Mem) (hf : f_X5_does a1 g = some res) : k_Mi l yX5_does wsX5_does rm_X5_does G shM A [.ref (G.2.1 0), .int a1] g res.1 res.2 := by
  have hinX5 : ∀ w ∈ wsX50, w ∈ wsX5_does := in_X5_does_X5
  refine k_ofi (cc := cX5_does) (nL := 5) (own := RX5) (by decide +kernel) rfl rfl (by simp [lg_sl, Value.category]) ⟨rfl, rfl⟩ [(0, .ref (G.2.1 0)), (1, .int a1)] rfl ?_
  intro p e s m args below meth c C hr hk0
  rw [f_X5_does] at hf
  refine r_aload_n 1 C 0 dX5_does_0 rfl rfl ?_
  refine r_getr 4 C (k := 9) shM_0 rfl hinX5 (by decide) rfl dX5_does_1 rfl (by decide +kernel) ?_
  refine r_iconst (v := 5) 5 C dX5_does_4 rfl (by decide) ?_
  refine r_iload_n 6 C 1 dX5_does_5 rfl rfl ?_
  refine r_imul 7 C dX5_does_6 rfl ?_
  refine r_iconst (v := 1) 8 C dX5_does_7 rfl (by decide) ?_
  refine r_iadd 9 C dX5_does_8 rfl ?_
  obtain ⟨x1, hx1, hf⟩ := ob hf
  refine r_iaload 10 C shM_5 dX5_does_9 rfl hx1 ?_
  refine r_istore_n 11 C [(2, .int x1), (0, .ref (G.2.1 0)), (1, .int a1)] dX5_does_10 rfl rfl (by decide) rfl ?_
  refine r_aload_n 12 C 1 dX5_does_11 rfl rfl ?_
  refine r_getr 15 C (k := 9) shM_0 rfl hinX5 (by decide) rfl dX5_does_12 rfl (by decide +kernel) ?_
  refine r_iconst (v := 5) 16 C dX5_does_15 rfl (by decide) ?_
  refine r_iload_n 17 C 2 dX5_does_16 rfl rfl ?_
  refine r_imul 18 C dX5_does_17 rfl ?_
  refine r_iconst (v := 2) 19 C dX5_does_18 rfl (by decide) ?_
  refine r_iadd 20 C dX5_does_19 rfl ?_
  obtain ⟨x2, hx2, hf⟩ := ob hf
  refine r_iaload 21 C shM_5 dX5_does_20 rfl hx2 ?_
  refine r_istore_n 22 C [(3, .int x2), (2, .int x1), (0, .ref (G.2.1 0)), (1, .int a1)] dX5_does_21 rfl rfl (by decide) rfl ?_
  refine r_aload_n 23 C 2 dX5_does_22 rfl rfl ?_
  refine r_getr 26 C (k := 9) shM_0 rfl hinX5 (by decide) rfl dX5_does_23 rfl (by decide +kernel) ?_
  refine r_iconst (v := 5) 27 C dX5_does_26 rfl (by decide) ?_
  refine r_iload_n 28 C 3 dX5_does_27 rfl rfl ?_
  refine r_imul 29 C dX5_does_28 rfl ?_
  refine r_iconst (v := 3) 30 C dX5_does_29 rfl (by decide) ?_
  refine r_iadd 31 C dX5_does_30 rfl ?_
  obtain ⟨x3, hx3, hf⟩ := ob hf
  refine r_iaload 32 C shM_5 dX5_does_31 rfl hx3 ?_
  refine r_istore 34 C [(4, .int x3), (3, .int x2), (2, .int x1), (0, .ref (G.2.1 0)), (1, .int a1)] dX5_does_32 rfl rfl (by decide) rfl ?_
  refine r_aload_n 35 C 3 dX5_does_34 rfl rfl ?_
  refine r_getr 38 C (k := 9) shM_0 rfl hinX5 (by decide) rfl dX5_does_35 rfl (by decide +kernel) ?_
  refine r_iconst (v := 5) 39 C dX5_does_38 rfl (by decide) ?_
  refine r_iload_n 40 C 4 dX5_does_39 rfl rfl ?_
  refine r_imul 41 C dX5_does_40 rfl ?_
  obtain ⟨x4, hx4, hf⟩ := ob hf
  refine r_iaload 42 C shM_5 dX5_does_41 rfl hx4 ?_
  by_cases c7 : x4 = 97
  · have hf := oip c7 hf
    refine r_lookup 106 C (off := 64) dX5_does_42 (by decide) (by rw [c7]; rfl) rfl ?_
    refine r_aload_n 107 C 3 dX5_does_106 rfl rfl ?_
    refine r_iload_n 108 C 2 dX5_does_107 rfl rfl ?_
    refine r_iload_n 109 C 1 dX5_does_108 rfl rfl ?_
    refine r_iload 111 C 0 dX5_does_109 rfl rfl ?_
    obtain ⟨x5, g6, hx5, hf⟩ := ob2 hf
    refine r_Vi (As := [.int x1, .int x2, .int x3]) 114 C shM_0 rfl (c_X5_vote l G A x1 x2 x3 g _ hx5) (cwV 3 C.1.2.2.2.2 gX5_does_X5_vote rfl rfl rfl hd_X5_vote ⟨Nat.le_of_ble_eq_true rfl, Nat.le_of_ble_eq_true rfl⟩) rfl rfl (Nat.le_of_ble_eq_true rfl) dX5_does_111 rfl ?_
    have hf := Option.some.inj hf
    subst hf
    exact r_iret C hr hk0 dX5_does_114
  have hf := oin c7 hf
  by_cases c10 : x4 = 110
  · have hf := oip c10 hf
    refine r_lookup 84 C (off := 42) dX5_does_42 (by decide) (by rw [c10]; rfl) rfl ?_
    refine r_aload_n 85 C 3 dX5_does_84 rfl rfl ?_
    refine r_iload_n 86 C 2 dX5_does_85 rfl rfl ?_
    obtain ⟨x8, g9, hx8, hf⟩ := ob2 hf
    refine r_Vi (As := [.int x1]) 89 C shM_0 rfl (c_X5_prepare l G A x1 g _ hx8) (cwV 1 C.1.2.2.2.2 gX5_does_X5_prepare rfl rfl rfl hd_X5_prepare ⟨Nat.le_of_ble_eq_true rfl, Nat.le_of_ble_eq_true rfl⟩) rfl rfl (Nat.le_of_ble_eq_true rfl) dX5_does_86 rfl ?_
    have hf := Option.some.inj hf
    subst hf
    exact r_iret C hr hk0 dX5_does_89
  have hf := oin c10 hf
  by_cases c13 : x4 = 118
  · have hf := oip c13 hf
    refine r_lookup 97 C (off := 55) dX5_does_42 (by decide) (by rw [c13]; rfl) rfl ?_
    refine r_aload_n 98 C 3 dX5_does_97 rfl rfl ?_
    refine r_iload_n 99 C 2 dX5_does_98 rfl rfl ?_
    refine r_iload_n 100 C 1 dX5_does_99 rfl rfl ?_
    refine r_iload 102 C 0 dX5_does_100 rfl rfl ?_
    obtain ⟨x11, g12, hx11, hf⟩ := ob2 hf
    refine r_Vi (As := [.int x1, .int x2, .int x3]) 105 C shM_0 rfl (c_X5_propose l G A x1 x2 x3 g _ hx11) (cwV 3 C.1.2.2.2.2 gX5_does_X5_propose rfl rfl rfl hd_X5_propose ⟨Nat.le_of_ble_eq_true rfl, Nat.le_of_ble_eq_true rfl⟩) rfl rfl (Nat.le_of_ble_eq_true rfl) dX5_does_102 rfl ?_
    have hf := Option.some.inj hf
    subst hf
    exact r_iret C hr hk0 dX5_does_105
  have hf := oin c13 hf
  by_cases c16 : x4 = 121
  · have hf := oip c16 hf
    refine r_lookup 90 C (off := 48) dX5_does_42 (by decide) (by rw [c16]; rfl) rfl ?_
    refine r_aload_n 91 C 3 dX5_does_90 rfl rfl ?_
    refine r_iload_n 92 C 2 dX5_does_91 rfl rfl ?_
    refine r_iload_n 93 C 1 dX5_does_92 rfl rfl ?_
    obtain ⟨x14, g15, hx14, hf⟩ := ob2 hf
    refine r_Vi (As := [.int x1, .int x2]) 96 C shM_0 rfl (c_X5_promise l G A x1 x2 g _ hx14) (cwV 2 C.1.2.2.2.2 gX5_does_X5_promise rfl rfl rfl hd_X5_promise ⟨Nat.le_of_ble_eq_true rfl, Nat.le_of_ble_eq_true rfl⟩) rfl rfl (Nat.le_of_ble_eq_true rfl) dX5_does_93 rfl ?_
    have hf := Option.some.inj hf
    subst hf
    exact r_iret C hr hk0 dX5_does_96
  have hf := oin c16 hf
  refine r_lookup 115 C (off := 73) dX5_does_42 (by decide) (by
    simp only [Op.lookupswitch.offset_cons, Op.lookupswitch.offset_nil]
    rw [if_neg (ne_i c7 (by decide))]
    rw [if_neg (ne_i c10 (by decide))]
    rw [if_neg (ne_i c13 (by decide))]
    rw [if_neg (ne_i c16 (by decide))]) rfl ?_
  refine r_aload_n 116 C 3 dX5_does_115 rfl rfl ?_
  refine r_iload_n 117 C 2 dX5_does_116 rfl rfl ?_
  refine r_aload_n 118 C 3 dX5_does_117 rfl rfl ?_
  refine r_getr 121 C (k := 9) shM_0 rfl hinX5 (by decide) rfl dX5_does_118 rfl (by decide +kernel) ?_
  refine r_iconst (v := 5) 122 C dX5_does_121 rfl (by decide) ?_
  refine r_iload_n 123 C 4 dX5_does_122 rfl rfl ?_
  refine r_imul 124 C dX5_does_123 rfl ?_
  obtain ⟨x17, hx17, hf⟩ := ob hf
  refine r_iaload 125 C shM_5 dX5_does_124 rfl hx17 ?_
  refine r_bipush (v := 117) 127 C dX5_does_125 rfl (by decide) ?_
  refine r_icmp_ne 134 130 C dX5_does_127 rfl rfl (fun c18 => ?_) (fun c18 => ?_)
  · have hf := oin c18 hf
    refine r_iconst (v := 0) 135 C dX5_does_134 rfl (by decide) ?_
    obtain ⟨x19, g20, hx19, hf⟩ := ob2 hf
    refine r_Vi (As := [.int x1, .int 0]) 138 C shM_0 rfl (c_X5_setUp l G A x1 false g _ hx19) (cwV 2 C.1.2.2.2.2 gX5_does_X5_setUp rfl rfl rfl hd_X5_setUp ⟨Nat.le_of_ble_eq_true rfl, Nat.le_of_ble_eq_true rfl⟩) rfl rfl (Nat.le_of_ble_eq_true rfl) dX5_does_135 rfl ?_
    have hf := Option.some.inj hf
    subst hf
    exact r_iret C hr hk0 dX5_does_138
  · have hf := oip c18 hf
    refine r_iconst (v := 1) 131 C dX5_does_130 rfl (by decide) ?_
    refine r_goto 135 C dX5_does_131 rfl ?_
    obtain ⟨x21, g22, hx21, hf⟩ := ob2 hf
    refine r_Vi (As := [.int x1, .int 1]) 138 C shM_0 rfl (c_X5_setUp l G A x1 true g _ hx21) (cwV 2 C.1.2.2.2.2 gX5_does_X5_setUp rfl rfl rfl hd_X5_setUp ⟨Nat.le_of_ble_eq_true rfl, Nat.le_of_ble_eq_true rfl⟩) rfl rfl (Nat.le_of_ble_eq_true rfl) dX5_does_135 rfl ?_
    have hf := Option.some.inj hf
    subst hf
    exact r_iret C hr hk0 dX5_does_138
theorem in_X5_perform_X5 : ∀ w ∈ wsX50, w ∈ wsX5_perform := by decide +kernel
def rm_X5_perform : Room := { frames := 7, cells := 0, slots := 0, locals := 157 }
theorem hd_X5_perform : yX5_perform.cls = RX5 ∧ yX5_perform.cls ≠ "java/lang/invoke/MethodHandle" ∧ yX5_perform.cls ≠ "java/lang/invoke/VarHandle" ∧ (parseMethodDescriptor yX5_perform.desc).map (fun d => d.parameters.length) = some 0 := by decide +kernel
set_option maxRecDepth 100000 in
set_option maxHeartbeats 4000000 in
theorem t_X5_perform_L36 {p : Program} {l : Launch} {e : Env} {s : State} {m : MethodId} {args : Array Value} {below : List Frame} {meth : Method} {c : Code} {G : GG} {A : Nat → Prop} (C : KX p s m args c cX5_perform 5 RX5 wsX5_perform G shM A) (hr : meth.sig.returnType = (some .int)) (hk0 : meth.locks = false)  {res : Int32 × Mem} {k : Int32 → Int32 → Mem → Option (Int32 × Mem)} (hk : ∀ (v1 : Int32) (v2 : Int32) (g : Mem), k v1 v2 g = some res → JJ p l e rm_X5_perform s m args below meth c 5 G shM A (MQ below (k_Qi G shM A res.1 res.2) args s 0 0 A) 66 [(0, .ref (G.2.1 0)), (1, .int v1), (2, .int v2)] [] g) : ∀ (n : Nat) (v1 : Int32) (v2 : Int32) (g : Mem), f_X5_perform_L36 k n v1 v2 g = some res → JJ p l e rm_X5_perform s m args below meth c 5 G shM A (MQ below (k_Qi G shM A res.1 res.2) args s 0 0 A) 36 [(0, .ref (G.2.1 0)), (1, .int v1), (2, .int v2)] [] g := by
  have hinX5 : ∀ w ∈ wsX50, w ∈ wsX5_perform := in_X5_perform_X5
  intro n
  induction n with
  | zero =>
    intro v1 v2 g hf
    rw [f_X5_perform_L36] at hf
    cases hf
  | succ n ih =>
    intro v1 v2 g hf
    rw [f_X5_perform_L36] at hf
    refine r_iload_n 37 C 2 dX5_perform_36 rfl rfl ?_
    refine r_aload_n 38 C 0 dX5_perform_37 rfl rfl ?_
    refine r_geti 41 C (k := 10) shM_0 rfl hinX5 (by decide) rfl dX5_perform_38 rfl (by decide +kernel) ?_
    refine r_icmp_ge 66 44 C dX5_perform_41 rfl rfl (fun c6 => ?_) (fun c6 => ?_)
    · have hf := oip c6 hf
      refine r_sub [(0, .ref (G.2.1 0)), (1, .int v1), (2, .int v2)] [0, 1, 2] rfl ?_
      exact hk _ _ _ hf
    · have hf := oin c6 hf
      refine r_iload_n 45 C 1 dX5_perform_44 rfl rfl ?_
      refine r_if_ge 54 48 C dX5_perform_45 rfl rfl (fun c7 => ?_) (fun c7 => ?_)
      · have hf := oip c7 hf
        refine r_aload_n 55 C 0 dX5_perform_54 rfl rfl ?_
        refine r_iload_n 56 C 2 dX5_perform_55 rfl rfl ?_
        obtain ⟨x8, g9, hx8, hf⟩ := ob2 hf
        refine r_Vi (As := [.int v2]) 59 C shM_0 rfl (c_X5_does l G A v2 g _ hx8) (cwV 1 C.1.2.2.2.2 gX5_perform_X5_does rfl rfl rfl hd_X5_does ⟨Nat.le_of_ble_eq_true rfl, Nat.le_of_ble_eq_true rfl⟩) rfl rfl (Nat.le_of_ble_eq_true rfl) dX5_perform_56 rfl ?_
        refine r_istore_n 60 C [(1, .int x8), (0, .ref (G.2.1 0)), (2, .int v2)] dX5_perform_59 rfl rfl (by decide) rfl ?_
        obtain ⟨x10, hx10, hf⟩ := ol hf
        refine r_iinc 63 C 2 x10 [(2, .int x10), (1, .int x8), (0, .ref (G.2.1 0))] dX5_perform_60 rfl rfl hx10.symm (by decide) rfl ?_
        refine r_goto 36 C dX5_perform_63 rfl ?_
        refine r_sub [(0, .ref (G.2.1 0)), (1, .int x8), (2, .int x10)] [2, 1, 0] rfl ?_
        exact ih _ _ _ hf
      · have hf := oin c7 hf
        refine r_iload_n 49 C 1 dX5_perform_48 rfl rfl ?_
        refine r_bipush (v := (-5)) 51 C dX5_perform_49 rfl (by decide) ?_
        refine r_icmp_ne 66 54 C dX5_perform_51 rfl rfl (fun c11 => ?_) (fun c11 => ?_)
        · have hf := oin c11 hf
          refine r_sub [(0, .ref (G.2.1 0)), (1, .int v1), (2, .int v2)] [0, 1, 2] rfl ?_
          exact hk _ _ _ hf
        · have hf := oip c11 hf
          refine r_aload_n 55 C 0 dX5_perform_54 rfl rfl ?_
          refine r_iload_n 56 C 2 dX5_perform_55 rfl rfl ?_
          obtain ⟨x12, g13, hx12, hf⟩ := ob2 hf
          refine r_Vi (As := [.int v2]) 59 C shM_0 rfl (c_X5_does l G A v2 g _ hx12) (cwV 1 C.1.2.2.2.2 gX5_perform_X5_does rfl rfl rfl hd_X5_does ⟨Nat.le_of_ble_eq_true rfl, Nat.le_of_ble_eq_true rfl⟩) rfl rfl (Nat.le_of_ble_eq_true rfl) dX5_perform_56 rfl ?_
          refine r_istore_n 60 C [(1, .int x12), (0, .ref (G.2.1 0)), (2, .int v2)] dX5_perform_59 rfl rfl (by decide) rfl ?_
          obtain ⟨x14, hx14, hf⟩ := ol hf
          refine r_iinc 63 C 2 x14 [(2, .int x14), (1, .int x12), (0, .ref (G.2.1 0))] dX5_perform_60 rfl rfl hx14.symm (by decide) rfl ?_
          refine r_goto 36 C dX5_perform_63 rfl ?_
          refine r_sub [(0, .ref (G.2.1 0)), (1, .int x12), (2, .int x14)] [2, 1, 0] rfl ?_
          exact ih _ _ _ hf
set_option maxRecDepth 100000 in
set_option maxHeartbeats 4000000 in
theorem t_X5_perform_L127 {p : Program} {l : Launch} {e : Env} {s : State} {m : MethodId} {args : Array Value} {below : List Frame} {meth : Method} {c : Code} {G : GG} {A : Nat → Prop} (C : KX p s m args c cX5_perform 5 RX5 wsX5_perform G shM A) (hr : meth.sig.returnType = (some .int)) (hk0 : meth.locks = false)  {res : Int32 × Mem} {k : Mem → Option (Int32 × Mem)} (hk : ∀ (g : Mem), k g = some res → JJ p l e rm_X5_perform s m args below meth c 5 G shM A (MQ below (k_Qi G shM A res.1 res.2) args s 0 0 A) 168 [(0, .ref (G.2.1 0))] [] g) : ∀ (n : Nat) (v3 : Int32) (g : Mem), f_X5_perform_L127 k n v3 g = some res → JJ p l e rm_X5_perform s m args below meth c 5 G shM A (MQ below (k_Qi G shM A res.1 res.2) args s 0 0 A) 127 [(0, .ref (G.2.1 0)), (3, .int v3)] [] g := by
  have hinX5 : ∀ w ∈ wsX50, w ∈ wsX5_perform := in_X5_perform_X5
  intro n
  induction n with
  | zero =>
    intro v3 g hf
    rw [f_X5_perform_L127] at hf
    cases hf
  | succ n ih =>
    intro v3 g hf
    rw [f_X5_perform_L127] at hf
    refine r_iload_n 128 C 1 dX5_perform_127 rfl rfl ?_
    refine r_sipush (v := 873) 131 C dX5_perform_128 rfl (by decide) ?_
    refine r_icmp_ge 168 134 C dX5_perform_131 rfl rfl (fun c20 => ?_) (fun c20 => ?_)
    · have hf := oip c20 hf
      refine r_sub [(0, .ref (G.2.1 0))] [0] rfl ?_
      exact hk  _ hf
    · have hf := oin c20 hf
      refine r_aload_n 135 C 0 dX5_perform_134 rfl rfl ?_
      refine r_getr 138 C (k := 0) shM_0 rfl hinX5 (by decide) rfl dX5_perform_135 rfl (by decide +kernel) ?_
      refine r_iload_n 139 C 1 dX5_perform_138 rfl rfl ?_
      obtain ⟨x21, hx21, hf⟩ := ob hf
      refine r_iaload 140 C shM_1 dX5_perform_139 rfl hx21 ?_
      refine r_istore 142 C [(4, .int x21), (0, .ref (G.2.1 0)), (3, .int v3)] dX5_perform_140 rfl rfl (by decide) rfl ?_
      refine r_aload_n 143 C 1 dX5_perform_142 rfl rfl ?_
      refine r_getr 146 C (k := 0) shM_0 rfl hinX5 (by decide) rfl dX5_perform_143 rfl (by decide +kernel) ?_
      refine r_iload_n 147 C 2 dX5_perform_146 rfl rfl ?_
      refine r_aload_n 148 C 1 dX5_perform_147 rfl rfl ?_
      refine r_getr 151 C (k := 14) shM_0 rfl hinX5 (by decide) rfl dX5_perform_148 rfl (by decide +kernel) ?_
      refine r_iload_n 152 C 2 dX5_perform_151 rfl rfl ?_
      obtain ⟨x22, hx22, hf⟩ := ob hf
      refine r_iaload 153 C shM_6 dX5_perform_152 rfl hx22 ?_
      obtain ⟨g23, hg23, hf⟩ := ob hf
      refine r_iastore 154 C shM_1 dX5_perform_153 rfl hg23 ?_
      refine r_aload_n 155 C 1 dX5_perform_154 rfl rfl ?_
      refine r_getr 158 C (k := 14) shM_0 rfl hinX5 (by decide) rfl dX5_perform_155 rfl (by decide +kernel) ?_
      refine r_iload_n 159 C 2 dX5_perform_158 rfl rfl ?_
      refine r_iload 161 C 0 dX5_perform_159 rfl rfl ?_
      obtain ⟨g24, hg24, hf⟩ := ob hf
      refine r_iastore 162 C shM_6 dX5_perform_161 rfl hg24 ?_
      obtain ⟨x25, hx25, hf⟩ := ol hf
      refine r_iinc 165 C 2 x25 [(3, .int x25), (4, .int x21), (0, .ref (G.2.1 0))] dX5_perform_162 rfl rfl hx25.symm (by decide) rfl ?_
      refine r_goto 127 C dX5_perform_165 rfl ?_
      refine r_sub [(0, .ref (G.2.1 0)), (3, .int x25)] [2, 0] rfl ?_
      exact ih _ _ hf
set_option maxRecDepth 100000 in
set_option maxHeartbeats 4000000 in
theorem c_X5_perform (l : Launch) (G : GG) (A : Nat → Prop)   (g : Mem) (res : Int32 × Mem) (hf : f_X5_perform  g = some res) : k_Mi l yX5_perform wsX5_perform rm_X5_perform G shM A [.ref (G.2.1 0)] g res.1 res.2 := by
  have hinX5 : ∀ w ∈ wsX50, w ∈ wsX5_perform := in_X5_perform_X5
  refine k_ofi (cc := cX5_perform) (nL := 5) (own := RX5) (by decide +kernel) rfl rfl (by simp [lg_sl, Value.category]) ⟨rfl, rfl⟩ [(0, .ref (G.2.1 0))] rfl ?_
  intro p e s m args below meth c C hr hk0
  rw [f_X5_perform] at hf
  refine r_aload_n 1 C 0 dX5_perform_0 rfl rfl ?_
  obtain ⟨x1, g2, hx1, hf⟩ := ob2 hf
  refine r_Vi (As := []) 4 C shM_0 rfl (c_X5_isRead l G A g _ hx1) (cwV 0 C.1.2.2.2.2 gX5_perform_X5_isRead rfl rfl rfl hd_X5_isRead ⟨Nat.le_of_ble_eq_true rfl, Nat.le_of_ble_eq_true rfl⟩) rfl rfl (Nat.le_of_ble_eq_true rfl) dX5_perform_1 rfl ?_
  refine r_if_ne 15 7 C dX5_perform_4 rfl rfl (fun c3 => ?_) (fun c3 => ?_)
  · have hf := obt c3 hf
    refine r_aload_n 16 C 0 dX5_perform_15 rfl rfl ?_
    refine r_aload_n 17 C 0 dX5_perform_16 rfl rfl ?_
    refine r_getr 20 C (k := 0) shM_0 rfl hinX5 (by decide) rfl dX5_perform_17 rfl (by decide +kernel) ?_
    refine r_aload_n 21 C 0 dX5_perform_20 rfl rfl ?_
    refine r_getr 24 C (k := 14) shM_0 rfl hinX5 (by decide) rfl dX5_perform_21 rfl (by decide +kernel) ?_
    obtain ⟨g4, hg4, hf⟩ := ob hf
    refine r_Vv (As := [.ref (G.2.1 1), .ref (G.2.1 6)]) 27 C shM_0 rfl (c_X5_copies l G A 1 6 shM_1 shM_6 g2 _ hg4) (cwV 2 C.1.2.2.2.2 gX5_perform_X5_copies rfl rfl rfl hd_X5_copies ⟨Nat.le_of_ble_eq_true rfl, Nat.le_of_ble_eq_true rfl⟩) rfl rfl (Nat.le_of_ble_eq_true rfl) dX5_perform_24 rfl ?_
    refine r_aload_n 28 C 0 dX5_perform_27 rfl rfl ?_
    refine r_iconst (v := 1) 29 C dX5_perform_28 rfl (by decide) ?_
    obtain ⟨g5, hg5, hf⟩ := ol hf
    refine r_puti 32 C (k := 5) (ty := .boolean) tyX5 tyX5_ok nmX5 shM_0 rfl hinX5 (by decide) rfl rfl (by decide +kernel) rfl rfl hg5 dX5_perform_29 rfl (by decide +kernel) ?_
    refine r_iconst (v := 0) 33 C dX5_perform_32 rfl (by decide) ?_
    refine r_istore_n 34 C [(1, .int 0), (0, .ref (G.2.1 0))] dX5_perform_33 rfl rfl (by decide) rfl ?_
    refine r_iconst (v := 0) 35 C dX5_perform_34 rfl (by decide) ?_
    refine r_istore_n 36 C [(2, .int 0), (1, .int 0), (0, .ref (G.2.1 0))] dX5_perform_35 rfl rfl (by decide) rfl ?_
    refine r_sub [(0, .ref (G.2.1 0)), (1, .int 0), (2, .int 0)] [2, 1, 0] rfl ?_
    refine t_X5_perform_L36 C hr hk0 (fun x15 x16 g17 hf => ?_) fuel0 _ _ _ hf
    refine r_aload_n 67 C 0 dX5_perform_66 rfl rfl ?_
    refine r_iconst (v := 0) 68 C dX5_perform_67 rfl (by decide) ?_
    obtain ⟨g18, hg18, hf⟩ := ol hf
    refine r_puti 71 C (k := 5) (ty := .boolean) tyX5 tyX5_ok nmX5 shM_0 rfl hinX5 (by decide) rfl rfl (by decide +kernel) rfl rfl hg18 dX5_perform_68 rfl (by decide +kernel) ?_
    refine r_iload_n 72 C 1 dX5_perform_71 rfl rfl ?_
    refine r_if_ge 125 75 C dX5_perform_72 rfl rfl (fun c19 => ?_) (fun c19 => ?_)
    · have hf := oip c19 hf
      refine r_iconst (v := 0) 126 C dX5_perform_125 rfl (by decide) ?_
      refine r_istore_n 127 C [(3, .int 0), (0, .ref (G.2.1 0)), (1, .int x15), (2, .int x16)] dX5_perform_126 rfl rfl (by decide) rfl ?_
      refine r_sub [(0, .ref (G.2.1 0)), (3, .int 0)] [1, 0] rfl ?_
      refine t_X5_perform_L127 C hr hk0 (fun g26 hf => ?_) fuel0 _ _ hf
      refine r_aload_n 169 C 0 dX5_perform_168 rfl rfl ?_
      obtain ⟨g27, hg27, hf⟩ := ob hf
      refine r_Vv (As := []) 172 C shM_0 rfl (c_X5_record l G A g26 _ hg27) (cwV 0 C.1.2.2.2.2 gX5_perform_X5_record rfl rfl rfl hd_X5_record ⟨Nat.le_of_ble_eq_true rfl, Nat.le_of_ble_eq_true rfl⟩) rfl rfl (Nat.le_of_ble_eq_true rfl) dX5_perform_169 rfl ?_
      refine r_aload_n 173 C 0 dX5_perform_172 rfl rfl ?_
      refine r_aload_n 174 C 0 dX5_perform_173 rfl rfl ?_
      refine r_getr 177 C (k := 14) shM_0 rfl hinX5 (by decide) rfl dX5_perform_174 rfl (by decide +kernel) ?_
      refine r_aload_n 178 C 0 dX5_perform_177 rfl rfl ?_
      refine r_getr 181 C (k := 0) shM_0 rfl hinX5 (by decide) rfl dX5_perform_178 rfl (by decide +kernel) ?_
      obtain ⟨g28, hg28, hf⟩ := ob hf
      refine r_Vv (As := [.ref (G.2.1 6), .ref (G.2.1 1)]) 184 C shM_0 rfl (c_X5_copies l G A 6 1 shM_6 shM_1 g27 _ hg28) (cwV 2 C.1.2.2.2.2 gX5_perform_X5_copies rfl rfl rfl hd_X5_copies ⟨Nat.le_of_ble_eq_true rfl, Nat.le_of_ble_eq_true rfl⟩) rfl rfl (Nat.le_of_ble_eq_true rfl) dX5_perform_181 rfl ?_
      refine r_aload_n 185 C 0 dX5_perform_184 rfl rfl ?_
      refine r_geti 188 C (k := 10) shM_0 rfl hinX5 (by decide) rfl dX5_perform_185 rfl (by decide +kernel) ?_
      have hf := Option.some.inj hf
      subst hf
      exact r_iret C hr hk0 dX5_perform_188
    · have hf := oin c19 hf
      refine r_iload_n 76 C 1 dX5_perform_75 rfl rfl ?_
      refine r_bipush (v := (-5)) 78 C dX5_perform_76 rfl (by decide) ?_
      refine r_icmp_eq 125 81 C dX5_perform_78 rfl rfl (fun c29 => ?_) (fun c29 => ?_)
      · have hf := oip c29 hf
        refine r_iconst (v := 0) 126 C dX5_perform_125 rfl (by decide) ?_
        refine r_istore_n 127 C [(3, .int 0), (0, .ref (G.2.1 0)), (1, .int x15), (2, .int x16)] dX5_perform_126 rfl rfl (by decide) rfl ?_
        refine r_sub [(0, .ref (G.2.1 0)), (3, .int 0)] [1, 0] rfl ?_
        refine t_X5_perform_L127 C hr hk0 (fun g30 hf => ?_) fuel0 _ _ hf
        refine r_aload_n 169 C 0 dX5_perform_168 rfl rfl ?_
        obtain ⟨g31, hg31, hf⟩ := ob hf
        refine r_Vv (As := []) 172 C shM_0 rfl (c_X5_record l G A g30 _ hg31) (cwV 0 C.1.2.2.2.2 gX5_perform_X5_record rfl rfl rfl hd_X5_record ⟨Nat.le_of_ble_eq_true rfl, Nat.le_of_ble_eq_true rfl⟩) rfl rfl (Nat.le_of_ble_eq_true rfl) dX5_perform_169 rfl ?_
        refine r_aload_n 173 C 0 dX5_perform_172 rfl rfl ?_
        refine r_aload_n 174 C 0 dX5_perform_173 rfl rfl ?_
        refine r_getr 177 C (k := 14) shM_0 rfl hinX5 (by decide) rfl dX5_perform_174 rfl (by decide +kernel) ?_
        refine r_aload_n 178 C 0 dX5_perform_177 rfl rfl ?_
        refine r_getr 181 C (k := 0) shM_0 rfl hinX5 (by decide) rfl dX5_perform_178 rfl (by decide +kernel) ?_
        obtain ⟨g32, hg32, hf⟩ := ob hf
        refine r_Vv (As := [.ref (G.2.1 6), .ref (G.2.1 1)]) 184 C shM_0 rfl (c_X5_copies l G A 6 1 shM_6 shM_1 g31 _ hg32) (cwV 2 C.1.2.2.2.2 gX5_perform_X5_copies rfl rfl rfl hd_X5_copies ⟨Nat.le_of_ble_eq_true rfl, Nat.le_of_ble_eq_true rfl⟩) rfl rfl (Nat.le_of_ble_eq_true rfl) dX5_perform_181 rfl ?_
        refine r_aload_n 185 C 0 dX5_perform_184 rfl rfl ?_
        refine r_geti 188 C (k := 10) shM_0 rfl hinX5 (by decide) rfl dX5_perform_185 rfl (by decide +kernel) ?_
        have hf := Option.some.inj hf
        subst hf
        exact r_iret C hr hk0 dX5_perform_188
      · have hf := oin c29 hf
        refine r_aload_n 82 C 0 dX5_perform_81 rfl rfl ?_
        refine r_aload_n 83 C 0 dX5_perform_82 rfl rfl ?_
        refine r_getr 86 C (k := 14) shM_0 rfl hinX5 (by decide) rfl dX5_perform_83 rfl (by decide +kernel) ?_
        refine r_aload_n 87 C 0 dX5_perform_86 rfl rfl ?_
        refine r_getr 90 C (k := 0) shM_0 rfl hinX5 (by decide) rfl dX5_perform_87 rfl (by decide +kernel) ?_
        obtain ⟨g33, hg33, hf⟩ := ob hf
        refine r_Vv (As := [.ref (G.2.1 6), .ref (G.2.1 1)]) 93 C shM_0 rfl (c_X5_copies l G A 6 1 shM_6 shM_1 g18 _ hg33) (cwV 2 C.1.2.2.2.2 gX5_perform_X5_copies rfl rfl rfl hd_X5_copies ⟨Nat.le_of_ble_eq_true rfl, Nat.le_of_ble_eq_true rfl⟩) rfl rfl (Nat.le_of_ble_eq_true rfl) dX5_perform_90 rfl ?_
        refine r_aload_n 94 C 0 dX5_perform_93 rfl rfl ?_
        refine r_iload_n 95 C 2 dX5_perform_94 rfl rfl ?_
        refine r_iconst (v := 1) 96 C dX5_perform_95 rfl (by decide) ?_
        refine r_isub 97 C dX5_perform_96 rfl ?_
        obtain ⟨g34, hg34, hf⟩ := ol hf
        refine r_puti 100 C (k := 11) (ty := .int) tyX5 tyX5_ok nmX5 shM_0 rfl hinX5 (by decide) rfl rfl (by decide +kernel) rfl rfl hg34 dX5_perform_97 rfl (by decide +kernel) ?_
        refine r_aload_n 101 C 0 dX5_perform_100 rfl rfl ?_
        refine r_iload_n 102 C 1 dX5_perform_101 rfl rfl ?_
        obtain ⟨g35, hg35, hf⟩ := ol hf
        refine r_puti 105 C (k := 12) (ty := .int) tyX5 tyX5_ok nmX5 shM_0 rfl hinX5 (by decide) rfl rfl (by decide +kernel) rfl rfl hg35 dX5_perform_102 rfl (by decide +kernel) ?_
        refine r_aload_n 106 C 0 dX5_perform_105 rfl rfl ?_
        refine r_aload_n 107 C 0 dX5_perform_106 rfl rfl ?_
        refine r_getr 110 C (k := 9) shM_0 rfl hinX5 (by decide) rfl dX5_perform_107 rfl (by decide +kernel) ?_
        refine r_iconst (v := 5) 111 C dX5_perform_110 rfl (by decide) ?_
        refine r_aload_n 112 C 0 dX5_perform_111 rfl rfl ?_
        refine r_geti 115 C (k := 11) shM_0 rfl hinX5 (by decide) rfl dX5_perform_112 rfl (by decide +kernel) ?_
        refine r_imul 116 C dX5_perform_115 rfl ?_
        refine r_iconst (v := 4) 117 C dX5_perform_116 rfl (by decide) ?_
        refine r_iadd 118 C dX5_perform_117 rfl ?_
        obtain ⟨x36, hx36, hf⟩ := ob hf
        refine r_iaload 119 C shM_5 dX5_perform_118 rfl hx36 ?_
        obtain ⟨g37, hg37, hf⟩ := ol hf
        refine r_puti 122 C (k := 13) (ty := .int) tyX5 tyX5_ok nmX5 shM_0 rfl hinX5 (by decide) rfl rfl (by decide +kernel) rfl rfl hg37 dX5_perform_119 rfl (by decide +kernel) ?_
        refine r_bipush (v := (-4)) 124 C dX5_perform_122 rfl (by decide) ?_
        have hf := Option.some.inj hf
        subst hf
        exact r_iret C hr hk0 dX5_perform_124
  · have hf := obf c3 hf
    refine r_bipush (v := (-100)) 9 C dX5_perform_7 rfl (by decide) ?_
    refine r_aload_n 10 C 0 dX5_perform_9 rfl rfl ?_
    refine r_geti 13 C (k := 8) shM_0 rfl hinX5 (by decide) rfl dX5_perform_10 rfl (by decide +kernel) ?_
    refine r_isub 14 C dX5_perform_13 rfl ?_
    have hf := Option.some.inj hf
    subst hf
    exact r_iret C hr hk0 dX5_perform_14
theorem in_X5_refusal_X5 : ∀ w ∈ wsX50, w ∈ wsX5_refusal := by decide +kernel
def rm_X5_refusal : Room := { frames := 1, cells := 0, slots := 0, locals := 22 }
theorem hd_X5_refusal : yX5_refusal.cls = RX5 ∧ yX5_refusal.cls ≠ "java/lang/invoke/MethodHandle" ∧ yX5_refusal.cls ≠ "java/lang/invoke/VarHandle" ∧ (parseMethodDescriptor yX5_refusal.desc).map (fun d => d.parameters.length) = some 1 := by decide +kernel
set_option maxRecDepth 100000 in
set_option maxHeartbeats 4000000 in
theorem c_X5_refusal (l : Launch) (G : GG) (A : Nat → Prop) (a1 : Int32)  (g : Mem) (res : Int32) (hf : f_X5_refusal a1 g = res) : k_Mi l yX5_refusal wsX5_refusal rm_X5_refusal G shM A [.ref (G.2.1 0), .int a1] g res g := by
  have hinX5 : ∀ w ∈ wsX50, w ∈ wsX5_refusal := in_X5_refusal_X5
  refine k_ofi (cc := cX5_refusal) (nL := 2) (own := RX5) (by decide +kernel) rfl rfl (by simp [lg_sl, Value.category]) ⟨rfl, rfl⟩ [(0, .ref (G.2.1 0)), (1, .int a1)] rfl ?_
  intro p e s m args below meth c C hr hk0
  rw [f_X5_refusal] at hf
  refine r_iload_n 1 C 1 dX5_refusal_0 rfl rfl ?_
  refine r_iconst (v := 0) 2 C dX5_refusal_1 rfl (by decide) ?_
  refine r_iconst (v := 2) 3 C dX5_refusal_2 rfl (by decide) ?_
  refine r_Si (As := [.int a1, .int 0, .int 2]) 6 C (c_X5_in l G A a1 0 2 g _ rfl) (va_cwS 3 C.1.2.2.2.2 gX5_refusal_X5_in rfl rfl rfl hd_X5_in ⟨Nat.le_of_ble_eq_true rfl, Nat.le_of_ble_eq_true rfl⟩) rfl rfl (Nat.le_of_ble_eq_true rfl) dX5_refusal_3 rfl ?_
  refine r_if_ne 12 9 C dX5_refusal_6 rfl rfl (fun c1 => ?_) (fun c1 => ?_)
  · have hf := obt c1 hf
    refine r_aload_n 13 C 0 dX5_refusal_12 rfl rfl ?_
    refine r_geti 16 C (k := 11) shM_0 rfl hinX5 (by decide) rfl dX5_refusal_13 rfl (by decide +kernel) ?_
    refine r_if_ge 24 19 C dX5_refusal_16 rfl rfl (fun c2 => ?_) (fun c2 => ?_)
    · have hf := oip c2 hf
      refine r_iload_n 25 C 1 dX5_refusal_24 rfl rfl ?_
      refine r_if_ne 35 28 C dX5_refusal_25 rfl rfl (fun c3 => ?_) (fun c3 => ?_)
      · have hf := oin c3 hf
        refine r_iload_n 36 C 1 dX5_refusal_35 rfl rfl ?_
        refine r_iconst (v := 1) 37 C dX5_refusal_36 rfl (by decide) ?_
        refine r_icmp_ne 47 40 C dX5_refusal_37 rfl rfl (fun c4 => ?_) (fun c4 => ?_)
        · have hf := oin c4 hf
          refine r_aload_n 48 C 0 dX5_refusal_47 rfl rfl ?_
          refine r_geti 51 C (k := 13) shM_0 rfl hinX5 (by decide) rfl dX5_refusal_48 rfl (by decide +kernel) ?_
          subst hf
          exact r_iret C hr hk0 dX5_refusal_51
        · have hf := oip c4 hf
          refine r_aload_n 41 C 0 dX5_refusal_40 rfl rfl ?_
          refine r_geti 44 C (k := 12) shM_0 rfl hinX5 (by decide) rfl dX5_refusal_41 rfl (by decide +kernel) ?_
          refine r_goto 51 C dX5_refusal_44 rfl ?_
          subst hf
          exact r_iret C hr hk0 dX5_refusal_51
      · have hf := oip c3 hf
        refine r_aload_n 29 C 0 dX5_refusal_28 rfl rfl ?_
        refine r_geti 32 C (k := 11) shM_0 rfl hinX5 (by decide) rfl dX5_refusal_29 rfl (by decide +kernel) ?_
        refine r_goto 51 C dX5_refusal_32 rfl ?_
        subst hf
        exact r_iret C hr hk0 dX5_refusal_51
    · have hf := oin c2 hf
      refine r_bipush (v := (-5)) 21 C dX5_refusal_19 rfl (by decide) ?_
      refine r_goto 51 C dX5_refusal_21 rfl ?_
      subst hf
      exact r_iret C hr hk0 dX5_refusal_51
  · have hf := obf c1 hf
    refine r_bipush (v := (-2)) 11 C dX5_refusal_9 rfl (by decide) ?_
    subst hf
    exact r_iret C hr hk0 dX5_refusal_11
theorem in_X5_undo_X5 : ∀ w ∈ wsX50, w ∈ wsX5_undo := by decide +kernel
def rm_X5_undo : Room := { frames := 0, cells := 0, slots := 0, locals := 0 }
theorem hd_X5_undo : yX5_undo.cls = RX5 ∧ yX5_undo.cls ≠ "java/lang/invoke/MethodHandle" ∧ yX5_undo.cls ≠ "java/lang/invoke/VarHandle" ∧ (parseMethodDescriptor yX5_undo.desc).map (fun d => d.parameters.length) = some 0 := by decide +kernel
set_option maxRecDepth 100000 in
set_option maxHeartbeats 4000000 in
theorem t_X5_undo_L22 {p : Program} {l : Launch} {e : Env} {s : State} {m : MethodId} {args : Array Value} {below : List Frame} {meth : Method} {c : Code} {G : GG} {A : Nat → Prop} (C : KX p s m args c cX5_undo 2 RX5 wsX5_undo G shM A) (hr : meth.sig.returnType = (some .int)) (hk0 : meth.locks = false)  {res : Int32 × Mem} {k : Mem → Option (Int32 × Mem)} (hk : ∀ (g : Mem), k g = some res → JJ p l e rm_X5_undo s m args below meth c 2 G shM A (MQ below (k_Qi G shM A res.1 res.2) args s 0 0 A) 56 [(0, .ref (G.2.1 0))] [] g) : ∀ (n : Nat) (v1 : Int32) (g : Mem), f_X5_undo_L22 k n v1 g = some res → JJ p l e rm_X5_undo s m args below meth c 2 G shM A (MQ below (k_Qi G shM A res.1 res.2) args s 0 0 A) 22 [(0, .ref (G.2.1 0)), (1, .int v1)] [] g := by
  have hinX5 : ∀ w ∈ wsX50, w ∈ wsX5_undo := in_X5_undo_X5
  intro n
  induction n with
  | zero =>
    intro v1 g hf
    rw [f_X5_undo_L22] at hf
    cases hf
  | succ n ih =>
    intro v1 g hf
    rw [f_X5_undo_L22] at hf
    refine r_iload_n 23 C 1 dX5_undo_22 rfl rfl ?_
    refine r_sipush (v := 873) 26 C dX5_undo_23 rfl (by decide) ?_
    refine r_icmp_ge 56 29 C dX5_undo_26 rfl rfl (fun c3 => ?_) (fun c3 => ?_)
    · have hf := oip c3 hf
      refine r_sub [(0, .ref (G.2.1 0))] [0] rfl ?_
      exact hk  _ hf
    · have hf := oin c3 hf
      refine r_aload_n 30 C 0 dX5_undo_29 rfl rfl ?_
      refine r_getr 33 C (k := 0) shM_0 rfl hinX5 (by decide) rfl dX5_undo_30 rfl (by decide +kernel) ?_
      refine r_iload_n 34 C 1 dX5_undo_33 rfl rfl ?_
      refine r_aload_n 35 C 0 dX5_undo_34 rfl rfl ?_
      refine r_getr 38 C (k := 1) shM_0 rfl hinX5 (by decide) rfl dX5_undo_35 rfl (by decide +kernel) ?_
      refine r_sipush (v := 873) 41 C dX5_undo_38 rfl (by decide) ?_
      refine r_aload_n 42 C 0 dX5_undo_41 rfl rfl ?_
      refine r_geti 45 C (k := 2) shM_0 rfl hinX5 (by decide) rfl dX5_undo_42 rfl (by decide +kernel) ?_
      refine r_imul 46 C dX5_undo_45 rfl ?_
      refine r_iload_n 47 C 1 dX5_undo_46 rfl rfl ?_
      refine r_iadd 48 C dX5_undo_47 rfl ?_
      obtain ⟨x4, hx4, hf⟩ := ob hf
      refine r_iaload 49 C shM_2 dX5_undo_48 rfl hx4 ?_
      obtain ⟨g5, hg5, hf⟩ := ob hf
      refine r_iastore 50 C shM_1 dX5_undo_49 rfl hg5 ?_
      obtain ⟨x6, hx6, hf⟩ := ol hf
      refine r_iinc 53 C 1 x6 [(1, .int x6), (0, .ref (G.2.1 0))] dX5_undo_50 rfl rfl hx6.symm (by decide) rfl ?_
      refine r_goto 22 C dX5_undo_53 rfl ?_
      refine r_sub [(0, .ref (G.2.1 0)), (1, .int x6)] [1, 0] rfl ?_
      exact ih _ _ hf
set_option maxRecDepth 100000 in
set_option maxHeartbeats 4000000 in
theorem c_X5_undo (l : Launch) (G : GG) (A : Nat → Prop)   (g : Mem) (res : Int32 × Mem) (hf : f_X5_undo  g = some res) : k_Mi l yX5_undo wsX5_undo rm_X5_undo G shM A [.ref (G.2.1 0)] g res.1 res.2 := by
  have hinX5 : ∀ w ∈ wsX50, w ∈ wsX5_undo := in_X5_undo_X5
  refine k_ofi (cc := cX5_undo) (nL := 2) (own := RX5) (by decide +kernel) rfl rfl (by simp [lg_sl, Value.category]) ⟨rfl, rfl⟩ [(0, .ref (G.2.1 0))] rfl ?_
  intro p e s m args below meth c C hr hk0
  rw [f_X5_undo] at hf
  refine r_aload_n 1 C 0 dX5_undo_0 rfl rfl ?_
  refine r_geti 4 C (k := 2) shM_0 rfl hinX5 (by decide) rfl dX5_undo_1 rfl (by decide +kernel) ?_
  refine r_if_ne 10 7 C dX5_undo_4 rfl rfl (fun c1 => ?_) (fun c1 => ?_)
  · have hf := oin c1 hf
    refine r_aload_n 11 C 0 dX5_undo_10 rfl rfl ?_
    refine r_dup 12 C dX5_undo_11 rfl rfl ?_
    refine r_geti 15 C (k := 2) shM_0 rfl hinX5 (by decide) rfl dX5_undo_12 rfl (by decide +kernel) ?_
    refine r_iconst (v := 1) 16 C dX5_undo_15 rfl (by decide) ?_
    refine r_isub 17 C dX5_undo_16 rfl ?_
    obtain ⟨g2, hg2, hf⟩ := ol hf
    refine r_puti 20 C (k := 2) (ty := .int) tyX5 tyX5_ok nmX5 shM_0 rfl hinX5 (by decide) rfl rfl (by decide +kernel) rfl rfl hg2 dX5_undo_17 rfl (by decide +kernel) ?_
    refine r_iconst (v := 0) 21 C dX5_undo_20 rfl (by decide) ?_
    refine r_istore_n 22 C [(1, .int 0), (0, .ref (G.2.1 0))] dX5_undo_21 rfl rfl (by decide) rfl ?_
    refine r_sub [(0, .ref (G.2.1 0)), (1, .int 0)] [1, 0] rfl ?_
    refine t_X5_undo_L22 C hr hk0 (fun g7 hf => ?_) fuel0 _ _ hf
    refine r_aload_n 57 C 0 dX5_undo_56 rfl rfl ?_
    refine r_geti 60 C (k := 2) shM_0 rfl hinX5 (by decide) rfl dX5_undo_57 rfl (by decide +kernel) ?_
    have hf := Option.some.inj hf
    subst hf
    exact r_iret C hr hk0 dX5_undo_60
  · have hf := oip c1 hf
    refine r_bipush (v := (-5)) 9 C dX5_undo_7 rfl (by decide) ?_
    have hf := Option.some.inj hf
    subst hf
    exact r_iret C hr hk0 dX5_undo_9
theorem in_X5_keep_X5 : ∀ w ∈ wsX50, w ∈ wsX5_keep := by decide +kernel
def rm_X5_keep : Room := { frames := 2, cells := 0, slots := 0, locals := 42 }
theorem hd_X5_keep : yX5_keep.cls = RX5 ∧ yX5_keep.cls ≠ "java/lang/invoke/MethodHandle" ∧ yX5_keep.cls ≠ "java/lang/invoke/VarHandle" ∧ (parseMethodDescriptor yX5_keep.desc).map (fun d => d.parameters.length) = some 0 := by decide +kernel
set_option maxRecDepth 100000 in
set_option maxHeartbeats 4000000 in
theorem c_X5_keep (l : Launch) (G : GG) (A : Nat → Prop)   (g : Mem) (res : Int32 × Mem) (hf : f_X5_keep  g = some res) : k_Mi l yX5_keep wsX5_keep rm_X5_keep G shM A [.ref (G.2.1 0)] g res.1 res.2 := by
  have hinX5 : ∀ w ∈ wsX50, w ∈ wsX5_keep := in_X5_keep_X5
  refine k_ofi (cc := cX5_keep) (nL := 1) (own := RX5) (by decide +kernel) rfl rfl (by simp [lg_sl, Value.category]) ⟨rfl, rfl⟩ [(0, .ref (G.2.1 0))] rfl ?_
  intro p e s m args below meth c C hr hk0
  rw [f_X5_keep] at hf
  refine r_aload_n 1 C 0 dX5_keep_0 rfl rfl ?_
  refine r_aload_n 2 C 0 dX5_keep_1 rfl rfl ?_
  refine r_getr 5 C (k := 0) shM_0 rfl hinX5 (by decide) rfl dX5_keep_2 rfl (by decide +kernel) ?_
  refine r_aload_n 6 C 0 dX5_keep_5 rfl rfl ?_
  refine r_getr 9 C (k := 3) shM_0 rfl hinX5 (by decide) rfl dX5_keep_6 rfl (by decide +kernel) ?_
  obtain ⟨g1, hg1, hf⟩ := ob hf
  refine r_Vv (As := [.ref (G.2.1 1), .ref (G.2.1 3)]) 12 C shM_0 rfl (c_X5_copies l G A 1 3 shM_1 shM_3 g _ hg1) (cwV 2 C.1.2.2.2.2 gX5_keep_X5_copies rfl rfl rfl hd_X5_copies ⟨Nat.le_of_ble_eq_true rfl, Nat.le_of_ble_eq_true rfl⟩) rfl rfl (Nat.le_of_ble_eq_true rfl) dX5_keep_9 rfl ?_
  refine r_aload_n 13 C 0 dX5_keep_12 rfl rfl ?_
  refine r_iconst (v := 1) 14 C dX5_keep_13 rfl (by decide) ?_
  obtain ⟨g2, hg2, hf⟩ := ol hf
  refine r_puti 17 C (k := 4) (ty := .boolean) tyX5 tyX5_ok nmX5 shM_0 rfl hinX5 (by decide) rfl rfl (by decide +kernel) rfl rfl hg2 dX5_keep_14 rfl (by decide +kernel) ?_
  refine r_aload_n 18 C 0 dX5_keep_17 rfl rfl ?_
  obtain ⟨x3, hx3, hf⟩ := ob hf
  refine r_Vi (As := []) 21 C shM_0 rfl (c_X5_prefix l G A g2 _ hx3) (cwV 0 C.1.2.2.2.2 gX5_keep_X5_prefix rfl rfl rfl hd_X5_prefix ⟨Nat.le_of_ble_eq_true rfl, Nat.le_of_ble_eq_true rfl⟩) rfl rfl (Nat.le_of_ble_eq_true rfl) dX5_keep_18 rfl ?_
  have hf := Option.some.inj hf
  subst hf
  exact r_iret C hr hk0 dX5_keep_21
theorem in_X5_restore_X5 : ∀ w ∈ wsX50, w ∈ wsX5_restore := by decide +kernel
def rm_X5_restore : Room := { frames := 2, cells := 0, slots := 0, locals := 42 }
theorem hd_X5_restore : yX5_restore.cls = RX5 ∧ yX5_restore.cls ≠ "java/lang/invoke/MethodHandle" ∧ yX5_restore.cls ≠ "java/lang/invoke/VarHandle" ∧ (parseMethodDescriptor yX5_restore.desc).map (fun d => d.parameters.length) = some 0 := by decide +kernel
set_option maxRecDepth 100000 in
set_option maxHeartbeats 4000000 in
theorem c_X5_restore (l : Launch) (G : GG) (A : Nat → Prop)   (g : Mem) (res : Int32 × Mem) (hf : f_X5_restore  g = some res) : k_Mi l yX5_restore wsX5_restore rm_X5_restore G shM A [.ref (G.2.1 0)] g res.1 res.2 := by
  have hinX5 : ∀ w ∈ wsX50, w ∈ wsX5_restore := in_X5_restore_X5
  refine k_ofi (cc := cX5_restore) (nL := 1) (own := RX5) (by decide +kernel) rfl rfl (by simp [lg_sl, Value.category]) ⟨rfl, rfl⟩ [(0, .ref (G.2.1 0))] rfl ?_
  intro p e s m args below meth c C hr hk0
  rw [f_X5_restore] at hf
  refine r_aload_n 1 C 0 dX5_restore_0 rfl rfl ?_
  refine r_geti 4 C (k := 4) shM_0 rfl hinX5 (by decide) rfl dX5_restore_1 rfl (by decide +kernel) ?_
  refine r_if_ne 10 7 C dX5_restore_4 rfl rfl (fun c1 => ?_) (fun c1 => ?_)
  · have hf := oin c1 hf
    refine r_aload_n 11 C 0 dX5_restore_10 rfl rfl ?_
    obtain ⟨g2, hg2, hf⟩ := ob hf
    refine r_Vv (As := []) 14 C shM_0 rfl (c_X5_record l G A g _ hg2) (cwV 0 C.1.2.2.2.2 gX5_restore_X5_record rfl rfl rfl hd_X5_record ⟨Nat.le_of_ble_eq_true rfl, Nat.le_of_ble_eq_true rfl⟩) rfl rfl (Nat.le_of_ble_eq_true rfl) dX5_restore_11 rfl ?_
    refine r_aload_n 15 C 0 dX5_restore_14 rfl rfl ?_
    refine r_aload_n 16 C 0 dX5_restore_15 rfl rfl ?_
    refine r_getr 19 C (k := 3) shM_0 rfl hinX5 (by decide) rfl dX5_restore_16 rfl (by decide +kernel) ?_
    refine r_aload_n 20 C 0 dX5_restore_19 rfl rfl ?_
    refine r_getr 23 C (k := 0) shM_0 rfl hinX5 (by decide) rfl dX5_restore_20 rfl (by decide +kernel) ?_
    obtain ⟨g3, hg3, hf⟩ := ob hf
    refine r_Vv (As := [.ref (G.2.1 3), .ref (G.2.1 1)]) 26 C shM_0 rfl (c_X5_copies l G A 3 1 shM_3 shM_1 g2 _ hg3) (cwV 2 C.1.2.2.2.2 gX5_restore_X5_copies rfl rfl rfl hd_X5_copies ⟨Nat.le_of_ble_eq_true rfl, Nat.le_of_ble_eq_true rfl⟩) rfl rfl (Nat.le_of_ble_eq_true rfl) dX5_restore_23 rfl ?_
    refine r_aload_n 27 C 0 dX5_restore_26 rfl rfl ?_
    obtain ⟨x4, hx4, hf⟩ := ob hf
    refine r_Vi (As := []) 30 C shM_0 rfl (c_X5_prefix l G A g3 _ hx4) (cwV 0 C.1.2.2.2.2 gX5_restore_X5_prefix rfl rfl rfl hd_X5_prefix ⟨Nat.le_of_ble_eq_true rfl, Nat.le_of_ble_eq_true rfl⟩) rfl rfl (Nat.le_of_ble_eq_true rfl) dX5_restore_27 rfl ?_
    have hf := Option.some.inj hf
    subst hf
    exact r_iret C hr hk0 dX5_restore_30
  · have hf := oip c1 hf
    refine r_bipush (v := (-5)) 9 C dX5_restore_7 rfl (by decide) ?_
    have hf := Option.some.inj hf
    subst hf
    exact r_iret C hr hk0 dX5_restore_9
theorem in_X5_votes_X5 : ∀ w ∈ wsX50, w ∈ wsX5_votes := by decide +kernel
def rm_X5_votes : Room := { frames := 1, cells := 0, slots := 0, locals := 21 }
theorem hd_X5_votes : yX5_votes.cls = RX5 ∧ yX5_votes.cls ≠ "java/lang/invoke/MethodHandle" ∧ yX5_votes.cls ≠ "java/lang/invoke/VarHandle" ∧ (parseMethodDescriptor yX5_votes.desc).map (fun d => d.parameters.length) = some 1 := by decide +kernel
set_option maxRecDepth 100000 in
set_option maxHeartbeats 4000000 in
theorem t_X5_votes_L4 {p : Program} {l : Launch} {e : Env} {s : State} {m : MethodId} {args : Array Value} {below : List Frame} {meth : Method} {c : Code} {G : GG} {A : Nat → Prop} (C : KX p s m args c cX5_votes 4 RX5 wsX5_votes G shM A) (hr : meth.sig.returnType = (some .int)) (hk0 : meth.locks = false) (a1 : Int32)  (v1 : Int32) (g : Mem) {res : Int32} {k : Int32 → Option Int32} (hk : ∀ (v2 : Int32), k v2 = some res → JJ p l e rm_X5_votes s m args below meth c 4 G shM A (MQ below (k_Qi G shM A res g) args s 0 0 A) 37 [(2, .int v2)] [] g) : ∀ (n : Nat) (v2 : Int32) (v3 : Int32), f_X5_votes_L4 k v1 g n v2 v3 = some res → JJ p l e rm_X5_votes s m args below meth c 4 G shM A (MQ below (k_Qi G shM A res g) args s 0 0 A) 4 [(0, .ref (G.2.1 0)), (1, .int v1), (2, .int v2), (3, .int v3)] [] g := by
  have hinX5 : ∀ w ∈ wsX50, w ∈ wsX5_votes := in_X5_votes_X5
  intro n
  induction n with
  | zero =>
    intro v2 v3 hf
    rw [f_X5_votes_L4] at hf
    cases hf
  | succ n ih =>
    intro v2 v3 hf
    rw [f_X5_votes_L4] at hf
    refine r_iload_n 5 C 3 dX5_votes_4 rfl rfl ?_
    refine r_bipush (v := 16) 7 C dX5_votes_5 rfl (by decide) ?_
    refine r_icmp_gt 37 10 C dX5_votes_7 rfl rfl (fun c1 => ?_) (fun c1 => ?_)
    · have hf := oip c1 hf
      refine r_sub [(2, .int v2)] [2] rfl ?_
      exact hk _ hf
    · have hf := oin c1 hf
      refine r_iload_n 11 C 2 dX5_votes_10 rfl rfl ?_
      refine r_aload_n 12 C 0 dX5_votes_11 rfl rfl ?_
      refine r_getr 15 C (k := 0) shM_0 rfl hinX5 (by decide) rfl dX5_votes_12 rfl (by decide +kernel) ?_
      refine r_iload_n 16 C 1 dX5_votes_15 rfl rfl ?_
      refine r_iload_n 17 C 3 dX5_votes_16 rfl rfl ?_
      refine r_Si (As := [.int v1, .int v3]) 20 C (c_X5_voteAt l G A v1 v3 g _ rfl) (va_cwS 2 C.1.2.2.2.2 gX5_votes_X5_voteAt rfl rfl rfl hd_X5_voteAt ⟨Nat.le_of_ble_eq_true rfl, Nat.le_of_ble_eq_true rfl⟩) rfl rfl (Nat.le_of_ble_eq_true rfl) dX5_votes_17 rfl ?_
      obtain ⟨x2, hx2, hf⟩ := ob hf
      refine r_iaload 21 C shM_1 dX5_votes_20 rfl hx2 ?_
      refine r_if_le 28 24 C dX5_votes_21 rfl rfl (fun c3 => ?_) (fun c3 => ?_)
      · have hf := oip c3 hf
        refine r_iconst (v := 0) 29 C dX5_votes_28 rfl (by decide) ?_
        refine r_iadd 30 C dX5_votes_29 rfl ?_
        obtain ⟨x4, hx4, hf⟩ := ol hf
        refine r_istore_n 31 C [(2, .int x4), (0, .ref (G.2.1 0)), (1, .int v1), (3, .int v3)] dX5_votes_30 rfl hx4 (by decide) rfl ?_
        obtain ⟨x5, hx5, hf⟩ := ol hf
        refine r_iinc 34 C 3 x5 [(3, .int x5), (2, .int x4), (0, .ref (G.2.1 0)), (1, .int v1)] dX5_votes_31 rfl rfl hx5.symm (by decide) rfl ?_
        refine r_goto 4 C dX5_votes_34 rfl ?_
        refine r_sub [(0, .ref (G.2.1 0)), (1, .int v1), (2, .int x4), (3, .int x5)] [2, 3, 1, 0] rfl ?_
        exact ih _ _ hf
      · have hf := oin c3 hf
        refine r_iconst (v := 1) 25 C dX5_votes_24 rfl (by decide) ?_
        refine r_goto 29 C dX5_votes_25 rfl ?_
        refine r_iadd 30 C dX5_votes_29 rfl ?_
        obtain ⟨x6, hx6, hf⟩ := ol hf
        refine r_istore_n 31 C [(2, .int x6), (0, .ref (G.2.1 0)), (1, .int v1), (3, .int v3)] dX5_votes_30 rfl hx6 (by decide) rfl ?_
        obtain ⟨x7, hx7, hf⟩ := ol hf
        refine r_iinc 34 C 3 x7 [(3, .int x7), (2, .int x6), (0, .ref (G.2.1 0)), (1, .int v1)] dX5_votes_31 rfl rfl hx7.symm (by decide) rfl ?_
        refine r_goto 4 C dX5_votes_34 rfl ?_
        refine r_sub [(0, .ref (G.2.1 0)), (1, .int v1), (2, .int x6), (3, .int x7)] [2, 3, 1, 0] rfl ?_
        exact ih _ _ hf
set_option maxRecDepth 100000 in
set_option maxHeartbeats 4000000 in
theorem c_X5_votes (l : Launch) (G : GG) (A : Nat → Prop) (a1 : Int32)  (g : Mem) (res : Int32) (hf : f_X5_votes a1 g = some res) : k_Mi l yX5_votes wsX5_votes rm_X5_votes G shM A [.ref (G.2.1 0), .int a1] g res g := by
  have hinX5 : ∀ w ∈ wsX50, w ∈ wsX5_votes := in_X5_votes_X5
  refine k_ofi (cc := cX5_votes) (nL := 4) (own := RX5) (by decide +kernel) rfl rfl (by simp [lg_sl, Value.category]) ⟨rfl, rfl⟩ [(0, .ref (G.2.1 0)), (1, .int a1)] rfl ?_
  intro p e s m args below meth c C hr hk0
  rw [f_X5_votes] at hf
  refine r_iconst (v := 0) 1 C dX5_votes_0 rfl (by decide) ?_
  refine r_istore_n 2 C [(2, .int 0), (0, .ref (G.2.1 0)), (1, .int a1)] dX5_votes_1 rfl rfl (by decide) rfl ?_
  refine r_iconst (v := 1) 3 C dX5_votes_2 rfl (by decide) ?_
  refine r_istore_n 4 C [(3, .int 1), (2, .int 0), (0, .ref (G.2.1 0)), (1, .int a1)] dX5_votes_3 rfl rfl (by decide) rfl ?_
  refine r_sub [(0, .ref (G.2.1 0)), (1, .int a1), (2, .int 0), (3, .int 1)] [2, 3, 1, 0] rfl ?_
  refine t_X5_votes_L4 C hr hk0 a1 a1 g (fun x8 hf => ?_) fuel0 _ _ hf
  refine r_iload_n 38 C 0 dX5_votes_37 rfl rfl ?_
  have hf := Option.some.inj hf
  subst hf
  exact r_iret C hr hk0 dX5_votes_38
theorem in_X5_acceptor_X5 : ∀ w ∈ wsX50, w ∈ wsX5_acceptor := by decide +kernel
def rm_X5_acceptor : Room := { frames := 2, cells := 0, slots := 0, locals := 44 }
theorem hd_X5_acceptor : yX5_acceptor.cls = RX5 ∧ yX5_acceptor.cls ≠ "java/lang/invoke/MethodHandle" ∧ yX5_acceptor.cls ≠ "java/lang/invoke/VarHandle" ∧ (parseMethodDescriptor yX5_acceptor.desc).map (fun d => d.parameters.length) = some 2 := by decide +kernel
set_option maxRecDepth 100000 in
set_option maxHeartbeats 4000000 in
theorem c_X5_acceptor (l : Launch) (G : GG) (A : Nat → Prop) (a1 : Int32) (a2 : Int32)  (g : Mem) (res : Int32) (hf : f_X5_acceptor a1 a2 g = some res) : k_Mi l yX5_acceptor wsX5_acceptor rm_X5_acceptor G shM A [.ref (G.2.1 0), .int a1, .int a2] g res g := by
  have hinX5 : ∀ w ∈ wsX50, w ∈ wsX5_acceptor := in_X5_acceptor_X5
  refine k_ofi (cc := cX5_acceptor) (nL := 3) (own := RX5) (by decide +kernel) rfl rfl (by simp [lg_sl, Value.category]) ⟨rfl, rfl⟩ [(0, .ref (G.2.1 0)), (1, .int a1), (2, .int a2)] rfl ?_
  intro p e s m args below meth c C hr hk0
  rw [f_X5_acceptor] at hf
  refine r_iload_n 1 C 1 dX5_acceptor_0 rfl rfl ?_
  refine r_Si (As := [.int a1]) 4 C (c_X5_noAcceptor l G A a1 g _ rfl) (va_cwS 1 C.1.2.2.2.2 gX5_acceptor_X5_noAcceptor rfl rfl rfl hd_X5_noAcceptor ⟨Nat.le_of_ble_eq_true rfl, Nat.le_of_ble_eq_true rfl⟩) rfl rfl (Nat.le_of_ble_eq_true rfl) dX5_acceptor_1 rfl ?_
  refine r_if_eq 9 7 C dX5_acceptor_4 rfl rfl (fun c1 => ?_) (fun c1 => ?_)
  · have hf := obf c1 hf
    refine r_iload_n 10 C 2 dX5_acceptor_9 rfl rfl ?_
    by_cases c3 : a2 = 0
    · have hf := oip c3 hf
      refine r_tabIn 36 C (off := 26) dX5_acceptor_10 (by rw [c3]; decide) (by rw [c3]; decide) (by rw [c3]; rfl) rfl ?_
      refine r_aload_n 37 C 0 dX5_acceptor_36 rfl rfl ?_
      refine r_getr 40 C (k := 0) shM_0 rfl hinX5 (by decide) rfl dX5_acceptor_37 rfl (by decide +kernel) ?_
      refine r_iconst (v := 0) 41 C dX5_acceptor_40 rfl (by decide) ?_
      refine r_iload_n 42 C 1 dX5_acceptor_41 rfl rfl ?_
      refine r_iadd 43 C dX5_acceptor_42 rfl ?_
      obtain ⟨x2, hx2, hf⟩ := ob hf
      refine r_iaload 44 C shM_1 dX5_acceptor_43 rfl hx2 ?_
      have hf := Option.some.inj hf
      subst hf
      exact r_iret C hr hk0 dX5_acceptor_44
    have hf := oin c3 hf
    by_cases c5 : a2 = 1
    · have hf := oip c5 hf
      refine r_tabIn 45 C (off := 35) dX5_acceptor_10 (by rw [c5]; decide) (by rw [c5]; decide) (by rw [c5]; rfl) rfl ?_
      refine r_aload_n 46 C 0 dX5_acceptor_45 rfl rfl ?_
      refine r_getr 49 C (k := 0) shM_0 rfl hinX5 (by decide) rfl dX5_acceptor_46 rfl (by decide +kernel) ?_
      refine r_bipush (v := 6) 51 C dX5_acceptor_49 rfl (by decide) ?_
      refine r_iload_n 52 C 1 dX5_acceptor_51 rfl rfl ?_
      refine r_iadd 53 C dX5_acceptor_52 rfl ?_
      obtain ⟨x4, hx4, hf⟩ := ob hf
      refine r_iaload 54 C shM_1 dX5_acceptor_53 rfl hx4 ?_
      have hf := Option.some.inj hf
      subst hf
      exact r_iret C hr hk0 dX5_acceptor_54
    have hf := oin c5 hf
    by_cases c7 : a2 = 2
    · have hf := oip c7 hf
      refine r_tabIn 55 C (off := 45) dX5_acceptor_10 (by rw [c7]; decide) (by rw [c7]; decide) (by rw [c7]; rfl) rfl ?_
      refine r_aload_n 56 C 0 dX5_acceptor_55 rfl rfl ?_
      refine r_iload_n 57 C 1 dX5_acceptor_56 rfl rfl ?_
      obtain ⟨x6, hx6, hf⟩ := ob hf
      refine r_Vi (As := [.int a1]) 60 C shM_0 rfl (c_X5_votes l G A a1 g _ hx6) (cwV 1 C.1.2.2.2.2 gX5_acceptor_X5_votes rfl rfl rfl hd_X5_votes ⟨Nat.le_of_ble_eq_true rfl, Nat.le_of_ble_eq_true rfl⟩) rfl rfl (Nat.le_of_ble_eq_true rfl) dX5_acceptor_57 rfl ?_
      have hf := Option.some.inj hf
      subst hf
      exact r_iret C hr hk0 dX5_acceptor_60
    have hf := oin c7 hf
    refine r_tabOut 61 C dX5_acceptor_10 (tab_o (fun k h1 h2 => by
      have h3 : k = 0 ∨ k = 1 ∨ k = 2 := by omega
      rcases h3 with rfl | rfl | rfl
      · exact c3
      · exact c5
      · exact c7)) rfl ?_
    refine r_bipush (v := (-2)) 63 C dX5_acceptor_61 rfl (by decide) ?_
    have hf := Option.some.inj hf
    subst hf
    exact r_iret C hr hk0 dX5_acceptor_63
  · have hf := obt c1 hf
    refine r_iconst (v := (-1)) 8 C dX5_acceptor_7 rfl (by decide) ?_
    have hf := Option.some.inj hf
    subst hf
    exact r_iret C hr hk0 dX5_acceptor_8
theorem in_X5_voted_X5 : ∀ w ∈ wsX50, w ∈ wsX5_voted := by decide +kernel
def rm_X5_voted : Room := { frames := 2, cells := 0, slots := 0, locals := 42 }
theorem hd_X5_voted : yX5_voted.cls = RX5 ∧ yX5_voted.cls ≠ "java/lang/invoke/MethodHandle" ∧ yX5_voted.cls ≠ "java/lang/invoke/VarHandle" ∧ (parseMethodDescriptor yX5_voted.desc).map (fun d => d.parameters.length) = some 3 := by decide +kernel
set_option maxRecDepth 100000 in
set_option maxHeartbeats 4000000 in
theorem c_X5_voted (l : Launch) (G : GG) (A : Nat → Prop) (a1 : Int32) (a2 : Int32) (a3 : Int32)  (g : Mem) (res : Int32) (hf : f_X5_voted a1 a2 a3 g = some res) : k_Mi l yX5_voted wsX5_voted rm_X5_voted G shM A [.ref (G.2.1 0), .int a1, .int a2, .int a3] g res g := by
  have hinX5 : ∀ w ∈ wsX50, w ∈ wsX5_voted := in_X5_voted_X5
  refine k_ofi (cc := cX5_voted) (nL := 5) (own := RX5) (by decide +kernel) rfl rfl (by simp [lg_sl, Value.category]) ⟨rfl, rfl⟩ [(0, .ref (G.2.1 0)), (1, .int a1), (2, .int a2), (3, .int a3)] rfl ?_
  intro p e s m args below meth c C hr hk0
  rw [f_X5_voted] at hf
  refine r_iload_n 1 C 1 dX5_voted_0 rfl rfl ?_
  refine r_Si (As := [.int a1]) 4 C (c_X5_noAcceptor l G A a1 g _ rfl) (va_cwS 1 C.1.2.2.2.2 gX5_voted_X5_noAcceptor rfl rfl rfl hd_X5_noAcceptor ⟨Nat.le_of_ble_eq_true rfl, Nat.le_of_ble_eq_true rfl⟩) rfl rfl (Nat.le_of_ble_eq_true rfl) dX5_voted_1 rfl ?_
  refine r_if_ne 14 7 C dX5_voted_4 rfl rfl (fun c1 => ?_) (fun c1 => ?_)
  · have hf := obt c1 hf
    refine r_iconst (v := (-1)) 15 C dX5_voted_14 rfl (by decide) ?_
    have hf := Option.some.inj hf
    subst hf
    exact r_iret C hr hk0 dX5_voted_15
  · have hf := obf c1 hf
    refine r_iload_n 8 C 2 dX5_voted_7 rfl rfl ?_
    refine r_Si (As := [.int a2]) 11 C (c_X5_noSlot l G A a2 g _ rfl) (va_cwS 1 C.1.2.2.2.2 gX5_voted_X5_noSlot rfl rfl rfl hd_X5_noSlot ⟨Nat.le_of_ble_eq_true rfl, Nat.le_of_ble_eq_true rfl⟩) rfl rfl (Nat.le_of_ble_eq_true rfl) dX5_voted_8 rfl ?_
    refine r_if_eq 16 14 C dX5_voted_11 rfl rfl (fun c2 => ?_) (fun c2 => ?_)
    · have hf := obf c2 hf
      refine r_iload_n 17 C 3 dX5_voted_16 rfl rfl ?_
      refine r_iconst (v := 0) 18 C dX5_voted_17 rfl (by decide) ?_
      refine r_iconst (v := 1) 19 C dX5_voted_18 rfl (by decide) ?_
      refine r_Si (As := [.int a3, .int 0, .int 1]) 22 C (c_X5_in l G A a3 0 1 g _ rfl) (va_cwS 3 C.1.2.2.2.2 gX5_voted_X5_in rfl rfl rfl hd_X5_in ⟨Nat.le_of_ble_eq_true rfl, Nat.le_of_ble_eq_true rfl⟩) rfl rfl (Nat.le_of_ble_eq_true rfl) dX5_voted_19 rfl ?_
      refine r_if_ne 28 25 C dX5_voted_22 rfl rfl (fun c3 => ?_) (fun c3 => ?_)
      · have hf := obt c3 hf
        refine r_iload_n 29 C 1 dX5_voted_28 rfl rfl ?_
        refine r_iload_n 30 C 2 dX5_voted_29 rfl rfl ?_
        refine r_Si (As := [.int a1, .int a2]) 33 C (c_X5_voteAt l G A a1 a2 g _ rfl) (va_cwS 2 C.1.2.2.2.2 gX5_voted_X5_voteAt rfl rfl rfl hd_X5_voteAt ⟨Nat.le_of_ble_eq_true rfl, Nat.le_of_ble_eq_true rfl⟩) rfl rfl (Nat.le_of_ble_eq_true rfl) dX5_voted_30 rfl ?_
        obtain ⟨x4, hx4, hf⟩ := ol hf
        refine r_istore 35 C [(4, .int x4), (0, .ref (G.2.1 0)), (1, .int a1), (2, .int a2), (3, .int a3)] dX5_voted_33 rfl hx4 (by decide) rfl ?_
        refine r_aload_n 36 C 1 dX5_voted_35 rfl rfl ?_
        refine r_getr 39 C (k := 0) shM_0 rfl hinX5 (by decide) rfl dX5_voted_36 rfl (by decide +kernel) ?_
        refine r_iload 41 C 0 dX5_voted_39 rfl rfl ?_
        obtain ⟨x5, hx5, hf⟩ := ob hf
        refine r_iaload 42 C shM_1 dX5_voted_41 rfl hx5 ?_
        refine r_if_ne 50 45 C dX5_voted_42 rfl rfl (fun c6 => ?_) (fun c6 => ?_)
        · have hf := oin c6 hf
          refine r_aload_n 51 C 1 dX5_voted_50 rfl rfl ?_
          refine r_getr 54 C (k := 0) shM_0 rfl hinX5 (by decide) rfl dX5_voted_51 rfl (by decide +kernel) ?_
          refine r_iload 56 C 0 dX5_voted_54 rfl rfl ?_
          refine r_iload_n 57 C 4 dX5_voted_56 rfl rfl ?_
          refine r_iadd 58 C dX5_voted_57 rfl ?_
          obtain ⟨x7, hx7, hf⟩ := ob hf
          refine r_iaload 59 C shM_1 dX5_voted_58 rfl hx7 ?_
          have hf := Option.some.inj hf
          subst hf
          exact r_iret C hr hk0 dX5_voted_59
        · have hf := oip c6 hf
          refine r_bipush (v := (-5)) 47 C dX5_voted_45 rfl (by decide) ?_
          refine r_goto 59 C dX5_voted_47 rfl ?_
          have hf := Option.some.inj hf
          subst hf
          exact r_iret C hr hk0 dX5_voted_59
      · have hf := obf c3 hf
        refine r_bipush (v := (-2)) 27 C dX5_voted_25 rfl (by decide) ?_
        have hf := Option.some.inj hf
        subst hf
        exact r_iret C hr hk0 dX5_voted_27
    · have hf := obt c2 hf
      refine r_iconst (v := (-1)) 15 C dX5_voted_14 rfl (by decide) ?_
      have hf := Option.some.inj hf
      subst hf
      exact r_iret C hr hk0 dX5_voted_15
theorem in_X5_proposals_X5 : ∀ w ∈ wsX50, w ∈ wsX5_proposals := by decide +kernel
def rm_X5_proposals : Room := { frames := 1, cells := 0, slots := 0, locals := 21 }
theorem hd_X5_proposals : yX5_proposals.cls = RX5 ∧ yX5_proposals.cls ≠ "java/lang/invoke/MethodHandle" ∧ yX5_proposals.cls ≠ "java/lang/invoke/VarHandle" ∧ (parseMethodDescriptor yX5_proposals.desc).map (fun d => d.parameters.length) = some 1 := by decide +kernel
set_option maxRecDepth 100000 in
set_option maxHeartbeats 4000000 in
theorem t_X5_proposals_L4 {p : Program} {l : Launch} {e : Env} {s : State} {m : MethodId} {args : Array Value} {below : List Frame} {meth : Method} {c : Code} {G : GG} {A : Nat → Prop} (C : KX p s m args c cX5_proposals 4 RX5 wsX5_proposals G shM A) (hr : meth.sig.returnType = (some .int)) (hk0 : meth.locks = false) (a1 : Int32)  (v1 : Int32) (g : Mem) {res : Int32} {k : Int32 → Option Int32} (hk : ∀ (v2 : Int32), k v2 = some res → JJ p l e rm_X5_proposals s m args below meth c 4 G shM A (MQ below (k_Qi G shM A res g) args s 0 0 A) 37 [(2, .int v2)] [] g) : ∀ (n : Nat) (v2 : Int32) (v3 : Int32), f_X5_proposals_L4 k v1 g n v2 v3 = some res → JJ p l e rm_X5_proposals s m args below meth c 4 G shM A (MQ below (k_Qi G shM A res g) args s 0 0 A) 4 [(0, .ref (G.2.1 0)), (1, .int v1), (2, .int v2), (3, .int v3)] [] g := by
  have hinX5 : ∀ w ∈ wsX50, w ∈ wsX5_proposals := in_X5_proposals_X5
  intro n
  induction n with
  | zero =>
    intro v2 v3 hf
    rw [f_X5_proposals_L4] at hf
    cases hf
  | succ n ih =>
    intro v2 v3 hf
    rw [f_X5_proposals_L4] at hf
    refine r_iload_n 5 C 3 dX5_proposals_4 rfl rfl ?_
    refine r_bipush (v := 16) 7 C dX5_proposals_5 rfl (by decide) ?_
    refine r_icmp_gt 37 10 C dX5_proposals_7 rfl rfl (fun c1 => ?_) (fun c1 => ?_)
    · have hf := oip c1 hf
      refine r_sub [(2, .int v2)] [2] rfl ?_
      exact hk _ hf
    · have hf := oin c1 hf
      refine r_iload_n 11 C 2 dX5_proposals_10 rfl rfl ?_
      refine r_aload_n 12 C 0 dX5_proposals_11 rfl rfl ?_
      refine r_getr 15 C (k := 0) shM_0 rfl hinX5 (by decide) rfl dX5_proposals_12 rfl (by decide +kernel) ?_
      refine r_iload_n 16 C 1 dX5_proposals_15 rfl rfl ?_
      refine r_iload_n 17 C 3 dX5_proposals_16 rfl rfl ?_
      refine r_Si (As := [.int v1, .int v3]) 20 C (c_X5_proposedAt l G A v1 v3 g _ rfl) (va_cwS 2 C.1.2.2.2.2 gX5_proposals_X5_proposedAt rfl rfl rfl hd_X5_proposedAt ⟨Nat.le_of_ble_eq_true rfl, Nat.le_of_ble_eq_true rfl⟩) rfl rfl (Nat.le_of_ble_eq_true rfl) dX5_proposals_17 rfl ?_
      obtain ⟨x2, hx2, hf⟩ := ob hf
      refine r_iaload 21 C shM_1 dX5_proposals_20 rfl hx2 ?_
      refine r_if_le 28 24 C dX5_proposals_21 rfl rfl (fun c3 => ?_) (fun c3 => ?_)
      · have hf := oip c3 hf
        refine r_iconst (v := 0) 29 C dX5_proposals_28 rfl (by decide) ?_
        refine r_iadd 30 C dX5_proposals_29 rfl ?_
        obtain ⟨x4, hx4, hf⟩ := ol hf
        refine r_istore_n 31 C [(2, .int x4), (0, .ref (G.2.1 0)), (1, .int v1), (3, .int v3)] dX5_proposals_30 rfl hx4 (by decide) rfl ?_
        obtain ⟨x5, hx5, hf⟩ := ol hf
        refine r_iinc 34 C 3 x5 [(3, .int x5), (2, .int x4), (0, .ref (G.2.1 0)), (1, .int v1)] dX5_proposals_31 rfl rfl hx5.symm (by decide) rfl ?_
        refine r_goto 4 C dX5_proposals_34 rfl ?_
        refine r_sub [(0, .ref (G.2.1 0)), (1, .int v1), (2, .int x4), (3, .int x5)] [2, 3, 1, 0] rfl ?_
        exact ih _ _ hf
      · have hf := oin c3 hf
        refine r_iconst (v := 1) 25 C dX5_proposals_24 rfl (by decide) ?_
        refine r_goto 29 C dX5_proposals_25 rfl ?_
        refine r_iadd 30 C dX5_proposals_29 rfl ?_
        obtain ⟨x6, hx6, hf⟩ := ol hf
        refine r_istore_n 31 C [(2, .int x6), (0, .ref (G.2.1 0)), (1, .int v1), (3, .int v3)] dX5_proposals_30 rfl hx6 (by decide) rfl ?_
        obtain ⟨x7, hx7, hf⟩ := ol hf
        refine r_iinc 34 C 3 x7 [(3, .int x7), (2, .int x6), (0, .ref (G.2.1 0)), (1, .int v1)] dX5_proposals_31 rfl rfl hx7.symm (by decide) rfl ?_
        refine r_goto 4 C dX5_proposals_34 rfl ?_
        refine r_sub [(0, .ref (G.2.1 0)), (1, .int v1), (2, .int x6), (3, .int x7)] [2, 3, 1, 0] rfl ?_
        exact ih _ _ hf
set_option maxRecDepth 100000 in
set_option maxHeartbeats 4000000 in
theorem c_X5_proposals (l : Launch) (G : GG) (A : Nat → Prop) (a1 : Int32)  (g : Mem) (res : Int32) (hf : f_X5_proposals a1 g = some res) : k_Mi l yX5_proposals wsX5_proposals rm_X5_proposals G shM A [.ref (G.2.1 0), .int a1] g res g := by
  have hinX5 : ∀ w ∈ wsX50, w ∈ wsX5_proposals := in_X5_proposals_X5
  refine k_ofi (cc := cX5_proposals) (nL := 4) (own := RX5) (by decide +kernel) rfl rfl (by simp [lg_sl, Value.category]) ⟨rfl, rfl⟩ [(0, .ref (G.2.1 0)), (1, .int a1)] rfl ?_
  intro p e s m args below meth c C hr hk0
  rw [f_X5_proposals] at hf
  refine r_iconst (v := 0) 1 C dX5_proposals_0 rfl (by decide) ?_
  refine r_istore_n 2 C [(2, .int 0), (0, .ref (G.2.1 0)), (1, .int a1)] dX5_proposals_1 rfl rfl (by decide) rfl ?_
  refine r_iconst (v := 1) 3 C dX5_proposals_2 rfl (by decide) ?_
  refine r_istore_n 4 C [(3, .int 1), (2, .int 0), (0, .ref (G.2.1 0)), (1, .int a1)] dX5_proposals_3 rfl rfl (by decide) rfl ?_
  refine r_sub [(0, .ref (G.2.1 0)), (1, .int a1), (2, .int 0), (3, .int 1)] [2, 3, 1, 0] rfl ?_
  refine t_X5_proposals_L4 C hr hk0 a1 a1 g (fun x8 hf => ?_) fuel0 _ _ hf
  refine r_iload_n 38 C 0 dX5_proposals_37 rfl rfl ?_
  have hf := Option.some.inj hf
  subst hf
  exact r_iret C hr hk0 dX5_proposals_38
theorem in_X5_proposer_X5 : ∀ w ∈ wsX50, w ∈ wsX5_proposer := by decide +kernel
def rm_X5_proposer : Room := { frames := 2, cells := 0, slots := 0, locals := 44 }
theorem hd_X5_proposer : yX5_proposer.cls = RX5 ∧ yX5_proposer.cls ≠ "java/lang/invoke/MethodHandle" ∧ yX5_proposer.cls ≠ "java/lang/invoke/VarHandle" ∧ (parseMethodDescriptor yX5_proposer.desc).map (fun d => d.parameters.length) = some 2 := by decide +kernel
set_option maxRecDepth 100000 in
set_option maxHeartbeats 4000000 in
theorem c_X5_proposer (l : Launch) (G : GG) (A : Nat → Prop) (a1 : Int32) (a2 : Int32)  (g : Mem) (res : Int32) (hf : f_X5_proposer a1 a2 g = some res) : k_Mi l yX5_proposer wsX5_proposer rm_X5_proposer G shM A [.ref (G.2.1 0), .int a1, .int a2] g res g := by
  have hinX5 : ∀ w ∈ wsX50, w ∈ wsX5_proposer := in_X5_proposer_X5
  refine k_ofi (cc := cX5_proposer) (nL := 3) (own := RX5) (by decide +kernel) rfl rfl (by simp [lg_sl, Value.category]) ⟨rfl, rfl⟩ [(0, .ref (G.2.1 0)), (1, .int a1), (2, .int a2)] rfl ?_
  intro p e s m args below meth c C hr hk0
  rw [f_X5_proposer] at hf
  refine r_iload_n 1 C 1 dX5_proposer_0 rfl rfl ?_
  refine r_Si (As := [.int a1]) 4 C (c_X5_noProposer l G A a1 g _ rfl) (va_cwS 1 C.1.2.2.2.2 gX5_proposer_X5_noProposer rfl rfl rfl hd_X5_noProposer ⟨Nat.le_of_ble_eq_true rfl, Nat.le_of_ble_eq_true rfl⟩) rfl rfl (Nat.le_of_ble_eq_true rfl) dX5_proposer_1 rfl ?_
  refine r_if_eq 9 7 C dX5_proposer_4 rfl rfl (fun c1 => ?_) (fun c1 => ?_)
  · have hf := obf c1 hf
    refine r_iload_n 10 C 2 dX5_proposer_9 rfl rfl ?_
    by_cases c3 : a2 = 0
    · have hf := oip c3 hf
      refine r_tabIn 40 C (off := 30) dX5_proposer_10 (by rw [c3]; decide) (by rw [c3]; decide) (by rw [c3]; rfl) rfl ?_
      refine r_aload_n 41 C 0 dX5_proposer_40 rfl rfl ?_
      refine r_getr 44 C (k := 0) shM_0 rfl hinX5 (by decide) rfl dX5_proposer_41 rfl (by decide +kernel) ?_
      refine r_sipush (v := 204) 47 C dX5_proposer_44 rfl (by decide) ?_
      refine r_iload_n 48 C 1 dX5_proposer_47 rfl rfl ?_
      refine r_iadd 49 C dX5_proposer_48 rfl ?_
      obtain ⟨x2, hx2, hf⟩ := ob hf
      refine r_iaload 50 C shM_1 dX5_proposer_49 rfl hx2 ?_
      have hf := Option.some.inj hf
      subst hf
      exact r_iret C hr hk0 dX5_proposer_50
    have hf := oin c3 hf
    by_cases c5 : a2 = 1
    · have hf := oip c5 hf
      refine r_tabIn 51 C (off := 41) dX5_proposer_10 (by rw [c5]; decide) (by rw [c5]; decide) (by rw [c5]; rfl) rfl ?_
      refine r_aload_n 52 C 0 dX5_proposer_51 rfl rfl ?_
      refine r_getr 55 C (k := 0) shM_0 rfl hinX5 (by decide) rfl dX5_proposer_52 rfl (by decide +kernel) ?_
      refine r_sipush (v := 207) 58 C dX5_proposer_55 rfl (by decide) ?_
      refine r_iload_n 59 C 1 dX5_proposer_58 rfl rfl ?_
      refine r_iadd 60 C dX5_proposer_59 rfl ?_
      obtain ⟨x4, hx4, hf⟩ := ob hf
      refine r_iaload 61 C shM_1 dX5_proposer_60 rfl hx4 ?_
      have hf := Option.some.inj hf
      subst hf
      exact r_iret C hr hk0 dX5_proposer_61
    have hf := oin c5 hf
    by_cases c7 : a2 = 2
    · have hf := oip c7 hf
      refine r_tabIn 62 C (off := 52) dX5_proposer_10 (by rw [c7]; decide) (by rw [c7]; decide) (by rw [c7]; rfl) rfl ?_
      refine r_aload_n 63 C 0 dX5_proposer_62 rfl rfl ?_
      refine r_getr 66 C (k := 0) shM_0 rfl hinX5 (by decide) rfl dX5_proposer_63 rfl (by decide +kernel) ?_
      refine r_sipush (v := 210) 69 C dX5_proposer_66 rfl (by decide) ?_
      refine r_iload_n 70 C 1 dX5_proposer_69 rfl rfl ?_
      refine r_iadd 71 C dX5_proposer_70 rfl ?_
      obtain ⟨x6, hx6, hf⟩ := ob hf
      refine r_iaload 72 C shM_1 dX5_proposer_71 rfl hx6 ?_
      have hf := Option.some.inj hf
      subst hf
      exact r_iret C hr hk0 dX5_proposer_72
    have hf := oin c7 hf
    by_cases c9 : a2 = 3
    · have hf := oip c9 hf
      refine r_tabIn 73 C (off := 63) dX5_proposer_10 (by rw [c9]; decide) (by rw [c9]; decide) (by rw [c9]; rfl) rfl ?_
      refine r_aload_n 74 C 0 dX5_proposer_73 rfl rfl ?_
      refine r_iload_n 75 C 1 dX5_proposer_74 rfl rfl ?_
      obtain ⟨x8, hx8, hf⟩ := ob hf
      refine r_Vi (As := [.int a1]) 78 C shM_0 rfl (c_X5_proposals l G A a1 g _ hx8) (cwV 1 C.1.2.2.2.2 gX5_proposer_X5_proposals rfl rfl rfl hd_X5_proposals ⟨Nat.le_of_ble_eq_true rfl, Nat.le_of_ble_eq_true rfl⟩) rfl rfl (Nat.le_of_ble_eq_true rfl) dX5_proposer_75 rfl ?_
      have hf := Option.some.inj hf
      subst hf
      exact r_iret C hr hk0 dX5_proposer_78
    have hf := oin c9 hf
    refine r_tabOut 79 C dX5_proposer_10 (tab_o (fun k h1 h2 => by
      have h3 : k = 0 ∨ k = 1 ∨ k = 2 ∨ k = 3 := by omega
      rcases h3 with rfl | rfl | rfl | rfl
      · exact c3
      · exact c5
      · exact c7
      · exact c9)) rfl ?_
    refine r_bipush (v := (-2)) 81 C dX5_proposer_79 rfl (by decide) ?_
    have hf := Option.some.inj hf
    subst hf
    exact r_iret C hr hk0 dX5_proposer_81
  · have hf := obt c1 hf
    refine r_iconst (v := (-1)) 8 C dX5_proposer_7 rfl (by decide) ?_
    have hf := Option.some.inj hf
    subst hf
    exact r_iret C hr hk0 dX5_proposer_8
theorem in_X5_proposed_X5 : ∀ w ∈ wsX50, w ∈ wsX5_proposed := by decide +kernel
def rm_X5_proposed : Room := { frames := 5, cells := 0, slots := 0, locals := 109 }
theorem hd_X5_proposed : yX5_proposed.cls = RX5 ∧ yX5_proposed.cls ≠ "java/lang/invoke/MethodHandle" ∧ yX5_proposed.cls ≠ "java/lang/invoke/VarHandle" ∧ (parseMethodDescriptor yX5_proposed.desc).map (fun d => d.parameters.length) = some 3 := by decide +kernel
set_option maxRecDepth 100000 in
set_option maxHeartbeats 4000000 in
theorem c_X5_proposed (l : Launch) (G : GG) (A : Nat → Prop) (a1 : Int32) (a2 : Int32) (a3 : Int32)  (g : Mem) (res : Int32) (hf : f_X5_proposed a1 a2 a3 g = some res) : k_Mi l yX5_proposed wsX5_proposed rm_X5_proposed G shM A [.ref (G.2.1 0), .int a1, .int a2, .int a3] g res g := by
  have hinX5 : ∀ w ∈ wsX50, w ∈ wsX5_proposed := in_X5_proposed_X5
  refine k_ofi (cc := cX5_proposed) (nL := 5) (own := RX5) (by decide +kernel) rfl rfl (by simp [lg_sl, Value.category]) ⟨rfl, rfl⟩ [(0, .ref (G.2.1 0)), (1, .int a1), (2, .int a2), (3, .int a3)] rfl ?_
  intro p e s m args below meth c C hr hk0
  rw [f_X5_proposed] at hf
  refine r_iload_n 1 C 1 dX5_proposed_0 rfl rfl ?_
  refine r_Si (As := [.int a1]) 4 C (c_X5_noProposer l G A a1 g _ rfl) (va_cwS 1 C.1.2.2.2.2 gX5_proposed_X5_noProposer rfl rfl rfl hd_X5_noProposer ⟨Nat.le_of_ble_eq_true rfl, Nat.le_of_ble_eq_true rfl⟩) rfl rfl (Nat.le_of_ble_eq_true rfl) dX5_proposed_1 rfl ?_
  refine r_if_ne 14 7 C dX5_proposed_4 rfl rfl (fun c1 => ?_) (fun c1 => ?_)
  · have hf := obt c1 hf
    refine r_iconst (v := (-1)) 15 C dX5_proposed_14 rfl (by decide) ?_
    have hf := Option.some.inj hf
    subst hf
    exact r_iret C hr hk0 dX5_proposed_15
  · have hf := obf c1 hf
    refine r_iload_n 8 C 2 dX5_proposed_7 rfl rfl ?_
    refine r_Si (As := [.int a2]) 11 C (c_X5_noSlot l G A a2 g _ rfl) (va_cwS 1 C.1.2.2.2.2 gX5_proposed_X5_noSlot rfl rfl rfl hd_X5_noSlot ⟨Nat.le_of_ble_eq_true rfl, Nat.le_of_ble_eq_true rfl⟩) rfl rfl (Nat.le_of_ble_eq_true rfl) dX5_proposed_8 rfl ?_
    refine r_if_eq 16 14 C dX5_proposed_11 rfl rfl (fun c2 => ?_) (fun c2 => ?_)
    · have hf := obf c2 hf
      refine r_iload_n 17 C 3 dX5_proposed_16 rfl rfl ?_
      refine r_iconst (v := 0) 18 C dX5_proposed_17 rfl (by decide) ?_
      refine r_iconst (v := 2) 19 C dX5_proposed_18 rfl (by decide) ?_
      refine r_Si (As := [.int a3, .int 0, .int 2]) 22 C (c_X5_in l G A a3 0 2 g _ rfl) (va_cwS 3 C.1.2.2.2.2 gX5_proposed_X5_in rfl rfl rfl hd_X5_in ⟨Nat.le_of_ble_eq_true rfl, Nat.le_of_ble_eq_true rfl⟩) rfl rfl (Nat.le_of_ble_eq_true rfl) dX5_proposed_19 rfl ?_
      refine r_if_ne 28 25 C dX5_proposed_22 rfl rfl (fun c3 => ?_) (fun c3 => ?_)
      · have hf := obt c3 hf
        refine r_iload_n 29 C 3 dX5_proposed_28 rfl rfl ?_
        refine r_if_ne 57 32 C dX5_proposed_29 rfl rfl (fun c4 => ?_) (fun c4 => ?_)
        · have hf := oin c4 hf
          refine r_aload_n 58 C 0 dX5_proposed_57 rfl rfl ?_
          refine r_iload_n 59 C 2 dX5_proposed_58 rfl rfl ?_
          obtain ⟨x5, hx5, hf⟩ := ob hf
          refine r_Vi (As := [.int a2]) 62 C shM_0 rfl (c_X5_isOpen l G A a2 g _ hx5) (cwV 1 C.1.2.2.2.2 gX5_proposed_X5_isOpen rfl rfl rfl hd_X5_isOpen ⟨Nat.le_of_ble_eq_true rfl, Nat.le_of_ble_eq_true rfl⟩) rfl rfl (Nat.le_of_ble_eq_true rfl) dX5_proposed_59 rfl ?_
          refine r_if_ne 70 65 C dX5_proposed_62 rfl rfl (fun c6 => ?_) (fun c6 => ?_)
          · have hf := obt c6 hf
            refine r_iload_n 71 C 3 dX5_proposed_70 rfl rfl ?_
            refine r_iconst (v := 1) 72 C dX5_proposed_71 rfl (by decide) ?_
            refine r_icmp_ne 84 75 C dX5_proposed_72 rfl rfl (fun c7 => ?_) (fun c7 => ?_)
            · have hf := oin c7 hf
              refine r_aload_n 85 C 0 dX5_proposed_84 rfl rfl ?_
              refine r_iload_n 86 C 1 dX5_proposed_85 rfl rfl ?_
              refine r_iload_n 87 C 2 dX5_proposed_86 rfl rfl ?_
              obtain ⟨x8, hx8, hf⟩ := ob hf
              refine r_Vi (As := [.int a1, .int a2]) 90 C shM_0 rfl (c_X5_lacking l G A a1 a2 g _ hx8) (cwV 2 C.1.2.2.2.2 gX5_proposed_X5_lacking rfl rfl rfl hd_X5_lacking ⟨Nat.le_of_ble_eq_true rfl, Nat.le_of_ble_eq_true rfl⟩) rfl rfl (Nat.le_of_ble_eq_true rfl) dX5_proposed_87 rfl ?_
              have hf := Option.some.inj hf
              subst hf
              exact r_iret C hr hk0 dX5_proposed_90
            · have hf := oip c7 hf
              refine r_aload_n 76 C 0 dX5_proposed_75 rfl rfl ?_
              refine r_iload_n 77 C 1 dX5_proposed_76 rfl rfl ?_
              refine r_iload_n 78 C 2 dX5_proposed_77 rfl rfl ?_
              obtain ⟨x9, hx9, hf⟩ := ob hf
              refine r_Vi (As := [.int a1, .int a2]) 81 C shM_0 rfl (c_X5_bound l G A a1 a2 g _ hx9) (cwV 2 C.1.2.2.2.2 gX5_proposed_X5_bound rfl rfl rfl hd_X5_bound ⟨Nat.le_of_ble_eq_true rfl, Nat.le_of_ble_eq_true rfl⟩) rfl rfl (Nat.le_of_ble_eq_true rfl) dX5_proposed_78 rfl ?_
              refine r_goto 90 C dX5_proposed_81 rfl ?_
              have hf := Option.some.inj hf
              subst hf
              exact r_iret C hr hk0 dX5_proposed_90
          · have hf := obf c6 hf
            refine r_bipush (v := (-5)) 67 C dX5_proposed_65 rfl (by decide) ?_
            refine r_goto 90 C dX5_proposed_67 rfl ?_
            have hf := Option.some.inj hf
            subst hf
            exact r_iret C hr hk0 dX5_proposed_90
        · have hf := oip c4 hf
          refine r_aload_n 33 C 0 dX5_proposed_32 rfl rfl ?_
          refine r_getr 36 C (k := 0) shM_0 rfl hinX5 (by decide) rfl dX5_proposed_33 rfl (by decide +kernel) ?_
          refine r_iload_n 37 C 1 dX5_proposed_36 rfl rfl ?_
          refine r_iload_n 38 C 2 dX5_proposed_37 rfl rfl ?_
          refine r_Si (As := [.int a1, .int a2]) 41 C (c_X5_proposedAt l G A a1 a2 g _ rfl) (va_cwS 2 C.1.2.2.2.2 gX5_proposed_X5_proposedAt rfl rfl rfl hd_X5_proposedAt ⟨Nat.le_of_ble_eq_true rfl, Nat.le_of_ble_eq_true rfl⟩) rfl rfl (Nat.le_of_ble_eq_true rfl) dX5_proposed_38 rfl ?_
          obtain ⟨x10, hx10, hf⟩ := ob hf
          refine r_iaload 42 C shM_1 dX5_proposed_41 rfl hx10 ?_
          refine r_istore 44 C [(4, .int x10), (0, .ref (G.2.1 0)), (1, .int a1), (2, .int a2), (3, .int a3)] dX5_proposed_42 rfl rfl (by decide) rfl ?_
          refine r_iload 46 C 0 dX5_proposed_44 rfl rfl ?_
          refine r_if_ne 54 49 C dX5_proposed_46 rfl rfl (fun c11 => ?_) (fun c11 => ?_)
          · have hf := oin c11 hf
            refine r_iload 56 C 0 dX5_proposed_54 rfl rfl ?_
            have hf := Option.some.inj hf
            subst hf
            exact r_iret C hr hk0 dX5_proposed_56
          · have hf := oip c11 hf
            refine r_bipush (v := (-5)) 51 C dX5_proposed_49 rfl (by decide) ?_
            refine r_goto 56 C dX5_proposed_51 rfl ?_
            have hf := Option.some.inj hf
            subst hf
            exact r_iret C hr hk0 dX5_proposed_56
      · have hf := obf c3 hf
        refine r_bipush (v := (-2)) 27 C dX5_proposed_25 rfl (by decide) ?_
        have hf := Option.some.inj hf
        subst hf
        exact r_iret C hr hk0 dX5_proposed_27
    · have hf := obt c2 hf
      refine r_iconst (v := (-1)) 15 C dX5_proposed_14 rfl (by decide) ?_
      have hf := Option.some.inj hf
      subst hf
      exact r_iret C hr hk0 dX5_proposed_15
theorem in_X5_slot_X5 : ∀ w ∈ wsX50, w ∈ wsX5_slot := by decide +kernel
def rm_X5_slot : Room := { frames := 4, cells := 0, slots := 0, locals := 86 }
theorem hd_X5_slot : yX5_slot.cls = RX5 ∧ yX5_slot.cls ≠ "java/lang/invoke/MethodHandle" ∧ yX5_slot.cls ≠ "java/lang/invoke/VarHandle" ∧ (parseMethodDescriptor yX5_slot.desc).map (fun d => d.parameters.length) = some 2 := by decide +kernel
set_option maxRecDepth 100000 in
set_option maxHeartbeats 4000000 in
theorem c_X5_slot (l : Launch) (G : GG) (A : Nat → Prop) (a1 : Int32) (a2 : Int32)  (g : Mem) (res : Int32) (hf : f_X5_slot a1 a2 g = some res) : k_Mi l yX5_slot wsX5_slot rm_X5_slot G shM A [.ref (G.2.1 0), .int a1, .int a2] g res g := by
  have hinX5 : ∀ w ∈ wsX50, w ∈ wsX5_slot := in_X5_slot_X5
  refine k_ofi (cc := cX5_slot) (nL := 3) (own := RX5) (by decide +kernel) rfl rfl (by simp [lg_sl, Value.category]) ⟨rfl, rfl⟩ [(0, .ref (G.2.1 0)), (1, .int a1), (2, .int a2)] rfl ?_
  intro p e s m args below meth c C hr hk0
  rw [f_X5_slot] at hf
  refine r_iload_n 1 C 1 dX5_slot_0 rfl rfl ?_
  refine r_Si (As := [.int a1]) 4 C (c_X5_noSlot l G A a1 g _ rfl) (va_cwS 1 C.1.2.2.2.2 gX5_slot_X5_noSlot rfl rfl rfl hd_X5_noSlot ⟨Nat.le_of_ble_eq_true rfl, Nat.le_of_ble_eq_true rfl⟩) rfl rfl (Nat.le_of_ble_eq_true rfl) dX5_slot_1 rfl ?_
  refine r_if_eq 9 7 C dX5_slot_4 rfl rfl (fun c1 => ?_) (fun c1 => ?_)
  · have hf := obf c1 hf
    refine r_iload_n 10 C 2 dX5_slot_9 rfl rfl ?_
    by_cases c5 : a2 = 0
    · have hf := oip c5 hf
      refine r_tabIn 48 C (off := 38) dX5_slot_10 (by rw [c5]; decide) (by rw [c5]; decide) (by rw [c5]; rfl) rfl ?_
      refine r_aload_n 49 C 0 dX5_slot_48 rfl rfl ?_
      refine r_iload_n 50 C 1 dX5_slot_49 rfl rfl ?_
      obtain ⟨x2, hx2, hf⟩ := ob hf
      refine r_Vi (As := [.int a1]) 53 C shM_0 rfl (c_X5_chosen l G A a1 g _ hx2) (cwV 1 C.1.2.2.2.2 gX5_slot_X5_chosen rfl rfl rfl hd_X5_chosen ⟨Nat.le_of_ble_eq_true rfl, Nat.le_of_ble_eq_true rfl⟩) rfl rfl (Nat.le_of_ble_eq_true rfl) dX5_slot_50 rfl ?_
      refine r_if_ne 61 56 C dX5_slot_53 rfl rfl (fun c3 => ?_) (fun c3 => ?_)
      · have hf := oin c3 hf
        refine r_aload_n 62 C 0 dX5_slot_61 rfl rfl ?_
        refine r_iload_n 63 C 1 dX5_slot_62 rfl rfl ?_
        obtain ⟨x4, hx4, hf⟩ := ob hf
        refine r_Vi (As := [.int a1]) 66 C shM_0 rfl (c_X5_chosen l G A a1 g _ hx4) (cwV 1 C.1.2.2.2.2 gX5_slot_X5_chosen rfl rfl rfl hd_X5_chosen ⟨Nat.le_of_ble_eq_true rfl, Nat.le_of_ble_eq_true rfl⟩) rfl rfl (Nat.le_of_ble_eq_true rfl) dX5_slot_63 rfl ?_
        have hf := Option.some.inj hf
        subst hf
        exact r_iret C hr hk0 dX5_slot_66
      · have hf := oip c3 hf
        refine r_bipush (v := (-5)) 58 C dX5_slot_56 rfl (by decide) ?_
        refine r_goto 66 C dX5_slot_58 rfl ?_
        have hf := Option.some.inj hf
        subst hf
        exact r_iret C hr hk0 dX5_slot_66
    have hf := oin c5 hf
    by_cases c9 : a2 = 1
    · have hf := oip c9 hf
      refine r_tabIn 67 C (off := 57) dX5_slot_10 (by rw [c9]; decide) (by rw [c9]; decide) (by rw [c9]; rfl) rfl ?_
      refine r_aload_n 68 C 0 dX5_slot_67 rfl rfl ?_
      refine r_iload_n 69 C 1 dX5_slot_68 rfl rfl ?_
      obtain ⟨x6, hx6, hf⟩ := ob hf
      refine r_Vi (As := [.int a1]) 72 C shM_0 rfl (c_X5_chosen l G A a1 g _ hx6) (cwV 1 C.1.2.2.2.2 gX5_slot_X5_chosen rfl rfl rfl hd_X5_chosen ⟨Nat.le_of_ble_eq_true rfl, Nat.le_of_ble_eq_true rfl⟩) rfl rfl (Nat.le_of_ble_eq_true rfl) dX5_slot_69 rfl ?_
      refine r_if_ne 80 75 C dX5_slot_72 rfl rfl (fun c7 => ?_) (fun c7 => ?_)
      · have hf := oin c7 hf
        refine r_aload_n 81 C 0 dX5_slot_80 rfl rfl ?_
        refine r_getr 84 C (k := 0) shM_0 rfl hinX5 (by decide) rfl dX5_slot_81 rfl (by decide +kernel) ?_
        refine r_sipush (v := 853) 87 C dX5_slot_84 rfl (by decide) ?_
        refine r_iload_n 88 C 1 dX5_slot_87 rfl rfl ?_
        refine r_iadd 89 C dX5_slot_88 rfl ?_
        refine r_iconst (v := 1) 90 C dX5_slot_89 rfl (by decide) ?_
        refine r_isub 91 C dX5_slot_90 rfl ?_
        obtain ⟨x8, hx8, hf⟩ := ob hf
        refine r_iaload 92 C shM_1 dX5_slot_91 rfl hx8 ?_
        have hf := Option.some.inj hf
        subst hf
        exact r_iret C hr hk0 dX5_slot_92
      · have hf := oip c7 hf
        refine r_bipush (v := (-5)) 77 C dX5_slot_75 rfl (by decide) ?_
        refine r_goto 92 C dX5_slot_77 rfl ?_
        have hf := Option.some.inj hf
        subst hf
        exact r_iret C hr hk0 dX5_slot_92
    have hf := oin c9 hf
    by_cases c13 : a2 = 2
    · have hf := oip c13 hf
      refine r_tabIn 93 C (off := 83) dX5_slot_10 (by rw [c13]; decide) (by rw [c13]; decide) (by rw [c13]; rfl) rfl ?_
      refine r_aload_n 94 C 0 dX5_slot_93 rfl rfl ?_
      refine r_iload_n 95 C 1 dX5_slot_94 rfl rfl ?_
      obtain ⟨x10, hx10, hf⟩ := ob hf
      refine r_Vi (As := [.int a1]) 98 C shM_0 rfl (c_X5_isOpen l G A a1 g _ hx10) (cwV 1 C.1.2.2.2.2 gX5_slot_X5_isOpen rfl rfl rfl hd_X5_isOpen ⟨Nat.le_of_ble_eq_true rfl, Nat.le_of_ble_eq_true rfl⟩) rfl rfl (Nat.le_of_ble_eq_true rfl) dX5_slot_95 rfl ?_
      refine r_if_eq 109 101 C dX5_slot_98 rfl rfl (fun c11 => ?_) (fun c11 => ?_)
      · have hf := obf c11 hf
        refine r_bipush (v := (-5)) 111 C dX5_slot_109 rfl (by decide) ?_
        have hf := Option.some.inj hf
        subst hf
        exact r_iret C hr hk0 dX5_slot_111
      · have hf := obt c11 hf
        refine r_aload_n 102 C 0 dX5_slot_101 rfl rfl ?_
        refine r_iload_n 103 C 1 dX5_slot_102 rfl rfl ?_
        obtain ⟨x12, hx12, hf⟩ := ob hf
        refine r_Vi (As := [.int a1]) 106 C shM_0 rfl (c_X5_voters l G A a1 g _ hx12) (cwV 1 C.1.2.2.2.2 gX5_slot_X5_voters rfl rfl rfl hd_X5_voters ⟨Nat.le_of_ble_eq_true rfl, Nat.le_of_ble_eq_true rfl⟩) rfl rfl (Nat.le_of_ble_eq_true rfl) dX5_slot_103 rfl ?_
        refine r_goto 111 C dX5_slot_106 rfl ?_
        have hf := Option.some.inj hf
        subst hf
        exact r_iret C hr hk0 dX5_slot_111
    have hf := oin c13 hf
    by_cases c17 : a2 = 3
    · have hf := oip c17 hf
      refine r_tabIn 112 C (off := 102) dX5_slot_10 (by rw [c17]; decide) (by rw [c17]; decide) (by rw [c17]; rfl) rfl ?_
      refine r_aload_n 113 C 0 dX5_slot_112 rfl rfl ?_
      refine r_iload_n 114 C 1 dX5_slot_113 rfl rfl ?_
      obtain ⟨x14, hx14, hf⟩ := ob hf
      refine r_Vi (As := [.int a1]) 117 C shM_0 rfl (c_X5_isOpen l G A a1 g _ hx14) (cwV 1 C.1.2.2.2.2 gX5_slot_X5_isOpen rfl rfl rfl hd_X5_isOpen ⟨Nat.le_of_ble_eq_true rfl, Nat.le_of_ble_eq_true rfl⟩) rfl rfl (Nat.le_of_ble_eq_true rfl) dX5_slot_114 rfl ?_
      refine r_if_eq 128 120 C dX5_slot_117 rfl rfl (fun c15 => ?_) (fun c15 => ?_)
      · have hf := obf c15 hf
        refine r_bipush (v := (-5)) 130 C dX5_slot_128 rfl (by decide) ?_
        have hf := Option.some.inj hf
        subst hf
        exact r_iret C hr hk0 dX5_slot_130
      · have hf := obt c15 hf
        refine r_aload_n 121 C 0 dX5_slot_120 rfl rfl ?_
        refine r_iload_n 122 C 1 dX5_slot_121 rfl rfl ?_
        obtain ⟨x16, hx16, hf⟩ := ob hf
        refine r_Vi (As := [.int a1]) 125 C shM_0 rfl (c_X5_firstSize l G A a1 g _ hx16) (cwV 1 C.1.2.2.2.2 gX5_slot_X5_firstSize rfl rfl rfl hd_X5_firstSize ⟨Nat.le_of_ble_eq_true rfl, Nat.le_of_ble_eq_true rfl⟩) rfl rfl (Nat.le_of_ble_eq_true rfl) dX5_slot_122 rfl ?_
        refine r_goto 130 C dX5_slot_125 rfl ?_
        have hf := Option.some.inj hf
        subst hf
        exact r_iret C hr hk0 dX5_slot_130
    have hf := oin c17 hf
    by_cases c21 : a2 = 4
    · have hf := oip c21 hf
      refine r_tabIn 131 C (off := 121) dX5_slot_10 (by rw [c21]; decide) (by rw [c21]; decide) (by rw [c21]; rfl) rfl ?_
      refine r_aload_n 132 C 0 dX5_slot_131 rfl rfl ?_
      refine r_iload_n 133 C 1 dX5_slot_132 rfl rfl ?_
      obtain ⟨x18, hx18, hf⟩ := ob hf
      refine r_Vi (As := [.int a1]) 136 C shM_0 rfl (c_X5_isOpen l G A a1 g _ hx18) (cwV 1 C.1.2.2.2.2 gX5_slot_X5_isOpen rfl rfl rfl hd_X5_isOpen ⟨Nat.le_of_ble_eq_true rfl, Nat.le_of_ble_eq_true rfl⟩) rfl rfl (Nat.le_of_ble_eq_true rfl) dX5_slot_133 rfl ?_
      refine r_if_eq 147 139 C dX5_slot_136 rfl rfl (fun c19 => ?_) (fun c19 => ?_)
      · have hf := obf c19 hf
        refine r_bipush (v := (-5)) 149 C dX5_slot_147 rfl (by decide) ?_
        have hf := Option.some.inj hf
        subst hf
        exact r_iret C hr hk0 dX5_slot_149
      · have hf := obt c19 hf
        refine r_aload_n 140 C 0 dX5_slot_139 rfl rfl ?_
        refine r_iload_n 141 C 1 dX5_slot_140 rfl rfl ?_
        obtain ⟨x20, hx20, hf⟩ := ob hf
        refine r_Vi (As := [.int a1]) 144 C shM_0 rfl (c_X5_secondSize l G A a1 g _ hx20) (cwV 1 C.1.2.2.2.2 gX5_slot_X5_secondSize rfl rfl rfl hd_X5_secondSize ⟨Nat.le_of_ble_eq_true rfl, Nat.le_of_ble_eq_true rfl⟩) rfl rfl (Nat.le_of_ble_eq_true rfl) dX5_slot_141 rfl ?_
        refine r_goto 149 C dX5_slot_144 rfl ?_
        have hf := Option.some.inj hf
        subst hf
        exact r_iret C hr hk0 dX5_slot_149
    have hf := oin c21 hf
    by_cases c24 : a2 = 5
    · have hf := oip c24 hf
      refine r_tabIn 150 C (off := 140) dX5_slot_10 (by rw [c24]; decide) (by rw [c24]; decide) (by rw [c24]; rfl) rfl ?_
      refine r_aload_n 151 C 0 dX5_slot_150 rfl rfl ?_
      refine r_iload_n 152 C 1 dX5_slot_151 rfl rfl ?_
      obtain ⟨x22, hx22, hf⟩ := ob hf
      refine r_Vi (As := [.int a1]) 155 C shM_0 rfl (c_X5_isTrimmed l G A a1 g _ hx22) (cwV 1 C.1.2.2.2.2 gX5_slot_X5_isTrimmed rfl rfl rfl hd_X5_isTrimmed ⟨Nat.le_of_ble_eq_true rfl, Nat.le_of_ble_eq_true rfl⟩) rfl rfl (Nat.le_of_ble_eq_true rfl) dX5_slot_152 rfl ?_
      refine r_if_eq 162 158 C dX5_slot_155 rfl rfl (fun c23 => ?_) (fun c23 => ?_)
      · have hf := obf c23 hf
        refine r_iconst (v := 0) 163 C dX5_slot_162 rfl (by decide) ?_
        have hf := Option.some.inj hf
        subst hf
        exact r_iret C hr hk0 dX5_slot_163
      · have hf := obt c23 hf
        refine r_iconst (v := 1) 159 C dX5_slot_158 rfl (by decide) ?_
        refine r_goto 163 C dX5_slot_159 rfl ?_
        have hf := Option.some.inj hf
        subst hf
        exact r_iret C hr hk0 dX5_slot_163
    have hf := oin c24 hf
    refine r_tabOut 164 C dX5_slot_10 (tab_o (fun k h1 h2 => by
      have h3 : k = 0 ∨ k = 1 ∨ k = 2 ∨ k = 3 ∨ k = 4 ∨ k = 5 := by omega
      rcases h3 with rfl | rfl | rfl | rfl | rfl | rfl
      · exact c5
      · exact c9
      · exact c13
      · exact c17
      · exact c21
      · exact c24)) rfl ?_
    refine r_bipush (v := (-2)) 166 C dX5_slot_164 rfl (by decide) ?_
    have hf := Option.some.inj hf
    subst hf
    exact r_iret C hr hk0 dX5_slot_166
  · have hf := obt c1 hf
    refine r_iconst (v := (-1)) 8 C dX5_slot_7 rfl (by decide) ?_
    have hf := Option.some.inj hf
    subst hf
    exact r_iret C hr hk0 dX5_slot_8
theorem in_X5_could_X5 : ∀ w ∈ wsX50, w ∈ wsX5_could := by decide +kernel
def rm_X5_could : Room := { frames := 3, cells := 0, slots := 0, locals := 65 }
theorem hd_X5_could : yX5_could.cls = RX5 ∧ yX5_could.cls ≠ "java/lang/invoke/MethodHandle" ∧ yX5_could.cls ≠ "java/lang/invoke/VarHandle" ∧ (parseMethodDescriptor yX5_could.desc).map (fun d => d.parameters.length) = some 2 := by decide +kernel
set_option maxRecDepth 100000 in
set_option maxHeartbeats 4000000 in
theorem t_X5_could_L47 {p : Program} {l : Launch} {e : Env} {s : State} {m : MethodId} {args : Array Value} {below : List Frame} {meth : Method} {c : Code} {G : GG} {A : Nat → Prop} (C : KX p s m args c cX5_could 5 RX5 wsX5_could G shM A) (hr : meth.sig.returnType = (some .int)) (hk0 : meth.locks = false) (a1 : Int32) (a2 : Int32)  (v1 : Int32) (v2 : Int32) (g : Mem) {res : Int32} {k : Int32 → Option Int32} (hk : ∀ (v3 : Int32), k v3 = some res → JJ p l e rm_X5_could s m args below meth c 5 G shM A (MQ below (k_Qi G shM A res g) args s 0 0 A) 110 [(0, .ref (G.2.1 0)), (1, .int v1), (3, .int v3)] [] g) : ∀ (n : Nat) (v3 : Int32) (v4 : Int32), f_X5_could_L47 k v1 v2 g n v3 v4 = some res → JJ p l e rm_X5_could s m args below meth c 5 G shM A (MQ below (k_Qi G shM A res g) args s 0 0 A) 47 [(0, .ref (G.2.1 0)), (1, .int v1), (2, .int v2), (3, .int v3), (4, .int v4)] [] g := by
  have hinX5 : ∀ w ∈ wsX50, w ∈ wsX5_could := in_X5_could_X5
  intro n
  induction n with
  | zero =>
    intro v3 v4 hf
    rw [f_X5_could_L47] at hf
    cases hf
  | succ n ih =>
    intro v3 v4 hf
    rw [f_X5_could_L47] at hf
    refine r_iload 49 C 4 dX5_could_47 rfl rfl ?_
    refine r_bipush (v := 6) 51 C dX5_could_49 rfl (by decide) ?_
    refine r_icmp_ge 110 54 C dX5_could_51 rfl rfl (fun c7 => ?_) (fun c7 => ?_)
    · have hf := oip c7 hf
      refine r_sub [(0, .ref (G.2.1 0)), (1, .int v1), (3, .int v3)] [0, 1, 3] rfl ?_
      exact hk _ hf
    · have hf := oin c7 hf
      refine r_iload_n 55 C 3 dX5_could_54 rfl rfl ?_
      refine r_aload_n 56 C 0 dX5_could_55 rfl rfl ?_
      refine r_iload_n 57 C 1 dX5_could_56 rfl rfl ?_
      obtain ⟨x8, hx8, hf⟩ := ob hf
      refine r_Vi (As := [.int v1]) 60 C shM_0 rfl (c_X5_voters l G A v1 g _ hx8) (cwV 1 C.1.2.2.2.2 gX5_could_X5_voters rfl rfl rfl hd_X5_voters ⟨Nat.le_of_ble_eq_true rfl, Nat.le_of_ble_eq_true rfl⟩) rfl rfl (Nat.le_of_ble_eq_true rfl) dX5_could_57 rfl ?_
      refine r_iload 62 C 4 dX5_could_60 rfl rfl ?_
      refine r_Si (As := [.int x8, .int v4]) 65 C (c_X5_isIn l G A x8 v4 g _ rfl) (va_cwS 2 C.1.2.2.2.2 gX5_could_X5_isIn rfl rfl rfl hd_X5_isIn ⟨Nat.le_of_ble_eq_true rfl, Nat.le_of_ble_eq_true rfl⟩) rfl rfl (Nat.le_of_ble_eq_true rfl) dX5_could_62 rfl ?_
      refine r_if_eq 101 68 C dX5_could_65 rfl rfl (fun c9 => ?_) (fun c9 => ?_)
      · have hf := obf c9 hf
        refine r_iconst (v := 0) 102 C dX5_could_101 rfl (by decide) ?_
        refine r_iadd 103 C dX5_could_102 rfl ?_
        obtain ⟨x10, hx10, hf⟩ := ol hf
        refine r_istore_n 104 C [(3, .int x10), (0, .ref (G.2.1 0)), (1, .int v1), (2, .int v2), (4, .int v4)] dX5_could_103 rfl hx10 (by decide) rfl ?_
        obtain ⟨x11, hx11, hf⟩ := ol hf
        refine r_iinc 107 C 4 x11 [(4, .int x11), (3, .int x10), (0, .ref (G.2.1 0)), (1, .int v1), (2, .int v2)] dX5_could_104 rfl rfl hx11.symm (by decide) rfl ?_
        refine r_goto 47 C dX5_could_107 rfl ?_
        refine r_sub [(0, .ref (G.2.1 0)), (1, .int v1), (2, .int v2), (3, .int x10), (4, .int x11)] [2, 3, 4, 1, 0] rfl ?_
        exact ih _ _ hf
      · have hf := obt c9 hf
        refine r_aload_n 69 C 0 dX5_could_68 rfl rfl ?_
        refine r_getr 72 C (k := 0) shM_0 rfl hinX5 (by decide) rfl dX5_could_69 rfl (by decide +kernel) ?_
        refine r_iload 74 C 4 dX5_could_72 rfl rfl ?_
        refine r_iload_n 75 C 1 dX5_could_74 rfl rfl ?_
        refine r_Si (As := [.int v4, .int v1]) 78 C (c_X5_voteAt l G A v4 v1 g _ rfl) (va_cwS 2 C.1.2.2.2.2 gX5_could_X5_voteAt rfl rfl rfl hd_X5_voteAt ⟨Nat.le_of_ble_eq_true rfl, Nat.le_of_ble_eq_true rfl⟩) rfl rfl (Nat.le_of_ble_eq_true rfl) dX5_could_75 rfl ?_
        obtain ⟨x12, hx12, hf⟩ := ob hf
        refine r_iaload 79 C shM_1 dX5_could_78 rfl hx12 ?_
        refine r_iload_n 80 C 2 dX5_could_79 rfl rfl ?_
        refine r_icmp_eq 97 83 C dX5_could_80 rfl rfl (fun c13 => ?_) (fun c13 => ?_)
        · have hf := oip c13 hf
          refine r_iconst (v := 1) 98 C dX5_could_97 rfl (by decide) ?_
          refine r_goto 102 C dX5_could_98 rfl ?_
          refine r_iadd 103 C dX5_could_102 rfl ?_
          obtain ⟨x14, hx14, hf⟩ := ol hf
          refine r_istore_n 104 C [(3, .int x14), (0, .ref (G.2.1 0)), (1, .int v1), (2, .int v2), (4, .int v4)] dX5_could_103 rfl hx14 (by decide) rfl ?_
          obtain ⟨x15, hx15, hf⟩ := ol hf
          refine r_iinc 107 C 4 x15 [(4, .int x15), (3, .int x14), (0, .ref (G.2.1 0)), (1, .int v1), (2, .int v2)] dX5_could_104 rfl rfl hx15.symm (by decide) rfl ?_
          refine r_goto 47 C dX5_could_107 rfl ?_
          refine r_sub [(0, .ref (G.2.1 0)), (1, .int v1), (2, .int v2), (3, .int x14), (4, .int x15)] [2, 3, 4, 1, 0] rfl ?_
          exact ih _ _ hf
        · have hf := oin c13 hf
          refine r_aload_n 84 C 0 dX5_could_83 rfl rfl ?_
          refine r_getr 87 C (k := 0) shM_0 rfl hinX5 (by decide) rfl dX5_could_84 rfl (by decide +kernel) ?_
          refine r_bipush (v := 6) 89 C dX5_could_87 rfl (by decide) ?_
          refine r_iload 91 C 4 dX5_could_89 rfl rfl ?_
          refine r_iadd 92 C dX5_could_91 rfl ?_
          obtain ⟨x16, hx16, hf⟩ := ob hf
          refine r_iaload 93 C shM_1 dX5_could_92 rfl hx16 ?_
          refine r_iload_n 94 C 2 dX5_could_93 rfl rfl ?_
          refine r_icmp_gt 101 97 C dX5_could_94 rfl rfl (fun c17 => ?_) (fun c17 => ?_)
          · have hf := oip c17 hf
            refine r_iconst (v := 0) 102 C dX5_could_101 rfl (by decide) ?_
            refine r_iadd 103 C dX5_could_102 rfl ?_
            obtain ⟨x18, hx18, hf⟩ := ol hf
            refine r_istore_n 104 C [(3, .int x18), (0, .ref (G.2.1 0)), (1, .int v1), (2, .int v2), (4, .int v4)] dX5_could_103 rfl hx18 (by decide) rfl ?_
            obtain ⟨x19, hx19, hf⟩ := ol hf
            refine r_iinc 107 C 4 x19 [(4, .int x19), (3, .int x18), (0, .ref (G.2.1 0)), (1, .int v1), (2, .int v2)] dX5_could_104 rfl rfl hx19.symm (by decide) rfl ?_
            refine r_goto 47 C dX5_could_107 rfl ?_
            refine r_sub [(0, .ref (G.2.1 0)), (1, .int v1), (2, .int v2), (3, .int x18), (4, .int x19)] [2, 3, 4, 1, 0] rfl ?_
            exact ih _ _ hf
          · have hf := oin c17 hf
            refine r_iconst (v := 1) 98 C dX5_could_97 rfl (by decide) ?_
            refine r_goto 102 C dX5_could_98 rfl ?_
            refine r_iadd 103 C dX5_could_102 rfl ?_
            obtain ⟨x20, hx20, hf⟩ := ol hf
            refine r_istore_n 104 C [(3, .int x20), (0, .ref (G.2.1 0)), (1, .int v1), (2, .int v2), (4, .int v4)] dX5_could_103 rfl hx20 (by decide) rfl ?_
            obtain ⟨x21, hx21, hf⟩ := ol hf
            refine r_iinc 107 C 4 x21 [(4, .int x21), (3, .int x20), (0, .ref (G.2.1 0)), (1, .int v1), (2, .int v2)] dX5_could_104 rfl rfl hx21.symm (by decide) rfl ?_
            refine r_goto 47 C dX5_could_107 rfl ?_
            refine r_sub [(0, .ref (G.2.1 0)), (1, .int v1), (2, .int v2), (3, .int x20), (4, .int x21)] [2, 3, 4, 1, 0] rfl ?_
            exact ih _ _ hf
set_option maxRecDepth 100000 in
set_option maxHeartbeats 4000000 in
theorem c_X5_could (l : Launch) (G : GG) (A : Nat → Prop) (a1 : Int32) (a2 : Int32)  (g : Mem) (res : Int32) (hf : f_X5_could a1 a2 g = some res) : k_Mi l yX5_could wsX5_could rm_X5_could G shM A [.ref (G.2.1 0), .int a1, .int a2] g res g := by
  have hinX5 : ∀ w ∈ wsX50, w ∈ wsX5_could := in_X5_could_X5
  refine k_ofi (cc := cX5_could) (nL := 5) (own := RX5) (by decide +kernel) rfl rfl (by simp [lg_sl, Value.category]) ⟨rfl, rfl⟩ [(0, .ref (G.2.1 0)), (1, .int a1), (2, .int a2)] rfl ?_
  intro p e s m args below meth c C hr hk0
  rw [f_X5_could] at hf
  refine r_iload_n 1 C 1 dX5_could_0 rfl rfl ?_
  refine r_Si (As := [.int a1]) 4 C (c_X5_noSlot l G A a1 g _ rfl) (va_cwS 1 C.1.2.2.2.2 gX5_could_X5_noSlot rfl rfl rfl hd_X5_noSlot ⟨Nat.le_of_ble_eq_true rfl, Nat.le_of_ble_eq_true rfl⟩) rfl rfl (Nat.le_of_ble_eq_true rfl) dX5_could_1 rfl ?_
  refine r_if_eq 9 7 C dX5_could_4 rfl rfl (fun c1 => ?_) (fun c1 => ?_)
  · have hf := obf c1 hf
    refine r_iload_n 10 C 2 dX5_could_9 rfl rfl ?_
    refine r_iconst (v := 1) 11 C dX5_could_10 rfl (by decide) ?_
    refine r_sipush (v := 999) 14 C dX5_could_11 rfl (by decide) ?_
    refine r_Si (As := [.int a2, .int 1, .int 999]) 17 C (c_X5_in l G A a2 1 999 g _ rfl) (va_cwS 3 C.1.2.2.2.2 gX5_could_X5_in rfl rfl rfl hd_X5_in ⟨Nat.le_of_ble_eq_true rfl, Nat.le_of_ble_eq_true rfl⟩) rfl rfl (Nat.le_of_ble_eq_true rfl) dX5_could_14 rfl ?_
    refine r_if_ne 23 20 C dX5_could_17 rfl rfl (fun c2 => ?_) (fun c2 => ?_)
    · have hf := obt c2 hf
      refine r_aload_n 24 C 0 dX5_could_23 rfl rfl ?_
      refine r_iload_n 25 C 1 dX5_could_24 rfl rfl ?_
      obtain ⟨x3, hx3, hf⟩ := ob hf
      refine r_Vi (As := [.int a1]) 28 C shM_0 rfl (c_X5_isTrimmed l G A a1 g _ hx3) (cwV 1 C.1.2.2.2.2 gX5_could_X5_isTrimmed rfl rfl rfl hd_X5_isTrimmed ⟨Nat.le_of_ble_eq_true rfl, Nat.le_of_ble_eq_true rfl⟩) rfl rfl (Nat.le_of_ble_eq_true rfl) dX5_could_25 rfl ?_
      refine r_if_ne 39 31 C dX5_could_28 rfl rfl (fun c4 => ?_) (fun c4 => ?_)
      · have hf := obt c4 hf
        refine r_bipush (v := (-4)) 41 C dX5_could_39 rfl (by decide) ?_
        have hf := Option.some.inj hf
        subst hf
        exact r_iret C hr hk0 dX5_could_41
      · have hf := obf c4 hf
        refine r_aload_n 32 C 0 dX5_could_31 rfl rfl ?_
        refine r_iload_n 33 C 1 dX5_could_32 rfl rfl ?_
        obtain ⟨x5, hx5, hf⟩ := ob hf
        refine r_Vi (As := [.int a1]) 36 C shM_0 rfl (c_X5_isOpen l G A a1 g _ hx5) (cwV 1 C.1.2.2.2.2 gX5_could_X5_isOpen rfl rfl rfl hd_X5_isOpen ⟨Nat.le_of_ble_eq_true rfl, Nat.le_of_ble_eq_true rfl⟩) rfl rfl (Nat.le_of_ble_eq_true rfl) dX5_could_33 rfl ?_
        refine r_if_ne 42 39 C dX5_could_36 rfl rfl (fun c6 => ?_) (fun c6 => ?_)
        · have hf := obt c6 hf
          refine r_iconst (v := 0) 43 C dX5_could_42 rfl (by decide) ?_
          refine r_istore_n 44 C [(3, .int 0), (0, .ref (G.2.1 0)), (1, .int a1), (2, .int a2)] dX5_could_43 rfl rfl (by decide) rfl ?_
          refine r_iconst (v := 0) 45 C dX5_could_44 rfl (by decide) ?_
          refine r_istore 47 C [(4, .int 0), (3, .int 0), (0, .ref (G.2.1 0)), (1, .int a1), (2, .int a2)] dX5_could_45 rfl rfl (by decide) rfl ?_
          refine r_sub [(0, .ref (G.2.1 0)), (1, .int a1), (2, .int a2), (3, .int 0), (4, .int 0)] [2, 3, 4, 1, 0] rfl ?_
          refine t_X5_could_L47 C hr hk0 a1 a2 a1 a2 g (fun x22 hf => ?_) fuel0 _ _ hf
          refine r_iload_n 111 C 2 dX5_could_110 rfl rfl ?_
          refine r_aload_n 112 C 0 dX5_could_111 rfl rfl ?_
          refine r_iload_n 113 C 1 dX5_could_112 rfl rfl ?_
          obtain ⟨x23, hx23, hf⟩ := ob hf
          refine r_Vi (As := [.int a1]) 116 C shM_0 rfl (c_X5_secondSize l G A a1 g _ hx23) (cwV 1 C.1.2.2.2.2 gX5_could_X5_secondSize rfl rfl rfl hd_X5_secondSize ⟨Nat.le_of_ble_eq_true rfl, Nat.le_of_ble_eq_true rfl⟩) rfl rfl (Nat.le_of_ble_eq_true rfl) dX5_could_113 rfl ?_
          refine r_icmp_lt 123 119 C dX5_could_116 rfl rfl (fun c24 => ?_) (fun c24 => ?_)
          · have hf := oip c24 hf
            refine r_iconst (v := 0) 124 C dX5_could_123 rfl (by decide) ?_
            have hf := Option.some.inj hf
            subst hf
            exact r_iret C hr hk0 dX5_could_124
          · have hf := oin c24 hf
            refine r_iconst (v := 1) 120 C dX5_could_119 rfl (by decide) ?_
            refine r_goto 124 C dX5_could_120 rfl ?_
            have hf := Option.some.inj hf
            subst hf
            exact r_iret C hr hk0 dX5_could_124
        · have hf := obf c6 hf
          refine r_bipush (v := (-4)) 41 C dX5_could_39 rfl (by decide) ?_
          have hf := Option.some.inj hf
          subst hf
          exact r_iret C hr hk0 dX5_could_41
    · have hf := obf c2 hf
      refine r_bipush (v := (-2)) 22 C dX5_could_20 rfl (by decide) ?_
      have hf := Option.some.inj hf
      subst hf
      exact r_iret C hr hk0 dX5_could_22
  · have hf := obt c1 hf
    refine r_iconst (v := (-1)) 8 C dX5_could_7 rfl (by decide) ?_
    have hf := Option.some.inj hf
    subst hf
    exact r_iret C hr hk0 dX5_could_8
def rm_X5_witness : Room := { frames := 1, cells := 0, slots := 0, locals := 22 }
theorem hd_X5_witness : yX5_witness.cls = RX5 ∧ yX5_witness.cls ≠ "java/lang/invoke/MethodHandle" ∧ yX5_witness.cls ≠ "java/lang/invoke/VarHandle" ∧ (parseMethodDescriptor yX5_witness.desc).map (fun d => d.parameters.length) = some 4 := by decide +kernel
set_option maxRecDepth 100000 in
set_option maxHeartbeats 4000000 in
theorem t_X5_witness_L65 {p : Program} {l : Launch} {e : Env} {s : State} {m : MethodId} {args : Array Value} {below : List Frame} {meth : Method} {c : Code} {G : GG} {A : Nat → Prop} (C : KX p s m args c cX5_witness 8 RX5 wsX5_witness G shM A) (hr : meth.sig.returnType = (some .int)) (hk0 : meth.locks = false) (a1 : Int32) (a2 : Int32) (a3 : Int32) (a4 : Int32)  (v1 : Int32) (v2 : Int32) (v3 : Int32) (v4 : Int32) (g : Mem) {res : Int32} {k : Int32 → Int32 → Option Int32} (hk : ∀ (v5 : Int32) (v6 : Int32), k v5 v6 = some res → JJ p l e rm_X5_witness s m args below meth c 8 G shM A (MQ below (k_Qi G shM A res g) args s 0 0 A) 135 [(4, .int v4), (5, .int v5), (6, .int v6)] [] g) : ∀ (n : Nat) (v5 : Int32) (v6 : Int32) (v7 : Int32), f_X5_witness_L65 k v1 v2 v3 v4 n v5 v6 v7 = some res → JJ p l e rm_X5_witness s m args below meth c 8 G shM A (MQ below (k_Qi G shM A res g) args s 0 0 A) 65 [(1, .int v1), (2, .int v2), (3, .int v3), (4, .int v4), (5, .int v5), (6, .int v6), (7, .int v7)] [] g := by
  intro n
  induction n with
  | zero =>
    intro v5 v6 v7 hf
    rw [f_X5_witness_L65] at hf
    cases hf
  | succ n ih =>
    intro v5 v6 v7 hf
    rw [f_X5_witness_L65] at hf
    refine r_iload 67 C 6 dX5_witness_65 rfl rfl ?_
    refine r_bipush (v := 6) 69 C dX5_witness_67 rfl (by decide) ?_
    refine r_icmp_ge 135 72 C dX5_witness_69 rfl rfl (fun c7 => ?_) (fun c7 => ?_)
    · have hf := oip c7 hf
      refine r_sub [(4, .int v4), (5, .int v5), (6, .int v6)] [3, 4, 5] rfl ?_
      exact hk _ _ hf
    · have hf := oin c7 hf
      refine r_iload_n 73 C 0 dX5_witness_72 rfl rfl ?_
      refine r_iload 75 C 6 dX5_witness_73 rfl rfl ?_
      refine r_Si (As := [.int v1, .int v7]) 78 C (c_X5_isIn l G A v1 v7 g _ rfl) (va_cwS 2 C.1.2.2.2.2 gX5_witness_X5_isIn rfl rfl rfl hd_X5_isIn ⟨Nat.le_of_ble_eq_true rfl, Nat.le_of_ble_eq_true rfl⟩) rfl rfl (Nat.le_of_ble_eq_true rfl) dX5_witness_75 rfl ?_
      refine r_if_eq 102 81 C dX5_witness_78 rfl rfl (fun c8 => ?_) (fun c8 => ?_)
      · have hf := obf c8 hf
        refine r_iload_n 103 C 0 dX5_witness_102 rfl rfl ?_
        refine r_iload 105 C 6 dX5_witness_103 rfl rfl ?_
        refine r_Si (As := [.int v1, .int v7]) 108 C (c_X5_isIn l G A v1 v7 g _ rfl) (va_cwS 2 C.1.2.2.2.2 gX5_witness_X5_isIn rfl rfl rfl hd_X5_isIn ⟨Nat.le_of_ble_eq_true rfl, Nat.le_of_ble_eq_true rfl⟩) rfl rfl (Nat.le_of_ble_eq_true rfl) dX5_witness_105 rfl ?_
        refine r_if_eq 129 111 C dX5_witness_108 rfl rfl (fun c9 => ?_) (fun c9 => ?_)
        · have hf := obf c9 hf
          obtain ⟨x10, hx10, hf⟩ := ol hf
          refine r_iinc 132 C 6 x10 [(7, .int x10), (1, .int v1), (2, .int v2), (3, .int v3), (4, .int v4), (5, .int v5), (6, .int v6)] dX5_witness_129 rfl rfl hx10.symm (by decide) rfl ?_
          refine r_goto 65 C dX5_witness_132 rfl ?_
          refine r_sub [(1, .int v1), (2, .int v2), (3, .int v3), (4, .int v4), (5, .int v5), (6, .int v6), (7, .int x10)] [1, 2, 3, 4, 5, 6, 0] rfl ?_
          exact ih _ _ _ hf
        · have hf := obt c9 hf
          refine r_iload 113 C 5 dX5_witness_111 rfl rfl ?_
          obtain ⟨x11, hx11, hf⟩ := ob hf
          refine r_Si (As := [.int v6]) 116 C (c_X5_bits l G A v6 g _ hx11) (va_cwS 1 C.1.2.2.2.2 gX5_witness_X5_bits rfl rfl rfl hd_X5_bits ⟨Nat.le_of_ble_eq_true rfl, Nat.le_of_ble_eq_true rfl⟩) rfl rfl (Nat.le_of_ble_eq_true rfl) dX5_witness_113 rfl ?_
          refine r_iload_n 117 C 2 dX5_witness_116 rfl rfl ?_
          refine r_icmp_ge 129 120 C dX5_witness_117 rfl rfl (fun c12 => ?_) (fun c12 => ?_)
          · have hf := oip c12 hf
            obtain ⟨x13, hx13, hf⟩ := ol hf
            refine r_iinc 132 C 6 x13 [(7, .int x13), (1, .int v1), (2, .int v2), (3, .int v3), (4, .int v4), (5, .int v5), (6, .int v6)] dX5_witness_129 rfl rfl hx13.symm (by decide) rfl ?_
            refine r_goto 65 C dX5_witness_132 rfl ?_
            refine r_sub [(1, .int v1), (2, .int v2), (3, .int v3), (4, .int v4), (5, .int v5), (6, .int v6), (7, .int x13)] [1, 2, 3, 4, 5, 6, 0] rfl ?_
            exact ih _ _ _ hf
          · have hf := oin c12 hf
            refine r_iload 122 C 5 dX5_witness_120 rfl rfl ?_
            refine r_iconst (v := 1) 123 C dX5_witness_122 rfl (by decide) ?_
            refine r_iload 125 C 6 dX5_witness_123 rfl rfl ?_
            refine r_ishl 126 C dX5_witness_125 rfl ?_
            refine r_ior 127 C dX5_witness_126 rfl ?_
            obtain ⟨x14, hx14, hf⟩ := ol hf
            refine r_istore 129 C [(6, .int x14), (1, .int v1), (2, .int v2), (3, .int v3), (4, .int v4), (5, .int v5), (7, .int v7)] dX5_witness_127 rfl hx14 (by decide) rfl ?_
            obtain ⟨x15, hx15, hf⟩ := ol hf
            refine r_iinc 132 C 6 x15 [(7, .int x15), (6, .int x14), (1, .int v1), (2, .int v2), (3, .int v3), (4, .int v4), (5, .int v5)] dX5_witness_129 rfl rfl hx15.symm (by decide) rfl ?_
            refine r_goto 65 C dX5_witness_132 rfl ?_
            refine r_sub [(1, .int v1), (2, .int v2), (3, .int v3), (4, .int v4), (5, .int v5), (6, .int x14), (7, .int x15)] [2, 3, 4, 5, 6, 1, 0] rfl ?_
            exact ih _ _ _ hf
      · have hf := obt c8 hf
        refine r_iload 83 C 4 dX5_witness_81 rfl rfl ?_
        obtain ⟨x16, hx16, hf⟩ := ob hf
        refine r_Si (As := [.int v5]) 86 C (c_X5_bits l G A v5 g _ hx16) (va_cwS 1 C.1.2.2.2.2 gX5_witness_X5_bits rfl rfl rfl hd_X5_bits ⟨Nat.le_of_ble_eq_true rfl, Nat.le_of_ble_eq_true rfl⟩) rfl rfl (Nat.le_of_ble_eq_true rfl) dX5_witness_83 rfl ?_
        refine r_iload_n 87 C 1 dX5_witness_86 rfl rfl ?_
        refine r_icmp_ge 102 90 C dX5_witness_87 rfl rfl (fun c17 => ?_) (fun c17 => ?_)
        · have hf := oip c17 hf
          refine r_iload_n 103 C 0 dX5_witness_102 rfl rfl ?_
          refine r_iload 105 C 6 dX5_witness_103 rfl rfl ?_
          refine r_Si (As := [.int v1, .int v7]) 108 C (c_X5_isIn l G A v1 v7 g _ rfl) (va_cwS 2 C.1.2.2.2.2 gX5_witness_X5_isIn rfl rfl rfl hd_X5_isIn ⟨Nat.le_of_ble_eq_true rfl, Nat.le_of_ble_eq_true rfl⟩) rfl rfl (Nat.le_of_ble_eq_true rfl) dX5_witness_105 rfl ?_
          refine r_if_eq 129 111 C dX5_witness_108 rfl rfl (fun c18 => ?_) (fun c18 => ?_)
          · have hf := obf c18 hf
            obtain ⟨x19, hx19, hf⟩ := ol hf
            refine r_iinc 132 C 6 x19 [(7, .int x19), (1, .int v1), (2, .int v2), (3, .int v3), (4, .int v4), (5, .int v5), (6, .int v6)] dX5_witness_129 rfl rfl hx19.symm (by decide) rfl ?_
            refine r_goto 65 C dX5_witness_132 rfl ?_
            refine r_sub [(1, .int v1), (2, .int v2), (3, .int v3), (4, .int v4), (5, .int v5), (6, .int v6), (7, .int x19)] [1, 2, 3, 4, 5, 6, 0] rfl ?_
            exact ih _ _ _ hf
          · have hf := obt c18 hf
            refine r_iload 113 C 5 dX5_witness_111 rfl rfl ?_
            obtain ⟨x20, hx20, hf⟩ := ob hf
            refine r_Si (As := [.int v6]) 116 C (c_X5_bits l G A v6 g _ hx20) (va_cwS 1 C.1.2.2.2.2 gX5_witness_X5_bits rfl rfl rfl hd_X5_bits ⟨Nat.le_of_ble_eq_true rfl, Nat.le_of_ble_eq_true rfl⟩) rfl rfl (Nat.le_of_ble_eq_true rfl) dX5_witness_113 rfl ?_
            refine r_iload_n 117 C 2 dX5_witness_116 rfl rfl ?_
            refine r_icmp_ge 129 120 C dX5_witness_117 rfl rfl (fun c21 => ?_) (fun c21 => ?_)
            · have hf := oip c21 hf
              obtain ⟨x22, hx22, hf⟩ := ol hf
              refine r_iinc 132 C 6 x22 [(7, .int x22), (1, .int v1), (2, .int v2), (3, .int v3), (4, .int v4), (5, .int v5), (6, .int v6)] dX5_witness_129 rfl rfl hx22.symm (by decide) rfl ?_
              refine r_goto 65 C dX5_witness_132 rfl ?_
              refine r_sub [(1, .int v1), (2, .int v2), (3, .int v3), (4, .int v4), (5, .int v5), (6, .int v6), (7, .int x22)] [1, 2, 3, 4, 5, 6, 0] rfl ?_
              exact ih _ _ _ hf
            · have hf := oin c21 hf
              refine r_iload 122 C 5 dX5_witness_120 rfl rfl ?_
              refine r_iconst (v := 1) 123 C dX5_witness_122 rfl (by decide) ?_
              refine r_iload 125 C 6 dX5_witness_123 rfl rfl ?_
              refine r_ishl 126 C dX5_witness_125 rfl ?_
              refine r_ior 127 C dX5_witness_126 rfl ?_
              obtain ⟨x23, hx23, hf⟩ := ol hf
              refine r_istore 129 C [(6, .int x23), (1, .int v1), (2, .int v2), (3, .int v3), (4, .int v4), (5, .int v5), (7, .int v7)] dX5_witness_127 rfl hx23 (by decide) rfl ?_
              obtain ⟨x24, hx24, hf⟩ := ol hf
              refine r_iinc 132 C 6 x24 [(7, .int x24), (6, .int x23), (1, .int v1), (2, .int v2), (3, .int v3), (4, .int v4), (5, .int v5)] dX5_witness_129 rfl rfl hx24.symm (by decide) rfl ?_
              refine r_goto 65 C dX5_witness_132 rfl ?_
              refine r_sub [(1, .int v1), (2, .int v2), (3, .int v3), (4, .int v4), (5, .int v5), (6, .int x23), (7, .int x24)] [2, 3, 4, 5, 6, 1, 0] rfl ?_
              exact ih _ _ _ hf
        · have hf := oin c17 hf
          refine r_iload 92 C 4 dX5_witness_90 rfl rfl ?_
          refine r_iconst (v := 1) 93 C dX5_witness_92 rfl (by decide) ?_
          refine r_iload 95 C 6 dX5_witness_93 rfl rfl ?_
          refine r_ishl 96 C dX5_witness_95 rfl ?_
          refine r_ior 97 C dX5_witness_96 rfl ?_
          obtain ⟨x25, hx25, hf⟩ := ol hf
          refine r_istore 99 C [(5, .int x25), (1, .int v1), (2, .int v2), (3, .int v3), (4, .int v4), (6, .int v6), (7, .int v7)] dX5_witness_97 rfl hx25 (by decide) rfl ?_
          refine r_goto 129 C dX5_witness_99 rfl ?_
          obtain ⟨x26, hx26, hf⟩ := ol hf
          refine r_iinc 132 C 6 x26 [(7, .int x26), (5, .int x25), (1, .int v1), (2, .int v2), (3, .int v3), (4, .int v4), (6, .int v6)] dX5_witness_129 rfl rfl hx26.symm (by decide) rfl ?_
          refine r_goto 65 C dX5_witness_132 rfl ?_
          refine r_sub [(1, .int v1), (2, .int v2), (3, .int v3), (4, .int v4), (5, .int x25), (6, .int v6), (7, .int x26)] [2, 3, 4, 5, 1, 6, 0] rfl ?_
          exact ih _ _ _ hf
set_option maxRecDepth 100000 in
set_option maxHeartbeats 4000000 in
theorem c_X5_witness (l : Launch) (G : GG) (A : Nat → Prop) (a1 : Int32) (a2 : Int32) (a3 : Int32) (a4 : Int32)  (g : Mem) (res : Int32) (hf : f_X5_witness a1 a2 a3 a4 = some res) : k_Mi l yX5_witness wsX5_witness rm_X5_witness G shM A [.ref (G.2.1 0), .int a1, .int a2, .int a3, .int a4] g res g := by
  refine k_ofi (cc := cX5_witness) (nL := 8) (own := RX5) (by decide +kernel) rfl rfl (by simp [lg_sl, Value.category]) ⟨rfl, rfl⟩ [(0, .ref (G.2.1 0)), (1, .int a1), (2, .int a2), (3, .int a3), (4, .int a4)] rfl ?_
  intro p e s m args below meth c C hr hk0
  rw [f_X5_witness] at hf
  refine r_iload_n 1 C 1 dX5_witness_0 rfl rfl ?_
  refine r_iconst (v := 1) 2 C dX5_witness_1 rfl (by decide) ?_
  refine r_bipush (v := 63) 4 C dX5_witness_2 rfl (by decide) ?_
  refine r_Si (As := [.int a1, .int 1, .int 63]) 7 C (c_X5_in l G A a1 1 63 g _ rfl) (va_cwS 3 C.1.2.2.2.2 gX5_witness_X5_in rfl rfl rfl hd_X5_in ⟨Nat.le_of_ble_eq_true rfl, Nat.le_of_ble_eq_true rfl⟩) rfl rfl (Nat.le_of_ble_eq_true rfl) dX5_witness_4 rfl ?_
  refine r_if_eq 40 10 C dX5_witness_7 rfl rfl (fun c1 => ?_) (fun c1 => ?_)
  · have hf := obf c1 hf
    refine r_bipush (v := (-2)) 42 C dX5_witness_40 rfl (by decide) ?_
    have hf := Option.some.inj hf
    subst hf
    exact r_iret C hr hk0 dX5_witness_42
  · have hf := obt c1 hf
    refine r_iload_n 11 C 2 dX5_witness_10 rfl rfl ?_
    refine r_iconst (v := 1) 12 C dX5_witness_11 rfl (by decide) ?_
    refine r_bipush (v := 6) 14 C dX5_witness_12 rfl (by decide) ?_
    refine r_Si (As := [.int a2, .int 1, .int 6]) 17 C (c_X5_in l G A a2 1 6 g _ rfl) (va_cwS 3 C.1.2.2.2.2 gX5_witness_X5_in rfl rfl rfl hd_X5_in ⟨Nat.le_of_ble_eq_true rfl, Nat.le_of_ble_eq_true rfl⟩) rfl rfl (Nat.le_of_ble_eq_true rfl) dX5_witness_14 rfl ?_
    refine r_if_eq 40 20 C dX5_witness_17 rfl rfl (fun c2 => ?_) (fun c2 => ?_)
    · have hf := obf c2 hf
      refine r_bipush (v := (-2)) 42 C dX5_witness_40 rfl (by decide) ?_
      have hf := Option.some.inj hf
      subst hf
      exact r_iret C hr hk0 dX5_witness_42
    · have hf := obt c2 hf
      refine r_iload_n 21 C 3 dX5_witness_20 rfl rfl ?_
      refine r_iconst (v := 1) 22 C dX5_witness_21 rfl (by decide) ?_
      refine r_bipush (v := 6) 24 C dX5_witness_22 rfl (by decide) ?_
      refine r_Si (As := [.int a3, .int 1, .int 6]) 27 C (c_X5_in l G A a3 1 6 g _ rfl) (va_cwS 3 C.1.2.2.2.2 gX5_witness_X5_in rfl rfl rfl hd_X5_in ⟨Nat.le_of_ble_eq_true rfl, Nat.le_of_ble_eq_true rfl⟩) rfl rfl (Nat.le_of_ble_eq_true rfl) dX5_witness_24 rfl ?_
      refine r_if_eq 40 30 C dX5_witness_27 rfl rfl (fun c3 => ?_) (fun c3 => ?_)
      · have hf := obf c3 hf
        refine r_bipush (v := (-2)) 42 C dX5_witness_40 rfl (by decide) ?_
        have hf := Option.some.inj hf
        subst hf
        exact r_iret C hr hk0 dX5_witness_42
      · have hf := obt c3 hf
        refine r_iload 32 C 4 dX5_witness_30 rfl rfl ?_
        refine r_iconst (v := 0) 33 C dX5_witness_32 rfl (by decide) ?_
        refine r_iconst (v := 1) 34 C dX5_witness_33 rfl (by decide) ?_
        refine r_Si (As := [.int a4, .int 0, .int 1]) 37 C (c_X5_in l G A a4 0 1 g _ rfl) (va_cwS 3 C.1.2.2.2.2 gX5_witness_X5_in rfl rfl rfl hd_X5_in ⟨Nat.le_of_ble_eq_true rfl, Nat.le_of_ble_eq_true rfl⟩) rfl rfl (Nat.le_of_ble_eq_true rfl) dX5_witness_34 rfl ?_
        refine r_if_ne 43 40 C dX5_witness_37 rfl rfl (fun c4 => ?_) (fun c4 => ?_)
        · have hf := obt c4 hf
          refine r_iload_n 44 C 2 dX5_witness_43 rfl rfl ?_
          refine r_iload_n 45 C 3 dX5_witness_44 rfl rfl ?_
          refine r_iadd 46 C dX5_witness_45 rfl ?_
          refine r_iload_n 47 C 1 dX5_witness_46 rfl rfl ?_
          obtain ⟨x5, hx5, hf⟩ := ob hf
          refine r_Si (As := [.int a1]) 50 C (c_X5_bits l G A a1 g _ hx5) (va_cwS 1 C.1.2.2.2.2 gX5_witness_X5_bits rfl rfl rfl hd_X5_bits ⟨Nat.le_of_ble_eq_true rfl, Nat.le_of_ble_eq_true rfl⟩) rfl rfl (Nat.le_of_ble_eq_true rfl) dX5_witness_47 rfl ?_
          refine r_icmp_le 56 53 C dX5_witness_50 rfl rfl (fun c6 => ?_) (fun c6 => ?_)
          · have hf := oip c6 hf
            refine r_iconst (v := 0) 57 C dX5_witness_56 rfl (by decide) ?_
            refine r_istore 59 C [(5, .int 0), (0, .ref (G.2.1 0)), (1, .int a1), (2, .int a2), (3, .int a3), (4, .int a4)] dX5_witness_57 rfl rfl (by decide) rfl ?_
            refine r_iconst (v := 0) 60 C dX5_witness_59 rfl (by decide) ?_
            refine r_istore 62 C [(6, .int 0), (5, .int 0), (0, .ref (G.2.1 0)), (1, .int a1), (2, .int a2), (3, .int a3), (4, .int a4)] dX5_witness_60 rfl rfl (by decide) rfl ?_
            refine r_iconst (v := 0) 63 C dX5_witness_62 rfl (by decide) ?_
            refine r_istore 65 C [(7, .int 0), (6, .int 0), (5, .int 0), (0, .ref (G.2.1 0)), (1, .int a1), (2, .int a2), (3, .int a3), (4, .int a4)] dX5_witness_63 rfl rfl (by decide) rfl ?_
            refine r_sub [(1, .int a1), (2, .int a2), (3, .int a3), (4, .int a4), (5, .int 0), (6, .int 0), (7, .int 0)] [4, 5, 6, 7, 2, 1, 0] rfl ?_
            refine t_X5_witness_L65 C hr hk0 a1 a2 a3 a4 a1 a2 a3 a4 g (fun x27 x28 hf => ?_) fuel0 _ _ _ hf
            refine r_iload 137 C 0 dX5_witness_135 rfl rfl ?_
            refine r_if_ne 145 140 C dX5_witness_137 rfl rfl (fun c29 => ?_) (fun c29 => ?_)
            · have hf := oin c29 hf
              refine r_iload 147 C 2 dX5_witness_145 rfl rfl ?_
              have hf := Option.some.inj hf
              subst hf
              exact r_iret C hr hk0 dX5_witness_147
            · have hf := oip c29 hf
              refine r_iload 142 C 1 dX5_witness_140 rfl rfl ?_
              refine r_goto 147 C dX5_witness_142 rfl ?_
              have hf := Option.some.inj hf
              subst hf
              exact r_iret C hr hk0 dX5_witness_147
          · have hf := oin c6 hf
            refine r_bipush (v := (-5)) 55 C dX5_witness_53 rfl (by decide) ?_
            have hf := Option.some.inj hf
            subst hf
            exact r_iret C hr hk0 dX5_witness_55
        · have hf := obf c4 hf
          refine r_bipush (v := (-2)) 42 C dX5_witness_40 rfl (by decide) ?_
          have hf := Option.some.inj hf
          subst hf
          exact r_iret C hr hk0 dX5_witness_42
def rm_X5_slots : Room := { frames := 1, cells := 0, slots := 0, locals := 21 }
theorem hd_X5_slots : yX5_slots.cls = RX5 ∧ yX5_slots.cls ≠ "java/lang/invoke/MethodHandle" ∧ yX5_slots.cls ≠ "java/lang/invoke/VarHandle" ∧ (parseMethodDescriptor yX5_slots.desc).map (fun d => d.parameters.length) = some 1 := by decide +kernel
set_option maxRecDepth 100000 in
set_option maxHeartbeats 4000000 in
theorem t_X5_slots_L4 {p : Program} {l : Launch} {e : Env} {s : State} {m : MethodId} {args : Array Value} {below : List Frame} {meth : Method} {c : Code} {G : GG} {A : Nat → Prop} (C : KX p s m args c cX5_slots 4 RX5 wsX5_slots G shM A) (hr : meth.sig.returnType = (some .int)) (hk0 : meth.locks = false) (a1 : Int32)  (v1 : Int32) (g : Mem) {res : Int32} {k : Int32 → Option Int32} (hk : ∀ (v2 : Int32), k v2 = some res → JJ p l e rm_X5_slots s m args below meth c 4 G shM A (MQ below (k_Qi G shM A res g) args s 0 0 A) 42 [(2, .int v2)] [] g) : ∀ (n : Nat) (v2 : Int32) (v3 : Int32), f_X5_slots_L4 k v1 g n v2 v3 = some res → JJ p l e rm_X5_slots s m args below meth c 4 G shM A (MQ below (k_Qi G shM A res g) args s 0 0 A) 4 [(0, .ref (G.2.1 0)), (1, .int v1), (2, .int v2), (3, .int v3)] [] g := by
  intro n
  induction n with
  | zero =>
    intro v2 v3 hf
    rw [f_X5_slots_L4] at hf
    cases hf
  | succ n ih =>
    intro v2 v3 hf
    rw [f_X5_slots_L4] at hf
    refine r_iload_n 5 C 3 dX5_slots_4 rfl rfl ?_
    refine r_bipush (v := 16) 7 C dX5_slots_5 rfl (by decide) ?_
    refine r_icmp_gt 42 10 C dX5_slots_7 rfl rfl (fun c1 => ?_) (fun c1 => ?_)
    · have hf := oip c1 hf
      refine r_sub [(2, .int v2)] [2] rfl ?_
      exact hk _ hf
    · have hf := oin c1 hf
      refine r_iload_n 11 C 2 dX5_slots_10 rfl rfl ?_
      refine r_aload_n 12 C 0 dX5_slots_11 rfl rfl ?_
      refine r_iload_n 13 C 3 dX5_slots_12 rfl rfl ?_
      obtain ⟨x2, hx2, hf⟩ := ob hf
      refine r_Vi (As := [.int v3]) 16 C shM_0 rfl (c_X5_chosen l G A v3 g _ hx2) (cwV 1 C.1.2.2.2.2 gX5_slots_X5_chosen rfl rfl rfl hd_X5_chosen ⟨Nat.le_of_ble_eq_true rfl, Nat.le_of_ble_eq_true rfl⟩) rfl rfl (Nat.le_of_ble_eq_true rfl) dX5_slots_13 rfl ?_
      refine r_iload_n 17 C 1 dX5_slots_16 rfl rfl ?_
      refine r_if_ne 24 20 C dX5_slots_17 rfl rfl (fun c3 => ?_) (fun c3 => ?_)
      · have hf := oin c3 hf
        refine r_bipush (v := 100) 26 C dX5_slots_24 rfl (by decide) ?_
        refine r_icmp_le 33 29 C dX5_slots_26 rfl rfl (fun c4 => ?_) (fun c4 => ?_)
        · have hf := oip c4 hf
          refine r_iconst (v := 0) 34 C dX5_slots_33 rfl (by decide) ?_
          refine r_iadd 35 C dX5_slots_34 rfl ?_
          obtain ⟨x5, hx5, hf⟩ := ol hf
          refine r_istore_n 36 C [(2, .int x5), (0, .ref (G.2.1 0)), (1, .int v1), (3, .int v3)] dX5_slots_35 rfl hx5 (by decide) rfl ?_
          obtain ⟨x6, hx6, hf⟩ := ol hf
          refine r_iinc 39 C 3 x6 [(3, .int x6), (2, .int x5), (0, .ref (G.2.1 0)), (1, .int v1)] dX5_slots_36 rfl rfl hx6.symm (by decide) rfl ?_
          refine r_goto 4 C dX5_slots_39 rfl ?_
          refine r_sub [(0, .ref (G.2.1 0)), (1, .int v1), (2, .int x5), (3, .int x6)] [2, 3, 1, 0] rfl ?_
          exact ih _ _ hf
        · have hf := oin c4 hf
          refine r_iconst (v := 1) 30 C dX5_slots_29 rfl (by decide) ?_
          refine r_goto 34 C dX5_slots_30 rfl ?_
          refine r_iadd 35 C dX5_slots_34 rfl ?_
          obtain ⟨x7, hx7, hf⟩ := ol hf
          refine r_istore_n 36 C [(2, .int x7), (0, .ref (G.2.1 0)), (1, .int v1), (3, .int v3)] dX5_slots_35 rfl hx7 (by decide) rfl ?_
          obtain ⟨x8, hx8, hf⟩ := ol hf
          refine r_iinc 39 C 3 x8 [(3, .int x8), (2, .int x7), (0, .ref (G.2.1 0)), (1, .int v1)] dX5_slots_36 rfl rfl hx8.symm (by decide) rfl ?_
          refine r_goto 4 C dX5_slots_39 rfl ?_
          refine r_sub [(0, .ref (G.2.1 0)), (1, .int v1), (2, .int x7), (3, .int x8)] [2, 3, 1, 0] rfl ?_
          exact ih _ _ hf
      · have hf := oip c3 hf
        refine r_iconst (v := 0) 21 C dX5_slots_20 rfl (by decide) ?_
        refine r_goto 26 C dX5_slots_21 rfl ?_
        refine r_icmp_le 33 29 C dX5_slots_26 rfl rfl (fun c9 => ?_) (fun c9 => ?_)
        · have hf := oip c9 hf
          refine r_iconst (v := 0) 34 C dX5_slots_33 rfl (by decide) ?_
          refine r_iadd 35 C dX5_slots_34 rfl ?_
          obtain ⟨x10, hx10, hf⟩ := ol hf
          refine r_istore_n 36 C [(2, .int x10), (0, .ref (G.2.1 0)), (1, .int v1), (3, .int v3)] dX5_slots_35 rfl hx10 (by decide) rfl ?_
          obtain ⟨x11, hx11, hf⟩ := ol hf
          refine r_iinc 39 C 3 x11 [(3, .int x11), (2, .int x10), (0, .ref (G.2.1 0)), (1, .int v1)] dX5_slots_36 rfl rfl hx11.symm (by decide) rfl ?_
          refine r_goto 4 C dX5_slots_39 rfl ?_
          refine r_sub [(0, .ref (G.2.1 0)), (1, .int v1), (2, .int x10), (3, .int x11)] [2, 3, 1, 0] rfl ?_
          exact ih _ _ hf
        · have hf := oin c9 hf
          refine r_iconst (v := 1) 30 C dX5_slots_29 rfl (by decide) ?_
          refine r_goto 34 C dX5_slots_30 rfl ?_
          refine r_iadd 35 C dX5_slots_34 rfl ?_
          obtain ⟨x12, hx12, hf⟩ := ol hf
          refine r_istore_n 36 C [(2, .int x12), (0, .ref (G.2.1 0)), (1, .int v1), (3, .int v3)] dX5_slots_35 rfl hx12 (by decide) rfl ?_
          obtain ⟨x13, hx13, hf⟩ := ol hf
          refine r_iinc 39 C 3 x13 [(3, .int x13), (2, .int x12), (0, .ref (G.2.1 0)), (1, .int v1)] dX5_slots_36 rfl rfl hx13.symm (by decide) rfl ?_
          refine r_goto 4 C dX5_slots_39 rfl ?_
          refine r_sub [(0, .ref (G.2.1 0)), (1, .int v1), (2, .int x12), (3, .int x13)] [2, 3, 1, 0] rfl ?_
          exact ih _ _ hf
set_option maxRecDepth 100000 in
set_option maxHeartbeats 4000000 in
theorem c_X5_slots (l : Launch) (G : GG) (A : Nat → Prop) (a1 : Int32)  (g : Mem) (res : Int32) (hf : f_X5_slots a1 g = some res) : k_Mi l yX5_slots wsX5_slots rm_X5_slots G shM A [.ref (G.2.1 0), .int a1] g res g := by
  refine k_ofi (cc := cX5_slots) (nL := 4) (own := RX5) (by decide +kernel) rfl rfl (by simp [lg_sl, Value.category]) ⟨rfl, rfl⟩ [(0, .ref (G.2.1 0)), (1, .int a1)] rfl ?_
  intro p e s m args below meth c C hr hk0
  rw [f_X5_slots] at hf
  refine r_iconst (v := 0) 1 C dX5_slots_0 rfl (by decide) ?_
  refine r_istore_n 2 C [(2, .int 0), (0, .ref (G.2.1 0)), (1, .int a1)] dX5_slots_1 rfl rfl (by decide) rfl ?_
  refine r_iconst (v := 1) 3 C dX5_slots_2 rfl (by decide) ?_
  refine r_istore_n 4 C [(3, .int 1), (2, .int 0), (0, .ref (G.2.1 0)), (1, .int a1)] dX5_slots_3 rfl rfl (by decide) rfl ?_
  refine r_sub [(0, .ref (G.2.1 0)), (1, .int a1), (2, .int 0), (3, .int 1)] [2, 3, 1, 0] rfl ?_
  refine t_X5_slots_L4 C hr hk0 a1 a1 g (fun x14 hf => ?_) fuel0 _ _ hf
  refine r_iload_n 43 C 0 dX5_slots_42 rfl rfl ?_
  have hf := Option.some.inj hf
  subst hf
  exact r_iret C hr hk0 dX5_slots_43
theorem in_X5_count_X5 : ∀ w ∈ wsX50, w ∈ wsX5_count := by decide +kernel
def rm_X5_count : Room := { frames := 2, cells := 0, slots := 0, locals := 44 }
theorem hd_X5_count : yX5_count.cls = RX5 ∧ yX5_count.cls ≠ "java/lang/invoke/MethodHandle" ∧ yX5_count.cls ≠ "java/lang/invoke/VarHandle" ∧ (parseMethodDescriptor yX5_count.desc).map (fun d => d.parameters.length) = some 1 := by decide +kernel
set_option maxRecDepth 100000 in
set_option maxHeartbeats 4000000 in
theorem c_X5_count (l : Launch) (G : GG) (A : Nat → Prop) (a1 : Int32)  (g : Mem) (res : Int32) (hf : f_X5_count a1 g = some res) : k_Mi l yX5_count wsX5_count rm_X5_count G shM A [.ref (G.2.1 0), .int a1] g res g := by
  have hinX5 : ∀ w ∈ wsX50, w ∈ wsX5_count := in_X5_count_X5
  refine k_ofi (cc := cX5_count) (nL := 2) (own := RX5) (by decide +kernel) rfl rfl (by simp [lg_sl, Value.category]) ⟨rfl, rfl⟩ [(0, .ref (G.2.1 0)), (1, .int a1)] rfl ?_
  intro p e s m args below meth c C hr hk0
  rw [f_X5_count] at hf
  refine r_iload_n 1 C 1 dX5_count_0 rfl rfl ?_
  by_cases c2 : a1 = 0
  · have hf := oip c2 hf
    refine r_tabIn 60 C (off := 59) dX5_count_1 (by rw [c2]; decide) (by rw [c2]; decide) (by rw [c2]; rfl) rfl ?_
    refine r_aload_n 61 C 0 dX5_count_60 rfl rfl ?_
    obtain ⟨x1, hx1, hf⟩ := ob hf
    refine r_Vi (As := []) 64 C shM_0 rfl (c_X5_prefix l G A g _ hx1) (cwV 0 C.1.2.2.2.2 gX5_count_X5_prefix rfl rfl rfl hd_X5_prefix ⟨Nat.le_of_ble_eq_true rfl, Nat.le_of_ble_eq_true rfl⟩) rfl rfl (Nat.le_of_ble_eq_true rfl) dX5_count_61 rfl ?_
    have hf := Option.some.inj hf
    subst hf
    exact r_iret C hr hk0 dX5_count_64
  have hf := oin c2 hf
  by_cases c4 : a1 = 1
  · have hf := oip c4 hf
    refine r_tabIn 65 C (off := 64) dX5_count_1 (by rw [c4]; decide) (by rw [c4]; decide) (by rw [c4]; rfl) rfl ?_
    refine r_aload_n 66 C 0 dX5_count_65 rfl rfl ?_
    refine r_iconst (v := 0) 67 C dX5_count_66 rfl (by decide) ?_
    obtain ⟨x3, hx3, hf⟩ := ob hf
    refine r_Vi (As := [.int 0]) 70 C shM_0 rfl (c_X5_slots l G A 0 g _ hx3) (cwV 1 C.1.2.2.2.2 gX5_count_X5_slots rfl rfl rfl hd_X5_slots ⟨Nat.le_of_ble_eq_true rfl, Nat.le_of_ble_eq_true rfl⟩) rfl rfl (Nat.le_of_ble_eq_true rfl) dX5_count_67 rfl ?_
    have hf := Option.some.inj hf
    subst hf
    exact r_iret C hr hk0 dX5_count_70
  have hf := oin c4 hf
  by_cases c6 : a1 = 2
  · have hf := oip c6 hf
    refine r_tabIn 71 C (off := 70) dX5_count_1 (by rw [c6]; decide) (by rw [c6]; decide) (by rw [c6]; rfl) rfl ?_
    refine r_aload_n 72 C 0 dX5_count_71 rfl rfl ?_
    refine r_getr 75 C (k := 0) shM_0 rfl hinX5 (by decide) rfl dX5_count_72 rfl (by decide +kernel) ?_
    refine r_sipush (v := 869) 78 C dX5_count_75 rfl (by decide) ?_
    obtain ⟨x5, hx5, hf⟩ := ob hf
    refine r_iaload 79 C shM_1 dX5_count_78 rfl hx5 ?_
    have hf := Option.some.inj hf
    subst hf
    exact r_iret C hr hk0 dX5_count_79
  have hf := oin c6 hf
  by_cases c8 : a1 = 3
  · have hf := oip c8 hf
    refine r_tabIn 80 C (off := 79) dX5_count_1 (by rw [c8]; decide) (by rw [c8]; decide) (by rw [c8]; rfl) rfl ?_
    refine r_aload_n 81 C 0 dX5_count_80 rfl rfl ?_
    refine r_getr 84 C (k := 0) shM_0 rfl hinX5 (by decide) rfl dX5_count_81 rfl (by decide +kernel) ?_
    refine r_sipush (v := 870) 87 C dX5_count_84 rfl (by decide) ?_
    obtain ⟨x7, hx7, hf⟩ := ob hf
    refine r_iaload 88 C shM_1 dX5_count_87 rfl hx7 ?_
    have hf := Option.some.inj hf
    subst hf
    exact r_iret C hr hk0 dX5_count_88
  have hf := oin c8 hf
  by_cases c10 : a1 = 4
  · have hf := oip c10 hf
    refine r_tabIn 89 C (off := 88) dX5_count_1 (by rw [c10]; decide) (by rw [c10]; decide) (by rw [c10]; rfl) rfl ?_
    refine r_aload_n 90 C 0 dX5_count_89 rfl rfl ?_
    obtain ⟨x9, hx9, hf⟩ := ob hf
    refine r_Vi (As := []) 93 C shM_0 rfl (c_X5_ups l G A g _ hx9) (cwV 0 C.1.2.2.2.2 gX5_count_X5_ups rfl rfl rfl hd_X5_ups ⟨Nat.le_of_ble_eq_true rfl, Nat.le_of_ble_eq_true rfl⟩) rfl rfl (Nat.le_of_ble_eq_true rfl) dX5_count_90 rfl ?_
    have hf := Option.some.inj hf
    subst hf
    exact r_iret C hr hk0 dX5_count_93
  have hf := oin c10 hf
  by_cases c14 : a1 = 5
  · have hf := oip c14 hf
    refine r_tabIn 94 C (off := 93) dX5_count_1 (by rw [c14]; decide) (by rw [c14]; decide) (by rw [c14]; rfl) rfl ?_
    refine r_aload_n 95 C 0 dX5_count_94 rfl rfl ?_
    obtain ⟨x11, hx11, hf⟩ := ob hf
    refine r_Vi (As := []) 98 C shM_0 rfl (c_X5_prefix l G A g _ hx11) (cwV 0 C.1.2.2.2.2 gX5_count_X5_prefix rfl rfl rfl hd_X5_prefix ⟨Nat.le_of_ble_eq_true rfl, Nat.le_of_ble_eq_true rfl⟩) rfl rfl (Nat.le_of_ble_eq_true rfl) dX5_count_95 rfl ?_
    refine r_iconst (v := 3) 99 C dX5_count_98 rfl (by decide) ?_
    refine r_iadd 100 C dX5_count_99 rfl ?_
    refine r_bipush (v := 16) 102 C dX5_count_100 rfl (by decide) ?_
    refine r_icmp_ge 114 105 C dX5_count_102 rfl rfl (fun c12 => ?_) (fun c12 => ?_)
    · have hf := oip c12 hf
      refine r_bipush (v := 16) 116 C dX5_count_114 rfl (by decide) ?_
      have hf := Option.some.inj hf
      subst hf
      exact r_iret C hr hk0 dX5_count_116
    · have hf := oin c12 hf
      refine r_aload_n 106 C 0 dX5_count_105 rfl rfl ?_
      obtain ⟨x13, hx13, hf⟩ := ob hf
      refine r_Vi (As := []) 109 C shM_0 rfl (c_X5_prefix l G A g _ hx13) (cwV 0 C.1.2.2.2.2 gX5_count_X5_prefix rfl rfl rfl hd_X5_prefix ⟨Nat.le_of_ble_eq_true rfl, Nat.le_of_ble_eq_true rfl⟩) rfl rfl (Nat.le_of_ble_eq_true rfl) dX5_count_106 rfl ?_
      refine r_iconst (v := 3) 110 C dX5_count_109 rfl (by decide) ?_
      refine r_iadd 111 C dX5_count_110 rfl ?_
      refine r_goto 116 C dX5_count_111 rfl ?_
      have hf := Option.some.inj hf
      subst hf
      exact r_iret C hr hk0 dX5_count_116
  have hf := oin c14 hf
  by_cases c16 : a1 = 6
  · have hf := oip c16 hf
    refine r_tabIn 117 C (off := 116) dX5_count_1 (by rw [c16]; decide) (by rw [c16]; decide) (by rw [c16]; rfl) rfl ?_
    refine r_aload_n 118 C 0 dX5_count_117 rfl rfl ?_
    refine r_getr 121 C (k := 0) shM_0 rfl hinX5 (by decide) rfl dX5_count_118 rfl (by decide +kernel) ?_
    refine r_sipush (v := 871) 124 C dX5_count_121 rfl (by decide) ?_
    obtain ⟨x15, hx15, hf⟩ := ob hf
    refine r_iaload 125 C shM_1 dX5_count_124 rfl hx15 ?_
    have hf := Option.some.inj hf
    subst hf
    exact r_iret C hr hk0 dX5_count_125
  have hf := oin c16 hf
  by_cases c18 : a1 = 7
  · have hf := oip c18 hf
    refine r_tabIn 126 C (off := 125) dX5_count_1 (by rw [c18]; decide) (by rw [c18]; decide) (by rw [c18]; rfl) rfl ?_
    refine r_aload_n 127 C 0 dX5_count_126 rfl rfl ?_
    refine r_getr 130 C (k := 0) shM_0 rfl hinX5 (by decide) rfl dX5_count_127 rfl (by decide +kernel) ?_
    refine r_sipush (v := 872) 133 C dX5_count_130 rfl (by decide) ?_
    obtain ⟨x17, hx17, hf⟩ := ob hf
    refine r_iaload 134 C shM_1 dX5_count_133 rfl hx17 ?_
    have hf := Option.some.inj hf
    subst hf
    exact r_iret C hr hk0 dX5_count_134
  have hf := oin c18 hf
  by_cases c20 : a1 = 8
  · have hf := oip c20 hf
    refine r_tabIn 135 C (off := 134) dX5_count_1 (by rw [c20]; decide) (by rw [c20]; decide) (by rw [c20]; rfl) rfl ?_
    refine r_aload_n 136 C 0 dX5_count_135 rfl rfl ?_
    refine r_iconst (v := 1) 137 C dX5_count_136 rfl (by decide) ?_
    obtain ⟨x19, hx19, hf⟩ := ob hf
    refine r_Vi (As := [.int 1]) 140 C shM_0 rfl (c_X5_slots l G A 1 g _ hx19) (cwV 1 C.1.2.2.2.2 gX5_count_X5_slots rfl rfl rfl hd_X5_slots ⟨Nat.le_of_ble_eq_true rfl, Nat.le_of_ble_eq_true rfl⟩) rfl rfl (Nat.le_of_ble_eq_true rfl) dX5_count_137 rfl ?_
    have hf := Option.some.inj hf
    subst hf
    exact r_iret C hr hk0 dX5_count_140
  have hf := oin c20 hf
  by_cases c21 : a1 = 9
  · have hf := oip c21 hf
    refine r_tabIn 141 C (off := 140) dX5_count_1 (by rw [c21]; decide) (by rw [c21]; decide) (by rw [c21]; rfl) rfl ?_
    refine r_aload_n 142 C 0 dX5_count_141 rfl rfl ?_
    refine r_geti 145 C (k := 2) shM_0 rfl hinX5 (by decide) rfl dX5_count_142 rfl (by decide +kernel) ?_
    have hf := Option.some.inj hf
    subst hf
    exact r_iret C hr hk0 dX5_count_145
  have hf := oin c21 hf
  by_cases c22 : a1 = 10
  · have hf := oip c22 hf
    refine r_tabIn 146 C (off := 145) dX5_count_1 (by rw [c22]; decide) (by rw [c22]; decide) (by rw [c22]; rfl) rfl ?_
    refine r_aload_n 147 C 0 dX5_count_146 rfl rfl ?_
    refine r_geti 150 C (k := 6) shM_0 rfl hinX5 (by decide) rfl dX5_count_147 rfl (by decide +kernel) ?_
    have hf := Option.some.inj hf
    subst hf
    exact r_iret C hr hk0 dX5_count_150
  have hf := oin c22 hf
  refine r_tabOut 151 C dX5_count_1 (tab_o (fun k h1 h2 => by
    have h3 : k = 0 ∨ k = 1 ∨ k = 2 ∨ k = 3 ∨ k = 4 ∨ k = 5 ∨ k = 6 ∨ k = 7 ∨ k = 8 ∨ k = 9 ∨ k = 10 := by omega
    rcases h3 with rfl | rfl | rfl | rfl | rfl | rfl | rfl | rfl | rfl | rfl | rfl
    · exact c2
    · exact c4
    · exact c6
    · exact c8
    · exact c10
    · exact c14
    · exact c16
    · exact c18
    · exact c20
    · exact c21
    · exact c22)) rfl ?_
  refine r_bipush (v := (-2)) 153 C dX5_count_151 rfl (by decide) ?_
  have hf := Option.some.inj hf
  subst hf
  exact r_iret C hr hk0 dX5_count_153
