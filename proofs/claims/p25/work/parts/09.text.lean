/-! copies, and the texts that the code loads: rows and contracts laid by hand -/
section ROWS2
variable {p : Program} {l : Launch} {e : Env} {R : Room} {s : State} {m : MethodId} {args : Array Value} {below : List Frame} {meth : Method} {c : Code} {nL : Nat} {G : GG} {sh : List Kd} {A : Nat → Prop} {Q : State → Prop}
variable {cc : ByteArray} {own : String} {Ts : List Cond} {pc : Nat} {L : List (Nat × Value)} {st : List Value} {g : Mem}
def m_cp (g : Mem) (o1 o2 n : Nat) : Mem := m_set g o2 (va_cpy (g o1) (g o2) 0 0 n)
theorem r_acopy (q : Nat) (C : KX p s m args c cc nL own Ts G sh A) {o1 o2 n index : Nat} {z : Int32} (h1 : sh[o1]? = some (.inr (.inl (false, n)))) (h2 : sh[o2]? = some (.inr (.inl (false, n)))) (hz : z = nI n) (hn : n < 2 ^ 31) (hl : Cond.methodLink own index arraycopyName ∈ Ts) (hnt : Cond.native arraycopyName ∈ Ts) (hs : Cond.static arraycopyName ∈ Ts) (hi : Cond.initialized "java/lang/System" ∈ Ts) (hf : 1 ≤ R.frames) (hlo : (st.map fun v => v.category).sum + (nativeFrameWords "java/lang/System" "arraycopy" 5 + 11) ≤ R.locals) (hd : decode cc pc = .ok (.invokestatic index, 3)) (hq : pc + 3 = q)
    (k : JJ p l e R s m args below meth c nL G sh A Q q L st (m_cp g o1 o2 n)) : JJ p l e R s m args below meth c nL G sh A Q pc L (.int z :: .int 0 :: .ref (G.2.1 o2) :: .int 0 :: .ref (G.2.1 o1) :: st) g := by
  subst hq; subst hz
  intro H locs ls hP hS hlv
  have e1 := k_wl_get (G := G) (g := g) sh 0 o1 h1
  have e2 := k_wl_get (G := G) (g := g) sh 0 o2 h2
  rw [Nat.zero_add] at e1 e2
  have hc : (nI n).toNatClampNeg = n := nI_clamp hn
  have h0 : (0 : Int32).toNatClampNeg = 0 := rfl
  have e3 := k_wl_set (G := G) (g := g) (f := va_cpy (g o1) (g o2) 0 0 n) sh 0 o2 h2
  rw [Nat.zero_add] at e3
  refine va_copyi C.1.1 C.1.2.1 (C.1.2.2.1.trans hlv.1.symm) C.1.2.2.2.1 (C.1.2.2.2.2 _ hl) (C.1.2.2.2.2 _ hnt) (C.1.2.2.2.2 _ hs) (C.1.2.2.2.2 _ hi) C.2.1 hP (k_D_any C.2.2.1) hS o1 o2 0 0 e1 e2 rfl rfl rfl (by decide) (by decide) (nI_pos hn) (by rw [hc, h0]; omega) (by rw [hc, h0]; omega) (fun _ _ => rfl) hf hlo hd (fun H1 locs1 hP1 hD1 hS1 => k H1 locs1 ls ?_ hS1 hlv)
  rw [hc, h0] at hP1
  exact e3 ▸ hP1
/-- a text of the class's file -/
theorem r_ldcS (q : Nat) (C : KX p s m args c cc nL own Ts G sh A) {index : Nat} (i : Nat) (hi : i < 6) (hown : own = RX1) (hx : k_ix.getD i 0 = index) (hd : decode cc pc = .ok (.ldc index, 2)) (hq : pc + 2 = q)
    (k : JJ p l e R s m args below meth c nL G sh A Q q L (.ref (G.2.2.2.2.2.1 i) :: st) g) : JJ p l e R s m args below meth c nL G sh A Q pc L st g := by
  subst hq; subst hown; subst hx
  exact fun H locs ls hP hS hl => va_ldcS C.1.1 C.1.2.1 C.1.2.2.2.1 (C.2.2.2.2.2.1 i hi) hd (k H locs ls hP hS hl)
theorem r_sval (q : Nat) (C : KX p s m args c cc nL own Ts G sh A) {index i : Nat} (hi : i < 6) (hl : Cond.fieldLink own index "java/lang/String" "value" "[B" ∈ Ts) (hd : decode cc pc = .ok (.getfield index, 3)) (hq : pc + 3 = q)
    (k : JJ p l e R s m args below meth c nL G sh A Q q L (.ref (G.2.2.2.2.2.2 i) :: st) g) : JJ p l e R s m args below meth c nL G sh A Q pc L (.ref (G.2.2.2.2.2.1 i) :: st) g := by
  subst hq
  exact fun H locs ls hP hS hlv => vk_getf C.1.1 C.1.2.1 (C.2.2.2.2.1.1 i hi).2.2.1 hS C.1.2.2.2.1 (C.1.2.2.2.2 _ hl) (fun _ h => h) hd (k H locs ls hP hS hlv)
theorem r_scod (q : Nat) (C : KX p s m args c cc nL own Ts G sh A) {index i : Nat} (hi : i < 6) (hl : Cond.fieldLink own index "java/lang/String" "coder" "B" ∈ Ts) (hd : decode cc pc = .ok (.getfield index, 3)) (hq : pc + 3 = q)
    (k : JJ p l e R s m args below meth c nL G sh A Q q L (.int 0 :: st) g) : JJ p l e R s m args below meth c nL G sh A Q pc L (.ref (G.2.2.2.2.2.1 i) :: st) g := by
  subst hq
  exact fun H locs ls hP hS hlv => vk_getf C.1.1 C.1.2.1 (C.2.2.2.2.1.1 i hi).2.1 hS C.1.2.2.2.1 (C.1.2.2.2.2 _ hl) (fun _ h => h) hd (k H locs ls hP hS hlv)
theorem r_slen (q : Nat) (C : KX p s m args c cc nL own Ts G sh A) {i : Nat} (hi : i < 6) {v : Int32} (hv : Int32.ofNat (k_len.getD i 0) = v) (hd : decode cc pc = .ok (.arraylength, 1)) (hq : pc + 1 = q)
    (k : JJ p l e R s m args below meth c nL G sh A Q q L (.int v :: st) g) : JJ p l e R s m args below meth c nL G sh A Q pc L (.ref (G.2.2.2.2.2.2 i) :: st) g := by
  subst hq
  exact fun H locs ls hP hS hlv => va_tlen C.1.1 C.1.2.1 (C.2.2.2.2.1.1 i hi).2.2.2 hS hv hd (k H locs ls hP hS hlv)
theorem r_sbyte (q : Nat) (C : KX p s m args c cc nL own Ts G sh A) {i : Nat} (hi : i < 6) {j v : Int32} (hin : vp_in j (k_len.getD i 0)) (hv : (k_byt.getD i []).getD j.toNatClampNeg 0 = v) (hd : decode cc pc = .ok (.baload, 1)) (hq : pc + 1 = q)
    (k : JJ p l e R s m args below meth c nL G sh A Q q L (.int v :: st) g) : JJ p l e R s m args below meth c nL G sh A Q pc L (.int j :: .ref (G.2.2.2.2.2.2 i) :: st) g := by
  subst hq; subst hv
  exact fun H locs ls hP hS hlv => va_tb C.1.1 C.1.2.1 (C.2.2.2.2.1.1 i hi).2.2.2 hS hin rfl hd (k H locs ls hP hS hlv)
theorem r_compact (q : Nat) (C : KX p s m args c cc nL own Ts G sh A) {index : Nat} (hl : Cond.fieldLink own index "java/lang/String" "COMPACT_STRINGS" "Z" ∈ Ts) (hd : decode cc pc = .ok (.getstatic index, 3)) (hq : pc + 3 = q)
    (k : JJ p l e R s m args below meth c nL G sh A Q q L (.int 1 :: st) g) : JJ p l e R s m args below meth c nL G sh A Q pc L st g := by
  subst hq
  exact fun H locs ls hP hS hlv => va_gets C.1.1 C.1.2.1 C.2.2.2.2.2.2.1 hS C.1.2.2.2.1 (C.1.2.2.2.2 _ hl) (fun _ h => h) hd (k H locs ls hP hS hlv)
theorem r_former (q : Nat) (C : KX p s m args c cc nL own Ts G sh A) {index : Nat} (hl : Cond.fieldLink own index "jdk/internal/util/Preconditions" "SIOOBE_FORMATTER" "Ljava/util/function/BiFunction;" ∈ Ts) (hd : decode cc pc = .ok (.getstatic index, 3)) (hq : pc + 3 = q)
    (k : ∀ v : Value, v = .null ∨ (∃ t : Nat, v = .ref t) → JJ p l e R s m args below meth c nL G sh A Q q L (v :: st) g) : JJ p l e R s m args below meth c nL G sh A Q pc L st g := by
  subst hq
  intro H locs ls hP hS hlv
  rcases C.2.2.2.2.2.2.2 with h | ⟨t, h⟩
  · exact va_gets C.1.1 C.1.2.1 h hS C.1.2.2.2.1 (C.1.2.2.2.2 _ hl) (fun _ h => h) hd (k _ (Or.inl rfl) H locs ls hP hS hlv)
  · exact va_gets C.1.1 C.1.2.1 h hS C.1.2.2.2.1 (C.1.2.2.2.2 _ hl) (fun _ h => h) hd (k _ (Or.inr ⟨t, rfl⟩) H locs ls hP hS hlv)
/-- a return of a byte, a char -/
theorem r_nret (C : KX p s m args c cc nL own Ts G sh A) {ty : FieldType} (hr : meth.sig.returnType = some ty) (hk : meth.locks = false) {a : Array Value} {v : Int32} (hn : narrow ty (.int v) = .int v) (hd : decode cc pc = .ok (.ireturn, 1)) : JJ p l e R s m a below meth c nL G sh A (MQ below (k_Qi G sh A v g) a s 0 0 A) pc L [.int v] g :=
  fun H locs ls hP hS hl => W.zret (v := v) C.1.1 C.1.2.1 hr hn (fun t ht hW => ⟨⟨v, (), rfl, rfl, by rw [ht]; exact hP, va_K.moved hW.alike C.2.1, C.2.2.1, C.2.2.2.1.warm hW, C.2.2.2.2.move hS ht hW⟩, hS.F ht⟩) hS.2.2 hd hk
variable {y : MethodName} {bytes : ByteArray} {maxL n index : Nat} {ret : Option FieldType} {ws : List Cond} {rm : Room} {As stk : List Value} {g' : Mem} {r : Int32}
/-- a virtual call on a text -/
theorem r_TVi (q : Nat) (C : KX p s m args c cc nL own Ts G sh A) {i : Nat} (hi : i < 6) (hM : k_Mi l y ws rm G sh A (.ref (G.2.2.2.2.2.1 i) :: As) g r g') (cw : CallW R s args own "java/lang/String" index y bytes maxL ret ws rm 0 0 n) (hn : As.length = n) (hst : stk = As.reverse ++ .ref (G.2.2.2.2.2.1 i) :: st) (hcat : (st.map fun v => v.category).sum ≤ 8) (hd : decode cc pc = .ok (.invokevirtual index, 3)) (hq : pc + 3 = q)
    (k : JJ p l e R s m args below meth c nL G sh A Q q L (.int r :: st) g') : JJ p l e R s m args below meth c nL G sh A Q pc L stk g :=
  fun H locs ls hP hS hl => r_goi q hq (va_runV C.1 hM cw ⟨k_blind, vk_recv C.2.2.2.2.1 hi hS, fun U hU hW => ⟨rfl, by rw [hU]; exact hP, va_K.moved hW.alike C.2.1, C.2.2.1, C.2.2.2.1.warm hW, C.2.2.2.2.move hS hU hW⟩⟩ rfl hn hl.1 hst (lv_room hcat) hd ⟨Nat.zero_le _, Nat.zero_le _⟩) hS hl k
/-- a contract that answers the i-th text -/
abbrev k_Mt (l : Launch) (y : MethodName) (ws : List Cond) (rm : Room) (G : GG) (sh : List Kd) (A : Nat → Prop) (As : List Value) (g : Mem) (i : Nat) : Prop :=
  Met l y ws rm (va_Pc As (k_W G sh A g)) (va_Qr (fun (_ : Unit) => True) (fun _ a t => a = G.2.2.2.2.2.1 i ∧ k_W G sh A g t) A) 0 0 A
theorem r_St (q : Nat) (C : KX p s m args c cc nL own Ts G sh A) {i : Nat} (hM : k_Mt l y ws rm G sh A As g i) (cw : CallB R s args own index y bytes maxL ret ws rm 0 0 n ∧ (Cond.static y).before args s = true) (hn : As.length = n) (hst : stk = As.reverse ++ st) (hcat : (st.map fun v => v.category).sum ≤ 8) (hd : decode cc pc = .ok (.invokestatic index, 3)) (hq : pc + 3 = q)
    (k : JJ p l e R s m args below meth c nL G sh A Q q L (.ref (G.2.2.2.2.2.1 i) :: st) g) : JJ p l e R s m args below meth c nL G sh A Q pc L stk g := by
  subst hq
  intro H locs ls hP hS hl
  refine va_callr (mc := 0) (ms := 0) (va_runS C.1 hM cw (k_preS hS C hP) rfl hn hl.1 hst (lv_room hcat) hd ⟨Nat.zero_le _, Nat.zero_le _⟩) hS (fun _ _ h => h) (fun _ h => h) (fun u ra t H1 locs1 ht hvm hw hB hz hk hS1 => ?_)
  obtain ⟨rfl, hP1, -⟩ := hB
  rw [ht] at hP1
  exact k H1 locs1 ls hP1 hS1 hl
theorem r_tret (C : KX p s m args c cc nL own Ts G sh A) {C0 : String} (hr : meth.sig.returnType = some (.object C0)) (hk : meth.locks = false) {a : Array Value} {i : Nat} (hd : decode cc pc = .ok (.areturn, 1)) : JJ p l e R s m a below meth c nL G sh A (MQ below (va_Qr (fun (_ : Unit) => True) (fun _ a t => a = G.2.2.2.2.2.1 i ∧ k_W G sh A g t) A) a s 0 0 A) pc L [.ref (G.2.2.2.2.2.1 i)] g :=
  fun H locs ls hP hS hl => W.aret (v := .ref (G.2.2.2.2.2.1 i)) C.1.1 C.1.2.1 hr (Or.inl ⟨_, rfl⟩) (Or.inr ⟨_, rfl⟩) (fun t ht hW => ⟨⟨(), _, rfl, trivial, rfl, by rw [ht]; exact hP, va_K.moved hW.alike C.2.1, C.2.2.1, C.2.2.2.1.warm hW, C.2.2.2.2.move hS ht hW⟩, hS.F ht⟩) hS.2.2 hd hk
theorem k_oft {ws' : List Cond} {ty : FieldType} {i : Nat} (hy : plainName y.cls = true) (hw : ws = Cond.code y cc nL (some ty) :: ws') (hown : y.cls = own) (hsz : (lg_sl As).length ≤ nL) (hrm : rm.cells = 0 ∧ rm.slots = 0) (L : List (Nat × Value)) (hL : lv_args 0 As = L)
    (body : ∀ (p : Program) (e : Env) (s : State) (m : MethodId) (args : Array Value) (below : List Frame) (meth : Method) (c : Code), KX p s m args c cc nL own ws G sh A → meth.sig.returnType = some ty → meth.locks = false → JJ p l e rm s m args below meth c nL G sh A (MQ below (va_Qr (fun (_ : Unit) => True) (fun _ a t => a = G.2.2.2.2.2.1 i ∧ k_W G sh A g t) A) args s 0 0 A) 0 L [] g) : k_Mt l y ws rm G sh A As g i := by
  refine Met.ofW (cc := cc) (maxL := nL) (ret := some ty) hy hw ?_
  intro p e s m args below meth c s₁ B hml hv
  obtain ⟨rfl, hP, hK, hD, hN, hE⟩ := hv
  have hown2 : s.vm.findClass own = some m.cls := by rw [← hown]; exact findClass_of_methodNamed B.named
  have hl := lv_entry As hsz
  rw [lg_entry_eq]
  rw [hL] at hl
  exact body p e s m _ below meth c ⟨⟨B.exec, B.bytes, hml, hown2, atoms_spec (ws := ws) B.pre⟩, hK, hD, hN, hE⟩ B.returns B.notSynchronized s.heap [] _ hP va_S.rf hl
end ROWS2
theorem imin_self (x : Int32) : imin x x = x := by unfold imin; split <;> rfl
/-! State.copyAll -/
def rm_X2_copyAll : Room := { frames := 1, cells := 0, slots := 0, locals := 40 }
theorem hd_X2_copyAll : yX2_copyAll.cls ≠ "java/lang/invoke/MethodHandle" ∧ yX2_copyAll.cls ≠ "java/lang/invoke/VarHandle" ∧ (parseMethodDescriptor yX2_copyAll.desc).map (fun d => d.parameters.length) = some 2 := by decide +kernel
def f_X2_copyAll (o1 o2 n : Nat) (g : Mem) : Option Mem := some (m_cp g o1 o2 n)
set_option maxRecDepth 100000 in
set_option maxHeartbeats 4000000 in
theorem c_X2_copyAll (l : Launch) (G : GG) (A : Nat → Prop) (o1 o2 n : Nat) (h1 : shC[o1]? = some (.inr (.inl (false, n)))) (h2 : shC[o2]? = some (.inr (.inl (false, n)))) (hn : n < 2 ^ 31) (g : Mem) (res : Mem) (hf : f_X2_copyAll o1 o2 n g = some res) : k_Mv l yX2_copyAll wsX2_copyAll rm_X2_copyAll G shC A [.ref (G.2.1 o1), .ref (G.2.1 o2)] g res := by
  refine k_ofv (cc := cX2_copyAll) (nL := 2) (own := RX2) (by decide +kernel) rfl rfl (by simp [lg_sl, Value.category]) ⟨rfl, rfl⟩ [(0, .ref (G.2.1 o1)), (1, .ref (G.2.1 o2))] rfl ?_
  intro p e s m args below meth c C hr hk0
  refine r_aload_n 1 C 0 dX2_copyAll_0 rfl rfl ?_
  refine r_iconst (v := 0) 2 C dX2_copyAll_1 rfl (by decide) ?_
  refine r_aload_n 3 C 1 dX2_copyAll_2 rfl rfl ?_
  refine r_iconst (v := 0) 4 C dX2_copyAll_3 rfl (by decide) ?_
  refine r_aload_n 5 C 0 dX2_copyAll_4 rfl rfl ?_
  refine r_alen 6 C h1 dX2_copyAll_5 rfl rfl ?_
  refine r_aload_n 7 C 1 dX2_copyAll_6 rfl rfl ?_
  refine r_alen 8 C h2 dX2_copyAll_7 rfl rfl ?_
  refine r_min 11 C (by decide +kernel) (by decide +kernel) (by decide +kernel) (by decide +kernel) (by decide) (by simp [Value.category, rm_X2_copyAll]) dX2_copyAll_8 rfl ?_
  refine r_acopy 14 C h1 h2 (imin_self _) hn (by decide +kernel) (by decide +kernel) (by decide +kernel) (by decide +kernel) (by decide) (by decide) dX2_copyAll_11 rfl ?_
  cases hf
  exact r_vret C hr hk0 dX2_copyAll_14
/-! the JDK's own methods on a text of ours -/
def sLen (i : Nat) : Int32 := Int32.ofNat (k_len.getD i 0)
def sCh (i : Nat) (j : Int32) : Int32 := (((k_byt.getD i []).getD j.toNatClampNeg 0 &&& 255).toUInt32 % 65536).toInt32
def rm_0 : Room := { frames := 0, cells := 0, slots := 0, locals := 0 }
def rm_1 : Room := { frames := 1, cells := 0, slots := 0, locals := 30 }
def rm_2 : Room := { frames := 2, cells := 0, slots := 0, locals := 60 }
def rm_3 : Room := { frames := 3, cells := 0, slots := 0, locals := 90 }
theorem hd_J0_coder : yJ0_coder_7d493.cls = RJ0 ∧ yJ0_coder_7d493.cls ≠ "java/lang/invoke/MethodHandle" ∧ yJ0_coder_7d493.cls ≠ "java/lang/invoke/VarHandle" ∧ (parseMethodDescriptor yJ0_coder_7d493.desc).map (fun d => d.parameters.length) = some 0 := by decide +kernel
theorem hd_J0_isLatin1 : yJ0_isLatin1_aae02.cls = RJ0 ∧ yJ0_isLatin1_aae02.cls ≠ "java/lang/invoke/MethodHandle" ∧ yJ0_isLatin1_aae02.cls ≠ "java/lang/invoke/VarHandle" ∧ (parseMethodDescriptor yJ0_isLatin1_aae02.desc).map (fun d => d.parameters.length) = some 0 := by decide +kernel
theorem hd_J0_isEmpty : yJ0_isEmpty_aae02.cls = RJ0 ∧ yJ0_isEmpty_aae02.cls ≠ "java/lang/invoke/MethodHandle" ∧ yJ0_isEmpty_aae02.cls ≠ "java/lang/invoke/VarHandle" ∧ (parseMethodDescriptor yJ0_isEmpty_aae02.desc).map (fun d => d.parameters.length) = some 0 := by decide +kernel
theorem hd_J0_length : yJ0_length_8abf5.cls = RJ0 ∧ yJ0_length_8abf5.cls ≠ "java/lang/invoke/MethodHandle" ∧ yJ0_length_8abf5.cls ≠ "java/lang/invoke/VarHandle" ∧ (parseMethodDescriptor yJ0_length_8abf5.desc).map (fun d => d.parameters.length) = some 0 := by decide +kernel
theorem hd_J0_charAt : yJ0_charAt_5068e.cls = RJ0 ∧ yJ0_charAt_5068e.cls ≠ "java/lang/invoke/MethodHandle" ∧ yJ0_charAt_5068e.cls ≠ "java/lang/invoke/VarHandle" ∧ (parseMethodDescriptor yJ0_charAt_5068e.desc).map (fun d => d.parameters.length) = some 1 := by decide +kernel
theorem hd_J1_charAt : yJ1_charAt_3b067.cls ≠ "java/lang/invoke/MethodHandle" ∧ yJ1_charAt_3b067.cls ≠ "java/lang/invoke/VarHandle" ∧ (parseMethodDescriptor yJ1_charAt_3b067.desc).map (fun d => d.parameters.length) = some 2 := by decide +kernel
theorem hd_J0_checkIndex : yJ0_checkIndex_df160.cls ≠ "java/lang/invoke/MethodHandle" ∧ yJ0_checkIndex_df160.cls ≠ "java/lang/invoke/VarHandle" ∧ (parseMethodDescriptor yJ0_checkIndex_df160.desc).map (fun d => d.parameters.length) = some 2 := by decide +kernel
theorem hd_J3_checkIndex : yJ3_checkIndex_8e157.cls ≠ "java/lang/invoke/MethodHandle" ∧ yJ3_checkIndex_8e157.cls ≠ "java/lang/invoke/VarHandle" ∧ (parseMethodDescriptor yJ3_checkIndex_8e157.desc).map (fun d => d.parameters.length) = some 3 := by decide +kernel
set_option maxRecDepth 100000 in
set_option maxHeartbeats 4000000 in
theorem c_J0_isEmpty (l : Launch) (G : GG) (A : Nat → Prop) (i : Nat) (hi : i < 6) (g : Mem) : k_Mi l yJ0_isEmpty_aae02 wsJ0_isEmpty_aae02 rm_0 G shC A [.ref (G.2.2.2.2.2.1 i)] g (bI (decide (sLen i = 0))) g := by
  refine k_ofi (cc := cJ0_isEmpty_aae02) (nL := 1) (own := RJ0) (by decide +kernel) rfl rfl (by simp [lg_sl, Value.category]) ⟨rfl, rfl⟩ [(0, .ref (G.2.2.2.2.2.1 i))] rfl ?_
  intro p e s m args below meth c C hr hk0
  refine r_aload_n 1 C 0 dJ0_isEmpty_aae02_0 rfl rfl ?_
  refine r_sval 4 C hi (by decide +kernel) dJ0_isEmpty_aae02_1 rfl ?_
  refine r_slen (v := sLen i) 5 C hi rfl dJ0_isEmpty_aae02_4 rfl ?_
  refine r_if_ne 12 8 C dJ0_isEmpty_aae02_5 rfl rfl (fun c1 => ?_) (fun c1 => ?_)
  · refine r_iconst (v := 0) 13 C dJ0_isEmpty_aae02_12 rfl (by decide) ?_
    rw [decide_eq_false c1]
    exact r_zret C hr hk0 false rfl dJ0_isEmpty_aae02_13
  · refine r_iconst (v := 1) 9 C dJ0_isEmpty_aae02_8 rfl (by decide) ?_
    refine r_goto 13 C dJ0_isEmpty_aae02_9 rfl ?_
    rw [decide_eq_true c1]
    exact r_zret C hr hk0 true rfl dJ0_isEmpty_aae02_13
set_option maxRecDepth 100000 in
set_option maxHeartbeats 4000000 in
theorem c_J0_coder (l : Launch) (G : GG) (A : Nat → Prop) (i : Nat) (hi : i < 6) (g : Mem) : k_Mi l yJ0_coder_7d493 wsJ0_coder_7d493 rm_0 G shC A [.ref (G.2.2.2.2.2.1 i)] g 0 g := by
  refine k_ofi (cc := cJ0_coder_7d493) (nL := 1) (own := RJ0) (by decide +kernel) rfl rfl (by simp [lg_sl, Value.category]) ⟨rfl, rfl⟩ [(0, .ref (G.2.2.2.2.2.1 i))] rfl ?_
  intro p e s m args below meth c C hr hk0
  refine r_compact 3 C (by decide +kernel) dJ0_coder_7d493_0 rfl ?_
  refine r_if_eq 13 6 C dJ0_coder_7d493_3 rfl rfl (fun c1 => absurd c1 (by decide)) (fun _ => ?_)
  refine r_aload_n 7 C 0 dJ0_coder_7d493_6 rfl rfl ?_
  refine r_scod 10 C hi (by decide +kernel) dJ0_coder_7d493_7 rfl ?_
  refine r_goto 14 C dJ0_coder_7d493_10 rfl ?_
  exact r_nret C hr hk0 rfl dJ0_coder_7d493_14
set_option maxRecDepth 100000 in
set_option maxHeartbeats 4000000 in
theorem c_J0_isLatin1 (l : Launch) (G : GG) (A : Nat → Prop) (i : Nat) (hi : i < 6) (g : Mem) : k_Mi l yJ0_isLatin1_aae02 wsJ0_isLatin1_aae02 rm_0 G shC A [.ref (G.2.2.2.2.2.1 i)] g (bI true) g := by
  refine k_ofi (cc := cJ0_isLatin1_aae02) (nL := 1) (own := RJ0) (by decide +kernel) rfl rfl (by simp [lg_sl, Value.category]) ⟨rfl, rfl⟩ [(0, .ref (G.2.2.2.2.2.1 i))] rfl ?_
  intro p e s m args below meth c C hr hk0
  refine r_compact 3 C (by decide +kernel) dJ0_isLatin1_aae02_0 rfl ?_
  refine r_if_eq 17 6 C dJ0_isLatin1_aae02_3 rfl rfl (fun c1 => absurd c1 (by decide)) (fun _ => ?_)
  refine r_aload_n 7 C 0 dJ0_isLatin1_aae02_6 rfl rfl ?_
  refine r_scod 10 C hi (by decide +kernel) dJ0_isLatin1_aae02_7 rfl ?_
  refine r_if_ne 17 13 C dJ0_isLatin1_aae02_10 rfl rfl (fun c1 => absurd rfl c1) (fun _ => ?_)
  refine r_iconst (v := 1) 14 C dJ0_isLatin1_aae02_13 rfl (by decide) ?_
  refine r_goto 18 C dJ0_isLatin1_aae02_14 rfl ?_
  exact r_zret C hr hk0 true rfl dJ0_isLatin1_aae02_18
set_option maxRecDepth 100000 in
set_option maxHeartbeats 4000000 in
theorem c_J0_length (l : Launch) (G : GG) (A : Nat → Prop) (i : Nat) (hi : i < 6) (g : Mem) : k_Mi l yJ0_length_8abf5 wsJ0_length_8abf5 rm_1 G shC A [.ref (G.2.2.2.2.2.1 i)] g (sLen i >>> ((0 : Int32) &&& 31)) g := by
  refine k_ofi (cc := cJ0_length_8abf5) (nL := 1) (own := RJ0) (by decide +kernel) rfl rfl (by simp [lg_sl, Value.category]) ⟨rfl, rfl⟩ [(0, .ref (G.2.2.2.2.2.1 i))] rfl ?_
  intro p e s m args below meth c C hr hk0
  refine r_aload_n 1 C 0 dJ0_length_8abf5_0 rfl rfl ?_
  refine r_sval 4 C hi (by decide +kernel) dJ0_length_8abf5_1 rfl ?_
  refine r_slen (v := sLen i) 5 C hi rfl dJ0_length_8abf5_4 rfl ?_
  refine r_aload_n 6 C 0 dJ0_length_8abf5_5 rfl rfl ?_
  refine r_TVi (As := []) 9 C hi (c_J0_coder l G A i hi g) (cwV 0 C.1.2.2.2.2 gJ0_length_8abf5_J0_coder_7d493 rfl rfl rfl hd_J0_coder ⟨Nat.le_of_ble_eq_true rfl, Nat.le_of_ble_eq_true rfl⟩) rfl rfl (by simp [Value.category]) dJ0_length_8abf5_6 rfl ?_
  refine r_ishr 10 C dJ0_length_8abf5_9 rfl ?_
  exact r_iret C hr hk0 dJ0_length_8abf5_10
set_option maxRecDepth 100000 in
set_option maxHeartbeats 4000000 in
theorem c_J3_checkIndex (l : Launch) (G : GG) (A : Nat → Prop) (j n : Int32) (v : Value) (hv : v = .null ∨ (∃ t : Nat, v = .ref t)) (h1 : ¬ j < 0) (h2 : j < n) (g : Mem) : k_Mi l yJ3_checkIndex_8e157 wsJ3_checkIndex_8e157 rm_0 G shC A [.int j, .int n, v] g j g := by
  have hcat : v.category = 1 := by rcases hv with rfl | ⟨t, rfl⟩ <;> rfl
  refine k_ofi (cc := cJ3_checkIndex_8e157) (nL := 3) (own := RJ3) (by decide +kernel) rfl rfl (by simp [lg_sl, Value.category]; rcases hv with rfl | ⟨t, rfl⟩ <;> simp) ⟨rfl, rfl⟩ [(0, .int j), (1, .int n), (2, v)] rfl ?_
  intro p e s m args below meth c C hr hk0
  refine r_iload_n 1 C 0 dJ3_checkIndex_8e157_0 rfl rfl ?_
  refine r_if_lt 9 4 C dJ3_checkIndex_8e157_1 rfl rfl (fun c1 => absurd c1 h1) (fun _ => ?_)
  refine r_iload_n 5 C 0 dJ3_checkIndex_8e157_4 rfl rfl ?_
  refine r_iload_n 6 C 1 dJ3_checkIndex_8e157_5 rfl rfl ?_
  refine r_icmp_lt 16 9 C dJ3_checkIndex_8e157_6 rfl rfl (fun _ => ?_) (fun c1 => absurd h2 c1)
  refine r_iload_n 17 C 0 dJ3_checkIndex_8e157_16 rfl rfl ?_
  exact r_iret C hr hk0 dJ3_checkIndex_8e157_17
set_option maxRecDepth 100000 in
set_option maxHeartbeats 4000000 in
theorem c_J0_checkIndex (l : Launch) (G : GG) (A : Nat → Prop) (j n : Int32) (h1 : ¬ j < 0) (h2 : j < n) (g : Mem) : k_Mv l yJ0_checkIndex_df160 wsJ0_checkIndex_df160 rm_1 G shC A [.int j, .int n] g g := by
  refine k_ofv (cc := cJ0_checkIndex_df160) (nL := 2) (own := RJ0) (by decide +kernel) rfl rfl (by simp [lg_sl, Value.category]) ⟨rfl, rfl⟩ [(0, .int j), (1, .int n)] rfl ?_
  intro p e s m args below meth c C hr hk0
  refine r_iload_n 1 C 0 dJ0_checkIndex_df160_0 rfl rfl ?_
  refine r_iload_n 2 C 1 dJ0_checkIndex_df160_1 rfl rfl ?_
  refine r_former 5 C (by decide +kernel) dJ0_checkIndex_df160_2 rfl (fun v hv => ?_)
  refine r_Si (As := [.int j, .int n, v]) 8 C (c_J3_checkIndex l G A j n v hv h1 h2 g) (va_cwS 3 C.1.2.2.2.2 gJ0_checkIndex_df160_J3_checkIndex_8e157 rfl rfl rfl hd_J3_checkIndex ⟨Nat.le_of_ble_eq_true rfl, Nat.le_of_ble_eq_true rfl⟩) rfl rfl (by simp) dJ0_checkIndex_df160_5 rfl ?_
  refine r_pop 9 C dJ0_checkIndex_df160_8 rfl rfl ?_
  exact r_vret C hr hk0 dJ0_checkIndex_df160_9
theorem sCh_nar : ∀ i, i < 6 → ∀ k, k < k_len.getD i 0 → narrow .char (.int ((((k_byt.getD i []).getD k 0 &&& 255).toUInt32 % 65536).toInt32)) = .int ((((k_byt.getD i []).getD k 0 &&& 255).toUInt32 % 65536).toInt32) := by decide +kernel
theorem sLen_lt : ∀ i, i < 6 → k_len.getD i 0 < 2 ^ 31 := by decide +kernel
theorem sLen_in {i : Nat} (hi : i < 6) {j : Int32} (h1 : ¬ j < 0) (h2 : j < sLen i) : vp_in j (k_len.getD i 0) := by
  obtain ⟨k, hk, rfl⟩ := nI_of h1
  exact vp_in_nI ((nI_ltI hk (sLen_lt i hi)).mp h2) (sLen_lt i hi)
theorem sCh_nar2 {i : Nat} (hi : i < 6) {j : Int32} (h : vp_in j (k_len.getD i 0)) : narrow .char (.int (sCh i j)) = .int (sCh i j) :=
  sCh_nar i hi j.toNatClampNeg (Nat.not_le.mp fun q => h (Or.inr q))
set_option maxRecDepth 100000 in
set_option maxHeartbeats 4000000 in
theorem c_J1_charAt (l : Launch) (G : GG) (A : Nat → Prop) (i : Nat) (hi : i < 6) (j : Int32) (h1 : ¬ j < 0) (h2 : j < sLen i) (g : Mem) : k_Mi l yJ1_charAt_3b067 wsJ1_charAt_3b067 rm_2 G shC A [.ref (G.2.2.2.2.2.2 i), .int j] g (sCh i j) g := by
  refine k_ofi (cc := cJ1_charAt_3b067) (nL := 2) (own := RJ1) (by decide +kernel) rfl rfl (by simp [lg_sl, Value.category]) ⟨rfl, rfl⟩ [(0, .ref (G.2.2.2.2.2.2 i)), (1, .int j)] rfl ?_
  intro p e s m args below meth c C hr hk0
  refine r_iload_n 1 C 1 dJ1_charAt_3b067_0 rfl rfl ?_
  refine r_aload_n 2 C 0 dJ1_charAt_3b067_1 rfl rfl ?_
  refine r_slen (v := sLen i) 3 C hi rfl dJ1_charAt_3b067_2 rfl ?_
  refine r_Sv (As := [.int j, .int (sLen i)]) 6 C (c_J0_checkIndex l G A j (sLen i) h1 h2 g) (va_cwS 2 C.1.2.2.2.2 gJ1_charAt_3b067_J0_checkIndex_df160 rfl rfl rfl hd_J0_checkIndex ⟨Nat.le_of_ble_eq_true rfl, Nat.le_of_ble_eq_true rfl⟩) rfl rfl (by simp) dJ1_charAt_3b067_3 rfl ?_
  refine r_aload_n 7 C 0 dJ1_charAt_3b067_6 rfl rfl ?_
  refine r_iload_n 8 C 1 dJ1_charAt_3b067_7 rfl rfl ?_
  refine r_sbyte 9 C hi (sLen_in hi h1 h2) rfl dJ1_charAt_3b067_8 rfl ?_
  refine r_sipush (v := 255) 12 C dJ1_charAt_3b067_9 rfl (by decide) ?_
  refine r_iand 13 C dJ1_charAt_3b067_12 rfl ?_
  refine r_i2c 14 C dJ1_charAt_3b067_13 rfl ?_
  exact r_nret C hr hk0 (sCh_nar2 hi (sLen_in hi h1 h2)) dJ1_charAt_3b067_14
set_option maxRecDepth 100000 in
set_option maxHeartbeats 4000000 in
theorem c_J0_charAt (l : Launch) (G : GG) (A : Nat → Prop) (i : Nat) (hi : i < 6) (j : Int32) (h1 : ¬ j < 0) (h2 : j < sLen i) (g : Mem) : k_Mi l yJ0_charAt_5068e wsJ0_charAt_5068e rm_3 G shC A [.ref (G.2.2.2.2.2.1 i), .int j] g (sCh i j) g := by
  refine k_ofi (cc := cJ0_charAt_5068e) (nL := 2) (own := RJ0) (by decide +kernel) rfl rfl (by simp [lg_sl, Value.category]) ⟨rfl, rfl⟩ [(0, .ref (G.2.2.2.2.2.1 i)), (1, .int j)] rfl ?_
  intro p e s m args below meth c C hr hk0
  refine r_aload_n 1 C 0 dJ0_charAt_5068e_0 rfl rfl ?_
  refine r_TVi (As := []) 4 C hi (c_J0_isLatin1 l G A i hi g) (cwV 0 C.1.2.2.2.2 gJ0_charAt_5068e_J0_isLatin1_aae02 rfl rfl rfl hd_J0_isLatin1 ⟨Nat.le_of_ble_eq_true rfl, Nat.le_of_ble_eq_true rfl⟩) rfl rfl (by simp) dJ0_charAt_5068e_1 rfl ?_
  refine r_if_eq 16 7 C dJ0_charAt_5068e_4 rfl rfl (fun c1 => absurd c1 (by decide)) (fun _ => ?_)
  refine r_aload_n 8 C 0 dJ0_charAt_5068e_7 rfl rfl ?_
  refine r_sval 11 C hi (by decide +kernel) dJ0_charAt_5068e_8 rfl ?_
  refine r_iload_n 12 C 1 dJ0_charAt_5068e_11 rfl rfl ?_
  refine r_Si (As := [.ref (G.2.2.2.2.2.2 i), .int j]) 15 C (c_J1_charAt l G A i hi j h1 h2 g) (va_cwS 2 C.1.2.2.2.2 gJ0_charAt_5068e_J1_charAt_3b067 rfl rfl rfl hd_J1_charAt ⟨Nat.le_of_ble_eq_true rfl, Nat.le_of_ble_eq_true rfl⟩) rfl rfl (by simp) dJ0_charAt_5068e_12 rfl ?_
  exact r_nret C hr hk0 (sCh_nar2 hi (sLen_in hi h1 h2)) dJ0_charAt_5068e_15
/-! Orders.partsOf -/
def f_X1_partsOf (a1 : Int32) : Nat := if a1 = 97 then 3 else if a1 = 100 then 4 else if a1 = 110 then 0 else if a1 = 117 then 4 else if a1 = 118 then 2 else if a1 = 121 then 1 else 5
theorem hd_X1_partsOf : yX1_partsOf.cls ≠ "java/lang/invoke/MethodHandle" ∧ yX1_partsOf.cls ≠ "java/lang/invoke/VarHandle" ∧ (parseMethodDescriptor yX1_partsOf.desc).map (fun d => d.parameters.length) = some 1 := by decide +kernel
theorem f_X1_partsOf_lt (a1 : Int32) : f_X1_partsOf a1 < 6 := by
  unfold f_X1_partsOf
  repeat' split
  all_goals decide
set_option maxRecDepth 100000 in
set_option maxHeartbeats 4000000 in
theorem c_X1_partsOf (l : Launch) (G : GG) (A : Nat → Prop) (a1 : Int32) (g : Mem) (i : Nat) (hf : f_X1_partsOf a1 = i) : k_Mt l yX1_partsOf wsX1_partsOf rm_0 G shC A [.int a1] g i := by
  refine k_oft (cc := cX1_partsOf) (nL := 1) (own := RX1) (by decide +kernel) rfl rfl (by simp [lg_sl, Value.category]) ⟨rfl, rfl⟩ [(0, .int a1)] rfl ?_
  intro p e s m args below meth c C hr hk0
  rw [f_X1_partsOf] at hf
  refine r_iload_n 1 C 0 dX1_partsOf_0 rfl rfl ?_
  by_cases c1 : a1 = 97
  · have hf := oip c1 hf
    subst hf
    refine r_lookup 69 C (off := 68) dX1_partsOf_1 (by decide) (by rw [c1]; rfl) rfl ?_
    refine r_ldcS 71 C 3 (by decide) rfl rfl dX1_partsOf_69 rfl ?_
    exact r_tret C hr hk0 dX1_partsOf_71
  have hf := oin c1 hf
  by_cases c2 : a1 = 100
  · have hf := oip c2 hf
    subst hf
    refine r_lookup 72 C (off := 71) dX1_partsOf_1 (by decide) (by rw [c2]; rfl) rfl ?_
    refine r_ldcS 74 C 4 (by decide) rfl rfl dX1_partsOf_72 rfl ?_
    exact r_tret C hr hk0 dX1_partsOf_74
  have hf := oin c2 hf
  by_cases c3 : a1 = 110
  · have hf := oip c3 hf
    subst hf
    refine r_lookup 60 C (off := 59) dX1_partsOf_1 (by decide) (by rw [c3]; rfl) rfl ?_
    refine r_ldcS 62 C 0 (by decide) rfl rfl dX1_partsOf_60 rfl ?_
    exact r_tret C hr hk0 dX1_partsOf_62
  have hf := oin c3 hf
  by_cases c4 : a1 = 117
  · have hf := oip c4 hf
    subst hf
    refine r_lookup 72 C (off := 71) dX1_partsOf_1 (by decide) (by rw [c4]; rfl) rfl ?_
    refine r_ldcS 74 C 4 (by decide) rfl rfl dX1_partsOf_72 rfl ?_
    exact r_tret C hr hk0 dX1_partsOf_74
  have hf := oin c4 hf
  by_cases c5 : a1 = 118
  · have hf := oip c5 hf
    subst hf
    refine r_lookup 66 C (off := 65) dX1_partsOf_1 (by decide) (by rw [c5]; rfl) rfl ?_
    refine r_ldcS 68 C 2 (by decide) rfl rfl dX1_partsOf_66 rfl ?_
    exact r_tret C hr hk0 dX1_partsOf_68
  have hf := oin c5 hf
  by_cases c6 : a1 = 121
  · have hf := oip c6 hf
    subst hf
    refine r_lookup 63 C (off := 62) dX1_partsOf_1 (by decide) (by rw [c6]; rfl) rfl ?_
    refine r_ldcS 65 C 1 (by decide) rfl rfl dX1_partsOf_63 rfl ?_
    exact r_tret C hr hk0 dX1_partsOf_65
  have hf := oin c6 hf
  subst hf
  refine r_lookup 75 C (off := 74) dX1_partsOf_1 (by decide) (by
    simp only [Op.lookupswitch.offset_cons, Op.lookupswitch.offset_nil]
    rw [if_neg (ne_i c1 (by decide))]
    rw [if_neg (ne_i c2 (by decide))]
    rw [if_neg (ne_i c3 (by decide))]
    rw [if_neg (ne_i c4 (by decide))]
    rw [if_neg (ne_i c5 (by decide))]
    rw [if_neg (ne_i c6 (by decide))]) rfl ?_
  refine r_ldcS 77 C 5 (by decide) rfl rfl dX1_partsOf_75 rfl ?_
  exact r_tret C hr hk0 dX1_partsOf_77
