/-! rows for longs; an answer that is a long -/
abbrev k_Ql (G : GG) (sh : List Kd) (A : Nat → Prop) (r : Int64) (g' : Mem) : Array Value → State → Outcome → State → Prop := va_Ql (fun r' (_ : Unit) => r' = r) (fun _ => k_W G sh A g') A
abbrev k_Ml (l : Launch) (y : MethodName) (ws : List Cond) (rm : Room) (G : GG) (sh : List Kd) (A : Nat → Prop) (As : List Value) (g : Mem) (r : Int64) (g' : Mem) : Prop :=
  Met l y ws rm (va_Pc As (k_W G sh A g)) (va_Ql (fun r' (_ : Unit) => r' = r) (fun _ => k_W G sh A g') A) 0 0 A
theorem bI_t {b : Bool} (h : ¬ bI b = 0) : b = true := by
  cases b
  · exact absurd rfl h
  · rfl
theorem bI_f {b : Bool} (h : bI b = 0) : b = false := by
  cases b
  · rfl
  · exact absurd h (by decide)
section ROWS
variable {p : Program} {l : Launch} {e : Env} {R : Room} {s : State} {m : MethodId} {args : Array Value} {below : List Frame} {meth : Method} {c : Code} {nL : Nat} {G : GG} {sh : List Kd} {A : Nat → Prop} {Q : State → Prop}
variable {cc : ByteArray} {own : String} {Ts : List Cond} {pc : Nat} {L : List (Nat × Value)} {st : List Value} {g : Mem}
theorem r_ldc (q : Nat) (C : KX p s m args c cc nL own Ts G sh A) {index : Nat} {v : Int32} (hd : decode cc pc = .ok (.ldc index, 2)) (hq : pc + 2 = q) (hc : Cond.constant own index v ∈ Ts) (k : JJ p l e R s m args below meth c nL G sh A Q q L (.int v :: st) g) : JJ p l e R s m args below meth c nL G sh A Q pc L st g := by
  subst hq
  exact fun H locs ls hP hS hl => lv_ldc C.1.1 C.1.2.1 C.1.2.2.2.1 (C.1.2.2.2.2 _ hc) hd (k H locs ls hP hS hl)
theorem r_ldc2 (q : Nat) (C : KX p s m args c cc nL own Ts G sh A) {index : Nat} {v : Int64} (hd : decode cc pc = .ok (.ldc2_w index, 3)) (hq : pc + 3 = q) (hc : Cond.constantLong own index v ∈ Ts) (k : JJ p l e R s m args below meth c nL G sh A Q q L (.long v :: st) g) : JJ p l e R s m args below meth c nL G sh A Q pc L st g := by
  subst hq
  exact fun H locs ls hP hS hl => lv_ldc2 C.1.1 C.1.2.1 C.1.2.2.2.1 (C.1.2.2.2.2 _ hc) hd (k H locs ls hP hS hl)
theorem r_lload_n (q : Nat) (C : KX p s m args c cc nL own Ts G sh A) {n : Fin 4} {x : Int64} (j : Nat) (hd : decode cc pc = .ok (.lload_n n, 1)) (hq : pc + 1 = q) (hk : L[j]? = some (n.val, .long x)) (k : JJ p l e R s m args below meth c nL G sh A Q q L (.long x :: st) g) : JJ p l e R s m args below meth c nL G sh A Q pc L st g := by
  subst hq
  exact fun H locs ls hP hS hl => lv_lload_n C.1.1 C.1.2.1 hd rfl (lv_at hl j hk) (k H locs ls hP hS hl)
theorem r_lload (q : Nat) (C : KX p s m args c cc nL own Ts G sh A) {n : Nat} {x : Int64} (j : Nat) (hd : decode cc pc = .ok (.lload n, 2)) (hq : pc + 2 = q) (hk : L[j]? = some (n, .long x)) (k : JJ p l e R s m args below meth c nL G sh A Q q L (.long x :: st) g) : JJ p l e R s m args below meth c nL G sh A Q pc L st g := by
  subst hq
  exact fun H locs ls hP hS hl => lv_lload C.1.1 C.1.2.1 hd (lv_at hl j hk) (k H locs ls hP hS hl)
theorem r_lstore_n (q : Nat) (C : KX p s m args c cc nL own Ts G sh A) {n : Fin 4} {x y : Int64} (L' : List (Nat × Value)) (hd : decode cc pc = .ok (.lstore_n n, 1)) (hq : pc + 1 = q) (hy : y = x) (hn : n.val + 1 < nL) (hl : (n.val, Value.long y) :: L.filter (fun q => !(q.1 == n.val) && (!(q.1 == n.val + 1) && !(q.1 + 1 == n.val && q.2.category == 2))) = L') (k : JJ p l e R s m args below meth c nL G sh A Q q L' st g) : JJ p l e R s m args below meth c nL G sh A Q pc L (.long x :: st) g := by
  subst hq
  subst hy
  exact fun H locs ls hP hS hlv => lv_lstore_n C.1.1 C.1.2.1 hd rfl hlv hn hl (fun ls' hl' => k H locs ls' hP hS hl')
theorem r_lstore (q : Nat) (C : KX p s m args c cc nL own Ts G sh A) {n : Nat} {x y : Int64} (L' : List (Nat × Value)) (hd : decode cc pc = .ok (.lstore n, 2)) (hq : pc + 2 = q) (hy : y = x) (hn : n + 1 < nL) (hl : (n, Value.long y) :: L.filter (fun q => !(q.1 == n) && (!(q.1 == n + 1) && !(q.1 + 1 == n && q.2.category == 2))) = L') (k : JJ p l e R s m args below meth c nL G sh A Q q L' st g) : JJ p l e R s m args below meth c nL G sh A Q pc L (.long x :: st) g := by
  subst hq
  subst hy
  exact fun H locs ls hP hS hlv => lv_lstore C.1.1 C.1.2.1 hd hlv hn hl (fun ls' hl' => k H locs ls' hP hS hl')
theorem r_ladd (q : Nat) (C : KX p s m args c cc nL own Ts G sh A) {x y : Int64} (hd : decode cc pc = .ok (.ladd, 1)) (hq : pc + 1 = q) (k : JJ p l e R s m args below meth c nL G sh A Q q L (.long (x + y) :: st) g) : JJ p l e R s m args below meth c nL G sh A Q pc L (.long y :: .long x :: st) g := by
  subst hq
  exact fun H locs ls hP hS hl => lv_ladd C.1.1 C.1.2.1 hd (k H locs ls hP hS hl)
theorem r_lmul (q : Nat) (C : KX p s m args c cc nL own Ts G sh A) {x y : Int64} (hd : decode cc pc = .ok (.lmul, 1)) (hq : pc + 1 = q) (k : JJ p l e R s m args below meth c nL G sh A Q q L (.long (x * y) :: st) g) : JJ p l e R s m args below meth c nL G sh A Q pc L (.long y :: .long x :: st) g := by
  subst hq
  exact fun H locs ls hP hS hl => lv_lmul C.1.1 C.1.2.1 hd (k H locs ls hP hS hl)
theorem r_i2l (q : Nat) (C : KX p s m args c cc nL own Ts G sh A) {x : Int32} (hd : decode cc pc = .ok (.i2l, 1)) (hq : pc + 1 = q) (k : JJ p l e R s m args below meth c nL G sh A Q q L (.long x.toInt64 :: st) g) : JJ p l e R s m args below meth c nL G sh A Q pc L (.int x :: st) g := by
  subst hq
  exact fun H locs ls hP hS hl => lv_i2l C.1.1 C.1.2.1 hd rfl (k H locs ls hP hS hl)
theorem r_lcmp (q : Nat) (C : KX p s m args c cc nL own Ts G sh A) {x y : Int64} (hd : decode cc pc = .ok (.lcmp, 1)) (hq : pc + 1 = q) (k : JJ p l e R s m args below meth c nL G sh A Q q L (.int (lg_cmp x y) :: st) g) : JJ p l e R s m args below meth c nL G sh A Q pc L (.long y :: .long x :: st) g := by
  subst hq
  exact fun H locs ls hP hS hl => W.lcmp C.1.1 C.1.2.1 hd (k H locs ls hP hS hl)
variable {y : MethodName} {bytes : ByteArray} {maxL n index : Nat} {ret : Option FieldType} {ws : List Cond} {rm : Room} {As stk : List Value} {g' : Mem} {r : Int64}
theorem r_gol {a : Array Value} {H : Heap} {locs : List Loc} {ls : Array Slot} (q : Nat) (hq : pc + 3 = q) (hr : va_Run p l e R s m args below meth c H locs 0 0 0 0 (F0 m pc ls stk) st (k_Ql G sh A r g' a) A) (hS : va_S A s.heap H locs) (hl : lv_has ls nL L)
    (k : JJ p l e R s m args below meth c nL G sh A Q q L (.long r :: st) g') : W p l e R s m args below meth c H locs 0 0 Q (F0 m pc ls stk) := by
  subst hq
  refine va_calll (mc := 0) (ms := 0) hr hS (fun _ _ h => h) (fun _ h => h) (fun r1 u t H1 locs1 ht hvm hw hB hz hk hS1 => ?_)
  obtain ⟨hP1, -⟩ := hB
  subst hw
  rw [ht] at hP1
  exact k H1 locs1 ls hP1 hS1 hl
theorem r_Sl (q : Nat) (C : KX p s m args c cc nL own Ts G sh A) (hM : k_Ml l y ws rm G sh A As g r g') (cw : CallB R s args own index y bytes maxL ret ws rm 0 0 n ∧ (Cond.static y).before args s = true) (hn : As.length = n) (hst : stk = As.reverse ++ st) (hcat : (st.map fun v => v.category).sum ≤ 8) (hd : decode cc pc = .ok (.invokestatic index, 3)) (hq : pc + 3 = q)
    (k : JJ p l e R s m args below meth c nL G sh A Q q L (.long r :: st) g') : JJ p l e R s m args below meth c nL G sh A Q pc L stk g :=
  fun H locs ls hP hS hl => r_gol q hq (va_runS C.1 hM cw (k_preS hS C hP) rfl hn hl.1 hst (lv_room hcat) hd ⟨Nat.zero_le _, Nat.zero_le _⟩) hS hl k
theorem r_lret (C : KX p s m args c cc nL own Ts G sh A) (hr : meth.sig.returnType = some .long) (hk : meth.locks = false) {a : Array Value} {v : Int64} (hd : decode cc pc = .ok (.lreturn, 1)) : JJ p l e R s m a below meth c nL G sh A (MQ below (k_Ql G sh A v g) a s 0 0 A) pc L [.long v] g :=
  fun H locs ls hP hS hl => W.lret (v := v) C.1.1 C.1.2.1 hr (fun t ht hW => ⟨⟨v, (), rfl, rfl, by rw [ht]; exact hP, va_K.moved hW.alike C.2.1, C.2.2.1, C.2.2.2.1.warm hW, C.2.2.2.2.move hS ht hW⟩, hS.F ht⟩) hS.2.2 hd hk
theorem k_ofl {ws' : List Cond} {ty : FieldType} (hy : plainName y.cls = true) (hw : ws = Cond.code y cc nL (some ty) :: ws') (hown : y.cls = own) (hsz : (lg_sl As).length ≤ nL) (hrm : rm.cells = 0 ∧ rm.slots = 0) (L : List (Nat × Value)) (hL : lv_args 0 As = L)
    (body : ∀ (p : Program) (e : Env) (s : State) (m : MethodId) (args : Array Value) (below : List Frame) (meth : Method) (c : Code), KX p s m args c cc nL own ws G sh A → meth.sig.returnType = some ty → meth.locks = false → JJ p l e rm s m args below meth c nL G sh A (MQ below (k_Ql G sh A r g') args s 0 0 A) 0 L [] g) : k_Ml l y ws rm G sh A As g r g' := by
  refine Met.ofW (cc := cc) (maxL := nL) (ret := some ty) hy hw ?_
  intro p e s m args below meth c s₁ B hml hv
  obtain ⟨rfl, hP, hK, hD, hN, hE⟩ := hv
  have hown2 : s.vm.findClass own = some m.cls := by rw [← hown]; exact findClass_of_methodNamed B.named
  have hl := lv_entry As hsz
  rw [lg_entry_eq]
  rw [hL] at hl
  exact body p e s m _ below meth c ⟨⟨B.exec, B.bytes, hml, hown2, atoms_spec (ws := ws) B.pre⟩, hK, hD, hN, hE⟩ B.returns B.notSynchronized s.heap [] _ hP va_S.rf hl
end ROWS
