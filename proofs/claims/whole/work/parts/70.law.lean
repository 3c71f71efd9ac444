/-! THE LAW: what the skeleton says of the claim's ends -/
def lw_P (b : Addr) (xs : List Int32) (args : Array Value) (s : State) : Prop := args = #[.ref b] ∧ s.IntsAt b xs ∧ xs.length ≤ 2560 ∧ (Jvm.Cond.and given_1 narrow_1).before args s = true
def lw_Q (_ : Array Value) (s : State) (o : Outcome) (t : State) : Prop := o = .returned (some (.int 1)) ∧ Framed s o t [] 600000 7302250
def lw_Z (below : List Frame) (a : Array Value) (s : State) : State → Prop := fun t => ∃ o, t.status = .running ∧ Ended t below o ∧ lw_Q a s o t
theorem lw_ret {p : Program} {l : Launch} {e : Env} {s : State} {m : MethodId} {below : List Frame} {meth : Method} {c : Code} {b : Nat} (hx : p.tables.exec = Jvm.exec) (hb : c.code = code) (hr : meth.sig.returnType = ret) (hlocks : meth.locks = false) {pc : Nat} {H : Heap} {ls : Array Slot} (hdg : decode code pc = .ok (.ireturn, 1)) : W p l e room_1 s m #[Value.ref b] below meth c H [] 600000 7302250 (lw_Z below #[Value.ref b] s) (F0 m pc ls [.int 1]) := by
  intro T hT X
  obtain ⟨fs, hret, hrun, hended, hW, hframe⟩ := X.leave (v := some (.int 1)) (hlocks := hlocks) (fun h => by rw [hr] at h; cases h)
  have hmeth' : T.vm.method? m = some meth := X.method'
  refine ⟨T.setFrames fs, ?_, .returned (some (.int 1)), hrun, hended, rfl, ⟨_, rfl⟩, hW, hframe⟩
  jvm_step X.here [X.here.top, hx, hb, hdg, hmeth', hr, ret, narrow_b1]
  (try refine ⟨rfl, ?_⟩); (try refine ⟨rfl, ?_⟩)
  first | (intro acts; rw [hret _ acts rfl rfl rfl]) | rw [hret _ _ rfl rfl rfl]
  exact Steps.refl _
/-! two worlds side by side: the class's and the reference's -/
theorem k_E.narrow {G : GG} {A B : Nat → Prop} {U : State} (h : k_E G A U) (hAB : ∀ q, B q → A q) : k_E G B U := ⟨h.1.narrow hAB, h.2.1, h.2.2.1.narrow hAB, h.2.2.2.narrow hAB⟩
abbrev gZ : Mem := fun _ _ => 0
def aof (ws : va_W) : Nat → Prop := fun q => ∃ (k : Nat) (e : va_E), ws[k]? = some (q, e)
abbrev AX (s : State) : Nat → Prop := fun q => s.heap.size ≤ q
abbrev wC (G : GG) (ad : Nat → Nat) (g : Mem) : va_W := k_wl (wA G ad) g 0 shC
abbrev wM (G : GG) (ad : Nat → Nat) (g : Mem) : va_W := k_wl (wA G ad) g 0 shM
theorem aof_D {A : Nat → Prop} {ws : va_W} (h : va_D A ws) : va_D (aof ws) ws := ⟨h.1, fun k q hk => ⟨k, q.2, hk⟩⟩
/-- what stays the same through the law -/
def LX (p : Program) (s : State) (m : MethodId) (c : Code) (b L : Nat) (xs : Nat → Int32) (G : GG) (ac am : Nat → Nat) : Prop :=
  CallFix p m c cL_law 4 s #[Value.ref b] wsL_law RL ∧ va_X b L xs s s.heap ∧ b < s.heap.size ∧ L ≤ 2560 ∧ va_K G.1 vwCl (k_ty G) s ∧ va_D (AX s) (wC G ac gZ) ∧ va_D (AX s) (wM G am gZ) ∧ k_NW s ∧ k_E G (AX s) s ∧ ∀ q, aof (wC G ac gZ) q → aof (wM G am gZ) q → False
/-- the law at pc, with these locals, this stack, these memories, comes to its end -/
def JL (p : Program) (l : Launch) (e : Env) (s : State) (m : MethodId) (b : Nat) (below : List Frame) (meth : Method) (c : Code) (G : GG) (ac am : Nat → Nat) (pc : Nat) (Ls : List (Nat × Value)) (st : List Value) (g h : Mem) : Prop :=
  ∀ (H : Heap) (locs : List Loc) (ls : Array Slot), va_P G.1 vwCl (wC G ac g) H → va_P G.1 vwCl (wM G am h) H → va_S (AX s) s.heap H locs → lv_has ls 4 Ls → W p l e room_1 s m #[Value.ref b] below meth c H locs 600000 7302250 (lw_Z below #[Value.ref b] s) (F0 m pc ls st)
section LAW
variable {p : Program} {l : Launch} {e : Env} {s : State} {m : MethodId} {below : List Frame} {meth : Method} {c : Code} {b L : Nat} {xs : Nat → Int32} {G : GG} {ac am : Nat → Nat}
variable {pc : Nat} {Ls : List (Nat × Value)} {st stk : List Value} {g h g' h' : Mem}
variable {y : MethodName} {bytes : ByteArray} {maxL n index : Nat} {ws : List Cond} {rm : Room} {As : List Value} {r : Int32}
abbrev LL (b ac am i : Nat) : List (Nat × Value) := [(3, .int (nI i)), (2, .ref am), (1, .ref ac), (0, .ref b)]
theorem l_aload (q j : Nat) (X : LX p s m c b L xs G ac am) {n : Fin 4} {x : Nat} (hd : decode cL_law pc = .ok (.aload_n n, 1)) (hq : pc + 1 = q) (hk : Ls[j]? = some (n.val, .ref x)) (k : JL p l e s m b below meth c G ac am q Ls (.ref x :: st) g h) : JL p l e s m b below meth c G ac am pc Ls st g h := by
  subst hq
  exact fun H locs ls hC hM hS hl => lv_aload_n X.1.1 X.1.2.1 hd rfl (lv_at hl j hk) (k H locs ls hC hM hS hl)
/-- script[i + k] on the stack -/
theorem l_arg {i : Nat} (q k : Nat) {n : Int} (X : LX p s m c b L xs G ac am) (hik : i + k < L) (h0 : decode cL_law pc = .ok (.aload_n 0, 1)) (h1 : decode cL_law (pc + 1) = .ok (.iload_n 3, 1)) (h2 : decode cL_law (pc + 1 + 1) = .ok (.iconst n, 1)) (hn : Int32.ofInt n = nI k) (h3 : decode cL_law (pc + 1 + 1 + 1) = .ok (.iadd, 1)) (h4 : decode cL_law (pc + 1 + 1 + 1 + 1) = .ok (.iaload, 1)) (hq : pc + 5 = q)
    (kk : JL p l e s m b below meth c G ac am q (LL b (ac 0) (am 0) i) (.int (xs (i + k)) :: st) g h) : JL p l e s m b below meth c G ac am pc (LL b (ac 0) (am 0) i) st g h := by
  subst hq
  intro H locs ls hC hM hS hl
  have hL := X.2.2.2.1
  have hbA : ¬ AX s b := Nat.not_le.mpr X.2.2.1
  refine lv_aload_n X.1.1 X.1.2.1 h0 rfl (lv_at hl 3 rfl) ?_
  refine lv_iload_n X.1.1 X.1.2.1 h1 rfl (lv_at hl 0 rfl) ?_
  refine lv_iconst (v := nI k) X.1.1 X.1.2.1 h2 hn ?_
  refine lv_iadd X.1.1 X.1.2.1 h3 ?_
  rw [nI_add]
  refine va_sld X.1.1 X.1.2.1 X.2.1 X.2.2.1 hbA hS (vp_in_nI hik (by omega)) h4 ?_
  rw [nI_clamp (by omega)]
  exact kk H locs ls hC hM hS hl
/-- the class's method is called -/
theorem l_callC (q : Nat) (X : LX p s m c b L xs G ac am) (hM : k_Mi l y ws rm (wA G ac) shC (aof (wC G ac gZ)) (.ref (ac 0) :: As) g r g') (cw : CallW room_1 s #[Value.ref b] RL RX4 index y bytes maxL (some .int) ws rm 0 0 n) (hn : As.length = n) (hst : stk = As.reverse ++ .ref (ac 0) :: st) (hcat : (st.map fun v => v.category).sum ≤ 8) (hd : decode cL_law pc = .ok (.invokevirtual index, 3)) (hq : pc + 3 = q)
    (kk : JL p l e s m b below meth c G ac am q Ls (.int r :: st) g' h) : JL p l e s m b below meth c G ac am pc Ls stk g h := by
  subst hq
  intro H locs ls hPC hPM hS hl
  obtain ⟨x1, x2, x3, x4, x5, x6, x7, x8, x9, x10⟩ := X
  have hAC : ∀ q, aof (wC G ac gZ) q → AX s q := fun q ⟨k, e, hh⟩ => x6.2 k (q, e) hh
  have he := k_wl_get (G := wA G ac) (g := g) shC 0 0 shC_0
  have hp : PreV s H RX4 (ac 0) (va_Pc (.ref (ac 0) :: As) (k_W (wA G ac) shC (aof (wC G ac gZ)) g)) As :=
    ⟨k_blind, va_recv x5 hPC (ci := 4) (q := (RX4, TX4, 10)) rfl he, fun U hU hW => ⟨rfl, by rw [hU]; exact hPC, va_K.moved hW.alike x5, aof_D x6, x8.warm hW, (k_E.move (G := wA G ac) x9 hS hU hW).narrow hAC⟩⟩
  refine va_calli (mc := 0) (ms := 0) (va_runV x1 hM cw hp rfl hn hl.1 hst (lv_room hcat) hd ⟨Nat.le_refl _, Nat.le_refl _⟩) hS (fun q _ hh => hAC q hh) hAC (fun r1 u t H1 locs1 ht hvm hw hB hz hk hS1 => ?_)
  obtain ⟨hP1, -⟩ := hB
  subst hw
  rw [ht] at hP1
  have hDM : va_D (aof (wM G am gZ)) (wM G am h) := k_D_any (aof_D x7)
  exact kk H1 locs1 ls hP1 (hPM.kept (fun k q hq => hk q.1 (hPM k q hq).lt (fun hA => x10 q.1 hA (hDM.2 k q hq)))) hS1 hl
/-- the reference's method is called -/
theorem l_callM (q : Nat) (X : LX p s m c b L xs G ac am) (hM : k_Mi l y ws rm (wA G am) shM (aof (wM G am gZ)) (.ref (am 0) :: As) h r h') (cw : CallW room_1 s #[Value.ref b] RL RX5 index y bytes maxL (some .int) ws rm 0 0 n) (hn : As.length = n) (hst : stk = As.reverse ++ .ref (am 0) :: st) (hcat : (st.map fun v => v.category).sum ≤ 8) (hd : decode cL_law pc = .ok (.invokevirtual index, 3)) (hq : pc + 3 = q)
    (kk : JL p l e s m b below meth c G ac am q Ls (.int r :: st) g h') : JL p l e s m b below meth c G ac am pc Ls stk g h := by
  subst hq
  intro H locs ls hPC hPM hS hl
  obtain ⟨x1, x2, x3, x4, x5, x6, x7, x8, x9, x10⟩ := X
  have hAM : ∀ q, aof (wM G am gZ) q → AX s q := fun q ⟨k, e, hh⟩ => x7.2 k (q, e) hh
  have he := k_wl_get (G := wA G am) (g := h) shM 0 0 shM_0
  have hp : PreV s H RX5 (am 0) (va_Pc (.ref (am 0) :: As) (k_W (wA G am) shM (aof (wM G am gZ)) h)) As :=
    ⟨k_blind, va_recv x5 hPM (ci := 5) (q := (RX5, TX5, 15)) rfl he, fun U hU hW => ⟨rfl, by rw [hU]; exact hPM, va_K.moved hW.alike x5, aof_D x7, x8.warm hW, (k_E.move (G := wA G am) x9 hS hU hW).narrow hAM⟩⟩
  refine va_calli (mc := 0) (ms := 0) (va_runV x1 hM cw hp rfl hn hl.1 hst (lv_room hcat) hd ⟨Nat.le_refl _, Nat.le_refl _⟩) hS (fun q _ hh => hAM q hh) hAM (fun r1 u t H1 locs1 ht hvm hw hB hz hk hS1 => ?_)
  obtain ⟨hP1, -⟩ := hB
  subst hw
  rw [ht] at hP1
  have hDC : va_D (aof (wC G ac gZ)) (wC G ac g) := k_D_any (aof_D x6)
  exact kk H1 locs1 ls (hPC.kept (fun k q hq => hk q.1 (hPC k q hq).lt (fun hA => x10 q.1 (hDC.2 k q hq) hA))) hP1 hS1 hl
/-- both answers are the same: on it goes -/
theorem l_eq (t : Nat) (X : LX p s m c b L xs G ac am) {off : Int} {v : Int32} (hd : decode cL_law pc = .ok (.if_icmp .eq off, 3)) (ht : (pc : Int) + off = (t : Int)) (kk : JL p l e s m b below meth c G ac am t Ls st g h) : JL p l e s m b below meth c G ac am pc Ls (.int v :: .int v :: st) g h :=
  fun H locs ls hC hM hS hl => lv_icmp_eq X.1.1 X.1.2.1 hd ht (fun _ => kk H locs ls hC hM hS hl) (fun w => absurd rfl w)
/-- 'is not 0', as javac writes it -/
theorem l_flag (q : Nat) (X : LX p s m c b L xs G ac am) {x : Int32} (h0 : decode cL_law pc = .ok (.ifCond .eq 7, 3)) (h1 : decode cL_law (pc + 3) = .ok (.iconst 1, 1)) (h2 : decode cL_law (pc + 3 + 1) = .ok (.goto 4, 3)) (h3 : decode cL_law (pc + 7) = .ok (.iconst 0, 1)) (hq : pc + 8 = q)
    (kk : JL p l e s m b below meth c G ac am q Ls (.int (bI (decide (¬ x = 0))) :: st) g h) : JL p l e s m b below meth c G ac am pc Ls (.int x :: st) g h := by
  subst hq
  intro H locs ls hC hM hS hl
  refine lv_if_eq (tgt := pc + 7) X.1.1 X.1.2.1 h0 (by omega) (fun w => ?_) (fun w => ?_)
  · refine lv_iconst (v := 0) X.1.1 X.1.2.1 h3 rfl ?_
    have hv : bI (decide (¬ x = 0)) = 0 := by rw [decide_eq_false (fun h => h w)]; rfl
    have k2 := kk H locs ls hC hM hS hl
    rw [hv] at k2
    exact k2
  · refine lv_iconst (v := 1) X.1.1 X.1.2.1 h1 rfl ?_
    refine lv_goto (tgt := pc + 8) X.1.1 X.1.2.1 h2 (by omega) ?_
    have hv : bI (decide (¬ x = 0)) = 1 := by rw [decide_eq_true w]; rfl
    have k2 := kk H locs ls hC hM hS hl
    rw [hv] at k2
    exact k2
theorem l_i2c (q : Nat) (X : LX p s m c b L xs G ac am) {x v : Int32} (hd : decode cL_law pc = .ok (.i2c, 1)) (hv : (x.toUInt32 % 65536).toInt32 = v) (hq : pc + 1 = q) (kk : JL p l e s m b below meth c G ac am q Ls (.int v :: st) g h) : JL p l e s m b below meth c G ac am pc Ls (.int x :: st) g h := by
  subst hq
  exact fun H locs ls hC hM hS hl => lv_i2c X.1.1 X.1.2.1 hd hv (kk H locs ls hC hM hS hl)
end LAW
/-- the loop's condition -/
theorem lw_cmp {i L : Nat} (hi : i < 2 ^ 20) (hL : L ≤ 2560) : Int32.ofNat L - 5 < nI i ↔ L < i + 5 := by
  rw [Int32.lt_iff_toInt_lt, nI_toInt (by omega), Int32.toInt_sub]
  have h1 : (Int32.ofNat L).toInt = (L : Int) := nI_toInt (by omega)
  have h2 : (5 : Int32).toInt = 5 := by decide
  rw [h1, h2]
  have h3 : ((L : Int) - 5).bmod (2 ^ 32) = (L : Int) - 5 := by
    apply Int.bmod_eq_of_le <;> omega
  rw [h3]
  omega
