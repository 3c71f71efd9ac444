/-! THE CLAIM OUT OF ONE WALK OF THE LAW'S BODY. Your part is whole_start (and what it stands on); all else here is the same for every law, but numbers. -/
def R_law : String := "AgreedSlotsLaw"
def lw_P (b : Addr) (xs : List Int32) (args : Array Value) (s : State) : Prop := args = #[.ref b] ∧ s.IntsAt b xs ∧ xs.length ≤ 260 ∧ (Jvm.Cond.and given_1 narrow_1).before args s = true
def lw_Q (_ : Array Value) (s : State) (o : Outcome) (t : State) : Prop := o = .returned (some (.int 1)) ∧ Framed s o t [] 600000 7302250
def lw_Z (below : List Frame) (a : Array Value) (s : State) : State → Prop := fun t => ∃ o, t.status = .running ∧ Ended t below o ∧ lw_Q a s o t
/-- the law's own end, with 1 on the stack, nothing written that was there before, its room as the claim has it -/
theorem lw_ret {p : Program} {l : Launch} {e : Env} {s : State} {m : MethodId} {below : List Frame} {meth : Method} {c : Code} {b : Nat} (hx : p.tables.exec = Jvm.exec) (hb : c.code = code) (hr : meth.sig.returnType = ret) (hlocks : meth.locks = false) {pc : Nat} {H : Heap} {ls : Array Slot} (hdg : decode code pc = .ok (.ireturn, 1)) : W p l e room_1 s m #[Value.ref b] below meth c H [] 600000 7302250 (lw_Z below #[Value.ref b] s) (F0 m pc ls [.int 1]) := by
  intro T hT X
  obtain ⟨fs, hret, hrun, hended, hW, hframe⟩ := X.leave (v := some (.int 1)) (hlocks := hlocks) (fun h => by rw [hr] at h; cases h)
  have hmeth' : T.vm.method? m = some meth := X.method'
  refine ⟨T.setFrames fs, ?_, .returned (some (.int 1)), hrun, hended, rfl, ⟨_, rfl⟩, hW, hframe⟩
  jvm_step X.here [X.here.top, hx, hb, hdg, hmeth', hr, ret, narrow_b1]
  (try refine ⟨rfl, ?_⟩); (try refine ⟨rfl, ?_⟩)
  first | (intro acts; rw [hret _ acts rfl rfl rfl]) | rw [hret _ _ rfl rfl rfl]
  exact Steps.refl _
/-- what holds at the law's entry: the machine, the code, the tables' words (any of lw_tbl by 'hts w (by decide +kernel)'), the script of L ints xs at the cell b, what the Statement gives of the start (any of its parts by flat_of_before) -/
def lw_At (p : Program) (s : State) (m : MethodId) (meth : Method) (c : Code) (b L : Nat) (xs : Nat → Int32) : Prop :=
  p.tables.exec = Jvm.exec ∧ c.code = code ∧ meth.sig.returnType = ret ∧ c.maxLocals = 14 ∧ s.vm.findClass R_law = some m.cls ∧ (∀ w ∈ lw_tbl, w.before #[Value.ref b] s = true) ∧ va_X b L xs s s.heap ∧ b < s.heap.size ∧ meth.locks = false ∧ (Jvm.Cond.and given_1 narrow_1).before #[Value.ref b] s = true
/-! the class's world, and what stays the same through the law -/
theorem k_E.narrow {G : GG} {A B : Nat → Prop} {U : State} (h : k_E G A U) (hAB : ∀ q, B q → A q) : k_E G B U := ⟨h.1.narrow hAB, h.2.1, h.2.2.1.narrow hAB, h.2.2.2.narrow hAB⟩
abbrev gZ : Mem := fun _ _ => 0
def aof (ws : va_W) : Nat → Prop := fun q => ∃ (k : Nat) (e : va_E), ws[k]? = some (q, e)
abbrev AX (s : State) : Nat → Prop := fun q => s.heap.size ≤ q
abbrev wC (G : GG) (ad : Nat → Nat) (g : Mem) : va_W := k_wl (wA G ad) g 0 shC
theorem aof_D {A : Nat → Prop} {ws : va_W} (h : va_D A ws) : va_D (aof ws) ws := ⟨h.1, fun k q hk => ⟨k, q.2, hk⟩⟩
def LX (p : Program) (s : State) (m : MethodId) (c : Code) (b L : Nat) (xs : Nat → Int32) (G : GG) (ac : Nat → Nat) : Prop :=
  CallFix p m c cL_law 14 s #[Value.ref b] wsL_law RL ∧ va_X b L xs s s.heap ∧ b < s.heap.size ∧ L ≤ 260 ∧ va_K G.1 vwCl (k_ty G) s ∧ va_D (AX s) (wC G ac gZ) ∧ k_NW s ∧ k_E G (AX s) s
/-- the law at pc, with these locals, this stack, this memory, comes to its end -/
def JL (p : Program) (l : Launch) (e : Env) (s : State) (m : MethodId) (b : Nat) (below : List Frame) (meth : Method) (c : Code) (G : GG) (ac : Nat → Nat) (pc : Nat) (Ls : List (Nat × Value)) (st : List Value) (g : Mem) : Prop :=
  ∀ (H : Heap) (locs : List Loc) (ls : Array Slot), va_P G.1 vwCl (wC G ac g) H → va_S (AX s) s.heap H locs → lv_has ls 14 Ls → W p l e room_1 s m #[Value.ref b] below meth c H locs 600000 7302250 (lw_Z below #[Value.ref b] s) (F0 m pc ls st)
section LAW
variable {p : Program} {l : Launch} {e : Env} {s : State} {m : MethodId} {below : List Frame} {meth : Method} {c : Code} {b L : Nat} {xs : Nat → Int32} {G : GG} {ac : Nat → Nat}
variable {pc : Nat} {Ls : List (Nat × Value)} {st stk : List Value} {g g' : Mem}
theorem l_iconst (q : Nat) (X : LX p s m c b L xs G ac) {n : Int} {v : Int32} (hd : decode cL_law pc = .ok (.iconst n, 1)) (hq : pc + 1 = q) (hv : Int32.ofInt n = v) (k : JL p l e s m b below meth c G ac q Ls (.int v :: st) g) : JL p l e s m b below meth c G ac pc Ls st g := by
  subst hq
  exact fun H locs ls hP hS hl => lv_iconst X.1.1 X.1.2.1 hd hv (k H locs ls hP hS hl)
theorem l_bipush (q : Nat) (X : LX p s m c b L xs G ac) {n : Int} {v : Int32} (hd : decode cL_law pc = .ok (.bipush n, 2)) (hq : pc + 2 = q) (hv : (Int8.ofInt n).toInt32 = v) (k : JL p l e s m b below meth c G ac q Ls (.int v :: st) g) : JL p l e s m b below meth c G ac pc Ls st g := by
  subst hq
  exact fun H locs ls hP hS hl => lv_bipush X.1.1 X.1.2.1 hd hv (k H locs ls hP hS hl)
theorem l_sipush (q : Nat) (X : LX p s m c b L xs G ac) {n : Int} {v : Int32} (hd : decode cL_law pc = .ok (.sipush n, 3)) (hq : pc + 3 = q) (hv : (Int16.ofInt n).toInt32 = v) (k : JL p l e s m b below meth c G ac q Ls (.int v :: st) g) : JL p l e s m b below meth c G ac pc Ls st g := by
  subst hq
  exact fun H locs ls hP hS hl => lv_sipush X.1.1 X.1.2.1 hd hv (k H locs ls hP hS hl)
theorem l_iload_n (q : Nat) (X : LX p s m c b L xs G ac) {n : Fin 4} {x : Int32} (j : Nat) (hd : decode cL_law pc = .ok (.iload_n n, 1)) (hq : pc + 1 = q) (hk : Ls[j]? = some (n.val, .int x)) (k : JL p l e s m b below meth c G ac q Ls (.int x :: st) g) : JL p l e s m b below meth c G ac pc Ls st g := by
  subst hq
  exact fun H locs ls hP hS hl => lv_iload_n X.1.1 X.1.2.1 hd rfl (lv_at hl j hk) (k H locs ls hP hS hl)
theorem l_iload (q : Nat) (X : LX p s m c b L xs G ac) {n : Nat} {x : Int32} (j : Nat) (hd : decode cL_law pc = .ok (.iload n, 2)) (hq : pc + 2 = q) (hk : Ls[j]? = some (n, .int x)) (k : JL p l e s m b below meth c G ac q Ls (.int x :: st) g) : JL p l e s m b below meth c G ac pc Ls st g := by
  subst hq
  exact fun H locs ls hP hS hl => lv_iload X.1.1 X.1.2.1 hd (lv_at hl j hk) (k H locs ls hP hS hl)
theorem l_aload_n (q : Nat) (X : LX p s m c b L xs G ac) {n : Fin 4} {x : Nat} (j : Nat) (hd : decode cL_law pc = .ok (.aload_n n, 1)) (hq : pc + 1 = q) (hk : Ls[j]? = some (n.val, .ref x)) (k : JL p l e s m b below meth c G ac q Ls (.ref x :: st) g) : JL p l e s m b below meth c G ac pc Ls st g := by
  subst hq
  exact fun H locs ls hP hS hl => lv_aload_n X.1.1 X.1.2.1 hd rfl (lv_at hl j hk) (k H locs ls hP hS hl)
theorem l_istore_n (q : Nat) (X : LX p s m c b L xs G ac) {n : Fin 4} {x x' : Int32} (Ls' : List (Nat × Value)) (hd : decode cL_law pc = .ok (.istore_n n, 1)) (hq : pc + 1 = q) (hx : x' = x) (hn : n.val < 14) (hL : (n.val, Value.int x') :: Ls.filter (fun q => !(q.1 == n.val) && !(q.1 + 1 == n.val && q.2.category == 2)) = Ls') (k : JL p l e s m b below meth c G ac q Ls' st g) : JL p l e s m b below meth c G ac pc Ls (.int x :: st) g := by
  subst hq; subst hx
  exact fun H locs ls hP hS hl => lv_istore_n X.1.1 X.1.2.1 hd rfl hl hn hL (fun ls' hl' => k H locs ls' hP hS hl')
theorem l_istore (q : Nat) (X : LX p s m c b L xs G ac) {n : Nat} {x x' : Int32} (Ls' : List (Nat × Value)) (hd : decode cL_law pc = .ok (.istore n, 2)) (hq : pc + 2 = q) (hx : x' = x) (hn : n < 14) (hL : (n, Value.int x') :: Ls.filter (fun q => !(q.1 == n) && !(q.1 + 1 == n && q.2.category == 2)) = Ls') (k : JL p l e s m b below meth c G ac q Ls' st g) : JL p l e s m b below meth c G ac pc Ls (.int x :: st) g := by
  subst hq; subst hx
  exact fun H locs ls hP hS hl => lv_istore X.1.1 X.1.2.1 hd hl hn hL (fun ls' hl' => k H locs ls' hP hS hl')
theorem l_iadd (q : Nat) (X : LX p s m c b L xs G ac) {x y : Int32} (hd : decode cL_law pc = .ok (.iadd, 1)) (hq : pc + 1 = q) (k : JL p l e s m b below meth c G ac q Ls (.int (x + y) :: st) g) : JL p l e s m b below meth c G ac pc Ls (.int y :: .int x :: st) g := by
  subst hq
  exact fun H locs ls hP hS hl => lv_iadd X.1.1 X.1.2.1 hd (k H locs ls hP hS hl)
theorem l_imul (q : Nat) (X : LX p s m c b L xs G ac) {x y : Int32} (hd : decode cL_law pc = .ok (.imul, 1)) (hq : pc + 1 = q) (k : JL p l e s m b below meth c G ac q Ls (.int (x * y) :: st) g) : JL p l e s m b below meth c G ac pc Ls (.int y :: .int x :: st) g := by
  subst hq
  exact fun H locs ls hP hS hl => lv_imul X.1.1 X.1.2.1 hd (k H locs ls hP hS hl)
theorem l_iand (q : Nat) (X : LX p s m c b L xs G ac) {x y : Int32} (hd : decode cL_law pc = .ok (.iand, 1)) (hq : pc + 1 = q) (k : JL p l e s m b below meth c G ac q Ls (.int (x &&& y) :: st) g) : JL p l e s m b below meth c G ac pc Ls (.int y :: .int x :: st) g := by
  subst hq
  exact fun H locs ls hP hS hl => lv_iand X.1.1 X.1.2.1 hd (k H locs ls hP hS hl)
theorem l_ishr (q : Nat) (X : LX p s m c b L xs G ac) {x y : Int32} (hd : decode cL_law pc = .ok (.ishr, 1)) (hq : pc + 1 = q) (k : JL p l e s m b below meth c G ac q Ls (.int (x >>> (y &&& 31)) :: st) g) : JL p l e s m b below meth c G ac pc Ls (.int y :: .int x :: st) g := by
  subst hq
  exact fun H locs ls hP hS hl => lv_ishr X.1.1 X.1.2.1 hd (k H locs ls hP hS hl)
theorem l_goto (q : Nat) (X : LX p s m c b L xs G ac) {off : Int} (hd : decode cL_law pc = .ok (.goto off, 3)) (hq : (pc : Int) + off = (q : Int)) (k : JL p l e s m b below meth c G ac q Ls st g) : JL p l e s m b below meth c G ac pc Ls st g := fun H locs ls hP hS hl => lv_goto X.1.1 X.1.2.1 hd hq (k H locs ls hP hS hl)
theorem l_if_eq (t q : Nat) (X : LX p s m c b L xs G ac) {x : Int32} {off : Int} (hd : decode cL_law pc = .ok (.ifCond .eq off, 3)) (ht : (pc : Int) + off = (t : Int)) (hq : pc + 3 = q) (kt : x = 0 → JL p l e s m b below meth c G ac t Ls st g) (kf : ¬ x = 0 → JL p l e s m b below meth c G ac q Ls st g) : JL p l e s m b below meth c G ac pc Ls (.int x :: st) g := by
  subst hq
  exact fun H locs ls hP hS hl => lv_if_eq X.1.1 X.1.2.1 hd ht (fun w => kt w H locs ls hP hS hl) (fun w => kf w H locs ls hP hS hl)
theorem l_if_ne (t q : Nat) (X : LX p s m c b L xs G ac) {x : Int32} {off : Int} (hd : decode cL_law pc = .ok (.ifCond .ne off, 3)) (ht : (pc : Int) + off = (t : Int)) (hq : pc + 3 = q) (kt : ¬ x = 0 → JL p l e s m b below meth c G ac t Ls st g) (kf : x = 0 → JL p l e s m b below meth c G ac q Ls st g) : JL p l e s m b below meth c G ac pc Ls (.int x :: st) g := by
  subst hq
  exact fun H locs ls hP hS hl => lv_if_ne X.1.1 X.1.2.1 hd ht (fun w => kt w H locs ls hP hS hl) (fun w => kf w H locs ls hP hS hl)
theorem l_if_le (t q : Nat) (X : LX p s m c b L xs G ac) {x : Int32} {off : Int} (hd : decode cL_law pc = .ok (.ifCond .le off, 3)) (ht : (pc : Int) + off = (t : Int)) (hq : pc + 3 = q) (kt : x ≤ 0 → JL p l e s m b below meth c G ac t Ls st g) (kf : ¬ x ≤ 0 → JL p l e s m b below meth c G ac q Ls st g) : JL p l e s m b below meth c G ac pc Ls (.int x :: st) g := by
  subst hq
  exact fun H locs ls hP hS hl => lv_if_le X.1.1 X.1.2.1 hd ht (fun w => kt w H locs ls hP hS hl) (fun w => kf w H locs ls hP hS hl)
theorem l_icmp_ne (t q : Nat) (X : LX p s m c b L xs G ac) {x y : Int32} {off : Int} (hd : decode cL_law pc = .ok (.if_icmp .ne off, 3)) (ht : (pc : Int) + off = (t : Int)) (hq : pc + 3 = q) (kt : ¬ x = y → JL p l e s m b below meth c G ac t Ls st g) (kf : x = y → JL p l e s m b below meth c G ac q Ls st g) : JL p l e s m b below meth c G ac pc Ls (.int y :: .int x :: st) g := by
  subst hq
  exact fun H locs ls hP hS hl => lv_icmp_ne X.1.1 X.1.2.1 hd ht (fun w => kt w H locs ls hP hS hl) (fun w => kf w H locs ls hP hS hl)
theorem l_icmp_eq (t q : Nat) (X : LX p s m c b L xs G ac) {x y : Int32} {off : Int} (hd : decode cL_law pc = .ok (.if_icmp .eq off, 3)) (ht : (pc : Int) + off = (t : Int)) (hq : pc + 3 = q) (kt : x = y → JL p l e s m b below meth c G ac t Ls st g) (kf : ¬ x = y → JL p l e s m b below meth c G ac q Ls st g) : JL p l e s m b below meth c G ac pc Ls (.int y :: .int x :: st) g := by
  subst hq
  exact fun H locs ls hP hS hl => lv_icmp_eq X.1.1 X.1.2.1 hd ht (fun w => kt w H locs ls hP hS hl) (fun w => kf w H locs ls hP hS hl)
theorem l_icmp_ge (t q : Nat) (X : LX p s m c b L xs G ac) {x y : Int32} {off : Int} (hd : decode cL_law pc = .ok (.if_icmp .ge off, 3)) (ht : (pc : Int) + off = (t : Int)) (hq : pc + 3 = q) (kt : y ≤ x → JL p l e s m b below meth c G ac t Ls st g) (kf : ¬ y ≤ x → JL p l e s m b below meth c G ac q Ls st g) : JL p l e s m b below meth c G ac pc Ls (.int y :: .int x :: st) g := by
  subst hq
  exact fun H locs ls hP hS hl => lv_icmp_ge X.1.1 X.1.2.1 hd ht (fun w => kt w H locs ls hP hS hl) (fun w => kf w H locs ls hP hS hl)
theorem l_icmp_le (t q : Nat) (X : LX p s m c b L xs G ac) {x y : Int32} {off : Int} (hd : decode cL_law pc = .ok (.if_icmp .le off, 3)) (ht : (pc : Int) + off = (t : Int)) (hq : pc + 3 = q) (kt : x ≤ y → JL p l e s m b below meth c G ac t Ls st g) (kf : ¬ x ≤ y → JL p l e s m b below meth c G ac q Ls st g) : JL p l e s m b below meth c G ac pc Ls (.int y :: .int x :: st) g := by
  subst hq
  exact fun H locs ls hP hS hl => lv_icmp_le X.1.1 X.1.2.1 hd ht (fun w => kt w H locs ls hP hS hl) (fun w => kf w H locs ls hP hS hl)
theorem l_iinc (q : Nat) (X : LX p s m c b L xs G ac) {n : Nat} {i : Int} {x : Int32} (j : Nat) (v : Int32) (Ls' : List (Nat × Value)) (hd : decode cL_law pc = .ok (.iinc n i, 3)) (hq : pc + 3 = q) (hk : Ls[j]? = some (n, .int x)) (hv : x + Int32.ofInt i = v) (hn : n < 14) (hL : (n, Value.int v) :: Ls.filter (fun q => !(q.1 == n) && !(q.1 + 1 == n && q.2.category == 2)) = Ls') (k : JL p l e s m b below meth c G ac q Ls' st g) : JL p l e s m b below meth c G ac pc Ls st g := by
  subst hq
  exact fun H locs ls hP hS hl => lv_iinc X.1.1 X.1.2.1 hd hl hk hv hn hL (fun ls' hl' => k H locs ls' hP hS hl')
theorem l_lload (q : Nat) (X : LX p s m c b L xs G ac) {n : Nat} {x : Int64} (j : Nat) (hd : decode cL_law pc = .ok (.lload n, 2)) (hq : pc + 2 = q) (hk : Ls[j]? = some (n, .long x)) (k : JL p l e s m b below meth c G ac q Ls (.long x :: st) g) : JL p l e s m b below meth c G ac pc Ls st g := by
  subst hq
  exact fun H locs ls hP hS hl => lv_lload X.1.1 X.1.2.1 hd (lv_at hl j hk) (k H locs ls hP hS hl)
theorem l_lstore (q : Nat) (X : LX p s m c b L xs G ac) {n : Nat} {x y : Int64} (Ls' : List (Nat × Value)) (hd : decode cL_law pc = .ok (.lstore n, 2)) (hq : pc + 2 = q) (hy : y = x) (hn : n + 1 < 14) (hl : (n, Value.long y) :: Ls.filter (fun q => !(q.1 == n) && (!(q.1 == n + 1) && !(q.1 + 1 == n && q.2.category == 2))) = Ls') (k : JL p l e s m b below meth c G ac q Ls' st g) : JL p l e s m b below meth c G ac pc Ls (.long x :: st) g := by
  subst hq
  subst hy
  exact fun H locs ls hP hS hlv => lv_lstore X.1.1 X.1.2.1 hd hlv hn hl (fun ls' hl' => k H locs ls' hP hS hl')
theorem l_lcmp (q : Nat) (X : LX p s m c b L xs G ac) {x y : Int64} (hd : decode cL_law pc = .ok (.lcmp, 1)) (hq : pc + 1 = q) (k : JL p l e s m b below meth c G ac q Ls (.int (lg_cmp x y) :: st) g) : JL p l e s m b below meth c G ac pc Ls (.long y :: .long x :: st) g := by
  subst hq
  exact fun H locs ls hP hS hl => W.lcmp X.1.1 X.1.2.1 hd (k H locs ls hP hS hl)
theorem l_sub (Ls' : List (Nat × Value)) (ks : List Nat) (h : lv_pick Ls ks = Ls') (k : JL p l e s m b below meth c G ac pc Ls' st g) : JL p l e s m b below meth c G ac pc Ls st g := fun H locs ls hP hS hl => k H locs ls hP hS (lv_sub hl ks h)
theorem l_ret (X : LX p s m c b L xs G ac) (hr : meth.sig.returnType = ret) (hlocks : meth.locks = false) (hd : decode cL_law pc = .ok (.ireturn, 1)) : JL p l e s m b below meth c G ac pc Ls [.int 1] g :=
  fun H locs ls hP hS hl => va_forget (fun q hq => hS.2.2 q hq) (lw_ret X.1.1 X.1.2.1 hr hlocks hd)
variable {y : MethodName} {bytes : ByteArray} {maxL n index : Nat} {rt : Option FieldType} {ws : List Cond} {rm : Room} {As : List Value} {r : Int32} {r6 : Int64}
theorem l_pre (X : LX p s m c b L xs G ac) {H : Heap} {locs : List Loc} (hS : va_S (AX s) s.heap H locs) (hP : va_P G.1 vwCl (wC G ac g) H) : PreS s H (va_Pc As (k_W (wA G ac) shC (aof (wC G ac gZ)) g)) As := by
  obtain ⟨x1, x2, x3, x4, x5, x6, x8, x9⟩ := X
  have hAC : ∀ q, aof (wC G ac gZ) q → AX s q := fun q ⟨k, e, hh⟩ => x6.2 k (q, e) hh
  exact ⟨k_blind, fun U hU hW => ⟨rfl, by rw [hU]; exact hP, va_K.moved hW.alike x5, aof_D x6, x8.warm hW, (k_E.move (G := wA G ac) x9 hS hU hW).narrow hAC⟩⟩
/-- a method of the object is called -/
theorem l_V (q : Nat) (X : LX p s m c b L xs G ac) (hM : k_Mi l y ws rm (wA G ac) shC (aof (wC G ac gZ)) (.ref (ac 0) :: As) g r g') (cw : CallW room_1 s #[Value.ref b] RL RX4 index y bytes maxL (some .int) ws rm 0 0 n) (hn : As.length = n) (hst : stk = As.reverse ++ .ref (ac 0) :: st) (hcat : (st.map fun v => v.category).sum ≤ 8) (hd : decode cL_law pc = .ok (.invokevirtual index, 3)) (hq : pc + 3 = q)
    (kk : JL p l e s m b below meth c G ac q Ls (.int r :: st) g') : JL p l e s m b below meth c G ac pc Ls stk g := by
  subst hq
  intro H locs ls hP hS hl
  have hp0 := l_pre (As := .ref (ac 0) :: As) X hS hP
  obtain ⟨x1, x2, x3, x4, x5, x6, x8, x9⟩ := X
  have hAC : ∀ q, aof (wC G ac gZ) q → AX s q := fun q ⟨k, e, hh⟩ => x6.2 k (q, e) hh
  have he := k_wl_get (G := wA G ac) (g := g) shC 0 0 shC_0
  have hp : PreV s H RX4 (ac 0) (va_Pc (.ref (ac 0) :: As) (k_W (wA G ac) shC (aof (wC G ac gZ)) g)) As :=
    ⟨k_blind, va_recv x5 hP (ci := 4) (q := (RX4, TX4, 10)) rfl he, hp0.2⟩
  refine va_calli (mc := 0) (ms := 0) (va_runV x1 hM cw hp rfl hn hl.1 hst (lv_room hcat) hd ⟨Nat.le_refl _, Nat.le_refl _⟩) hS (fun q _ hh => hAC q hh) hAC (fun r1 u t H1 locs1 ht hvm hw hB hz hk hS1 => ?_)
  obtain ⟨hP1, -⟩ := hB
  subst hw
  rw [ht] at hP1
  exact kk H1 locs1 ls hP1 hS1 hl
/-- a method of the law's is called -/
theorem l_S (q : Nat) (X : LX p s m c b L xs G ac) (hM : k_Mi l y ws rm (wA G ac) shC (aof (wC G ac gZ)) As g r g') (cw : CallB room_1 s #[Value.ref b] RL index y bytes maxL rt ws rm 0 0 n ∧ (Cond.static y).before #[Value.ref b] s = true) (hn : As.length = n) (hst : stk = As.reverse ++ st) (hcat : (st.map fun v => v.category).sum ≤ 8) (hd : decode cL_law pc = .ok (.invokestatic index, 3)) (hq : pc + 3 = q)
    (kk : JL p l e s m b below meth c G ac q Ls (.int r :: st) g') : JL p l e s m b below meth c G ac pc Ls stk g := by
  subst hq
  intro H locs ls hP hS hl
  have hp := l_pre (As := As) X hS hP
  obtain ⟨x1, x2, x3, x4, x5, x6, x8, x9⟩ := X
  have hAC : ∀ q, aof (wC G ac gZ) q → AX s q := fun q ⟨k, e, hh⟩ => x6.2 k (q, e) hh
  refine va_calli (mc := 0) (ms := 0) (va_runS x1 hM cw hp rfl hn hl.1 hst (lv_room hcat) hd ⟨Nat.le_refl _, Nat.le_refl _⟩) hS (fun q _ hh => hAC q hh) hAC (fun r1 u t H1 locs1 ht hvm hw hB hz hk hS1 => ?_)
  obtain ⟨hP1, -⟩ := hB
  subst hw
  rw [ht] at hP1
  exact kk H1 locs1 ls hP1 hS1 hl
/-- .. one that answers a long -/
theorem l_L (q : Nat) (X : LX p s m c b L xs G ac) (hM : k_Ml l y ws rm (wA G ac) shC (aof (wC G ac gZ)) As g r6 g') (cw : CallB room_1 s #[Value.ref b] RL index y bytes maxL rt ws rm 0 0 n ∧ (Cond.static y).before #[Value.ref b] s = true) (hn : As.length = n) (hst : stk = As.reverse ++ st) (hcat : (st.map fun v => v.category).sum ≤ 8) (hd : decode cL_law pc = .ok (.invokestatic index, 3)) (hq : pc + 3 = q)
    (kk : JL p l e s m b below meth c G ac q Ls (.long r6 :: st) g') : JL p l e s m b below meth c G ac pc Ls stk g := by
  subst hq
  intro H locs ls hP hS hl
  have hp := l_pre (As := As) X hS hP
  obtain ⟨x1, x2, x3, x4, x5, x6, x8, x9⟩ := X
  have hAC : ∀ q, aof (wC G ac gZ) q → AX s q := fun q ⟨k, e, hh⟩ => x6.2 k (q, e) hh
  refine va_calll (mc := 0) (ms := 0) (va_runS x1 hM cw hp rfl hn hl.1 hst (lv_room hcat) hd ⟨Nat.le_refl _, Nat.le_refl _⟩) hS (fun q _ hh => hAC q hh) hAC (fun r1 u t H1 locs1 ht hvm hw hB hz hk hS1 => ?_)
  obtain ⟨hP1, -⟩ := hB
  subst hw
  rw [ht] at hP1
  exact kk H1 locs1 ls hP1 hS1 hl
def rm_L_cell : Room := { frames := 0, cells := 0, slots := 0, locals := 0 }
theorem hd_L_cell : yL_cell.cls ≠ "java/lang/invoke/MethodHandle" ∧ yL_cell.cls ≠ "java/lang/invoke/VarHandle" ∧ (parseMethodDescriptor yL_cell.desc).map (fun d => d.parameters.length) = some 2 := by decide +kernel
/-- a number of the script, or one that its place makes: any int -/
theorem c_L_cell (l : Launch) (hL : L ≤ 260) {j : Nat} (hj : j < 2 ^ 20) : Met l yL_cell wsL_cell rm_L_cell (va_Pc [.ref b, .int (nI j)] (fun U => va_X b L xs U U.heap ∧ b < U.heap.size)) (va_Qi (fun _ (_ : Unit) => True) (fun _ _ => True) (fun _ => False)) 0 0 (fun _ => False) := by
  refine Met.ofW (cc := cL_cell) (maxL := 2) (ret := some .int) (by decide) rfl ?_
  intro p e s m args below meth c s₁ B hml hv
  obtain ⟨rfl, hX, hbl⟩ := hv
  have hx := B.exec
  have hb := B.bytes
  have hr := B.returns
  have hts := atoms_spec (ws := wsL_cell) B.pre
  have hown : s.vm.findClass RL = some m.cls := findClass_of_methodNamed B.named
  have hlocks := B.notSynchronized
  have hS : va_S (fun _ => False) s.heap s.heap [] := va_S.rf
  have hl := lv_entry ([.ref b, .int (nI j)]) (n := 2) (Nat.le_of_ble_eq_true rfl)
  rw [lg_entry_eq]
  generalize (lg_sl ([.ref b, .int (nI j)]) ++ List.replicate (2 - (lg_sl ([.ref b, .int (nI j)])).length) Slot.unset).toArray = ls at hl ⊢
  have hl : lv_has ls 2 [(0, .ref b), (1, .int (nI j))] := hl
  refine lv_iload_n hx hb dL_cell_0 rfl (lv_at hl 1 rfl) ?_
  refine lv_aload_n hx hb dL_cell_1 rfl (lv_at hl 0 rfl) ?_
  refine va_slen hx hb hX hbl id hS dL_cell_2 ?_
  refine lv_icmp_ge (tgt := 12) hx hb dL_cell_3 (by decide) (fun _ => ?_) (fun w => ?_)
  · refine lv_ldc (v := 3020021) hx hb hown (hts (.constant RL 7 3020021) (by decide +kernel)) dL_cell_12 ?_
    refine lv_iload_n hx hb dL_cell_14 rfl (lv_at hl 1 rfl) ?_
    refine lv_imul hx hb dL_cell_15 ?_
    refine lv_sipush (v := 1601) hx hb dL_cell_16 (by decide) ?_
    refine lv_iadd hx hb dL_cell_19 ?_
    exact W.iret hx hb hr (fun t ht hW => ⟨⟨_, (), rfl, trivial, trivial⟩, hS.F ht⟩) hS.2.2 dL_cell_20 hlocks
  · refine lv_aload_n hx hb dL_cell_6 rfl (lv_at hl 0 rfl) ?_
    refine lv_iload_n hx hb dL_cell_7 rfl (lv_at hl 1 rfl) ?_
    have hjL : j < L := by
      rcases Nat.lt_or_ge j L with q | q
      · exact q
      · exact absurd (nI_le q (by omega)) w
    refine va_sld hx hb hX hbl id hS (vp_in_nI hjL (by omega)) dL_cell_8 ?_
    refine lv_goto (tgt := 20) hx hb dL_cell_9 (by decide) ?_
    exact W.iret hx hb hr (fun t ht hW => ⟨⟨_, (), rfl, trivial, trivial⟩, hS.F ht⟩) hS.2.2 dL_cell_20 hlocks
theorem l_cell {j : Nat} (q : Nat) (X : LX p s m c b L xs G ac) (hj : j < 2 ^ 20) (hst : stk = .int (nI j) :: .ref b :: st) (hcat : (st.map fun v => v.category).sum ≤ 8) (hd : decode cL_law pc = .ok (.invokestatic 94, 3)) (hq : pc + 3 = q)
    (kk : ∀ r, JL p l e s m b below meth c G ac q Ls (.int r :: st) g) : JL p l e s m b below meth c G ac pc Ls stk g := by
  subst hq
  intro H locs ls hP hS hl
  obtain ⟨x1, x2, x3, x4, x5, x6, x8, x9⟩ := X
  have hbA : ¬ AX s b := Nat.not_le.mpr x3
  have hX1 : va_X b L xs s H := x2.kept (hS.2.1 b x3 hbA)
  have hbH : b < H.size := Nat.lt_of_lt_of_le x3 hS.1
  have hp : PreS s H (va_Pc [.ref b, .int (nI j)] (fun U => va_X b L xs U U.heap ∧ b < U.heap.size)) [.ref b, .int (nI j)] :=
    ⟨fun a U f mk q => ⟨q.1, va_X.moved (U := U.calling f mk a) (Vm.Alike.refl U.vm) q.2.1, q.2.2⟩, fun U hU hW => ⟨rfl, by
      show va_X b L xs U U.heap ∧ b < U.heap.size
      rw [hU]
      exact ⟨va_X.moved hW.alike hX1, hbH⟩⟩⟩
  refine va_calli (mc := 0) (ms := 0) (va_runS x1 (c_L_cell l x4 hj) (va_cwS 2 x1.2.2.2.2 gL_law_L_cell rfl rfl rfl hd_L_cell ⟨Nat.le_of_ble_eq_true rfl, Nat.le_of_ble_eq_true rfl⟩) hp rfl rfl hl.1 hst (lv_room hcat) hd ⟨Nat.le_refl _, Nat.le_refl _⟩) hS (fun q _ hh => absurd hh id) (fun q hh => absurd hh id) (fun r1 u t H1 locs1 ht hvm hw hB hz hk hS1 => ?_)
  exact kk r1 H1 locs1 ls (hP.kept (fun k q hq => hk q.1 (hP k q hq).lt id)) hS1 hl
end LAW
