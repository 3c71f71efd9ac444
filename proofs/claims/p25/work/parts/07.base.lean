/-! THE MEMORY: a function of an object's number and a place; the world that it stands for is a list of cells, one a number -/
abbrev Mem : Type := Nat → Nat → Int32
/-- a cell's kind: an object (class, its fields: a number, or a reference to an object that never changes); an array of ints or chars; an array of references that never changes -/
abbrev Kd : Type := (Nat × List (Option Nat)) ⊕ ((Bool × Nat) ⊕ (Nat × (Nat → Nat)))
abbrev GG : Type := va_G × (Nat → Nat) × ClassId × ClassId × ClassId × (Nat → Nat) × (Nat → Nat)
def bI (b : Bool) : Int32 := cond b 1 0
def imax (x y : Int32) : Int32 := if x < y then y else x
def imin (x y : Int32) : Int32 := if y < x then y else x
def ushr (x y : Int32) : Int32 := (x.toUInt32 >>> (y.toUInt32 &&& Int32.toUInt32 31)).toInt32
def k_fl (ad : Nat → Nat) (f : Nat → Int32) : Nat → List (Option Nat) → List Value
  | _, [] => []
  | k, none :: r => .int (f k) :: k_fl ad f (k + 1) r
  | k, some o :: r => .ref (ad o) :: k_fl ad f (k + 1) r
def k_cl (G : GG) (f : Nat → Int32) : Kd → va_E
  | .inl (ci, fs) => .inr (ci, k_fl G.2.1 f 0 fs)
  | .inr (.inl (b, n)) => .inl (if b then G.2.2.2.1 else G.2.2.1, n, .inl f)
  | .inr (.inr (n, r)) => .inl (G.2.2.2.2.1, n, .inr (.inr (.inr (.inr (fun j => some (G.2.1 (r j)))))))
def k_wl (G : GG) (g : Mem) : Nat → List Kd → va_W
  | _, [] => []
  | o, k :: r => (G.2.1 o, k_cl G (g o) k) :: k_wl G g (o + 1) r
def k_ty (G : GG) : List (ClassId × FieldType) := [(G.2.2.1, .int), (G.2.2.2.1, .char), (G.2.2.2.2.1, .object RX2)]
def m_set (g : Mem) (o : Nat) (f : Nat → Int32) : Mem := fun q => if q = o then f else g q
def m_up (g : Mem) (o k : Nat) (v : Int32) : Mem := m_set g o (upd (g o) k v)
def rd (g : Mem) (o n : Nat) (i : Int32) : Option Int32 := if i < 0 ∨ n ≤ i.toNatClampNeg then none else some (g o i.toNatClampNeg)
def wr (g : Mem) (o n : Nat) (i v : Int32) : Option Mem := if i < 0 ∨ n ≤ i.toNatClampNeg then none else some (m_up g o i.toNatClampNeg v)
def rdr (n : Nat) (r : Nat → Nat) (i : Int32) : Option Nat := if i < 0 ∨ n ≤ i.toNatClampNeg then none else some (r i.toNatClampNeg)
theorem k_wl_get {G : GG} {g : Mem} {k : Kd} : ∀ (sh : List Kd) (o i : Nat), sh[i]? = some k → (k_wl G g o sh)[i]? = some (G.2.1 (o + i), k_cl G (g (o + i)) k) := by
  intro sh
  induction sh with
  | nil => intro o i h; simp at h
  | cons a r ih =>
    intro o i h
    cases i with
    | zero => simp at h; subst h; rfl
    | succ i =>
      simp only [List.getElem?_cons_succ] at h
      have := ih (o + 1) i h
      rw [show o + (i + 1) = o + 1 + i from by omega]
      simpa [k_wl] using this
theorem k_wl_same {G : GG} {g g' : Mem} : ∀ (sh : List Kd) (o : Nat), (∀ q, o ≤ q → g q = g' q) → k_wl G g o sh = k_wl G g' o sh := by
  intro sh
  induction sh with
  | nil => intro o _; rfl
  | cons a r ih =>
    intro o h
    simp only [k_wl]
    rw [h o (Nat.le_refl _), ih (o + 1) (fun q hq => h q (by omega))]
theorem k_wl_set {G : GG} {g : Mem} {k : Kd} {f : Nat → Int32} : ∀ (sh : List Kd) (o i : Nat), sh[i]? = some k → (k_wl G g o sh).set i (G.2.1 (o + i), k_cl G f k) = k_wl G (m_set g (o + i) f) o sh := by
  intro sh
  induction sh with
  | nil => intro o i h; simp at h
  | cons a r ih =>
    intro o i h
    cases i with
    | zero =>
      simp at h; subst h
      simp only [k_wl, List.set_cons_zero, Nat.add_zero]
      rw [show m_set g o f o = f from by simp [m_set]]
      rw [k_wl_same r (o + 1) (g := g) (g' := m_set g o f) (fun q hq => by simp [m_set]; intro e; omega)]
    | succ i =>
      simp only [List.getElem?_cons_succ] at h
      have := ih (o + 1) i h
      rw [show o + (i + 1) = o + 1 + i from by omega]
      simp only [k_wl, List.set_cons_succ]
      rw [this]
      congr 2
      rw [show m_set g (o + 1 + i) f o = g o from by simp [m_set]; intro e; omega]
theorem k_fl_len (ad : Nat → Nat) (f : Nat → Int32) : ∀ (fs : List (Option Nat)) (k : Nat), (k_fl ad f k fs).length = fs.length := by
  intro fs
  induction fs with
  | nil => intro k; rfl
  | cons a r ih => intro k; cases a <;> simp [k_fl, ih]
theorem k_fl_int (ad : Nat → Nat) (f : Nat → Int32) : ∀ (fs : List (Option Nat)) (k i : Nat), fs[i]? = some none → (k_fl ad f k fs)[i]? = some (.int (f (k + i))) := by
  intro fs
  induction fs with
  | nil => intro k i h; simp at h
  | cons a r ih =>
    intro k i h
    cases i with
    | zero => simp at h; subst h; rfl
    | succ i =>
      simp only [List.getElem?_cons_succ] at h
      have := ih (k + 1) i h
      rw [show k + (i + 1) = k + 1 + i from by omega]
      cases a <;> simpa [k_fl] using this
theorem k_fl_ref (ad : Nat → Nat) (f : Nat → Int32) {o : Nat} : ∀ (fs : List (Option Nat)) (k i : Nat), fs[i]? = some (some o) → (k_fl ad f k fs)[i]? = some (.ref (ad o)) := by
  intro fs
  induction fs with
  | nil => intro k i h; simp at h
  | cons a r ih =>
    intro k i h
    cases i with
    | zero => simp at h; subst h; rfl
    | succ i =>
      simp only [List.getElem?_cons_succ] at h
      have := ih (k + 1) i h
      cases a <;> simpa [k_fl] using this
theorem k_fl_same (ad : Nat → Nat) {f f' : Nat → Int32} : ∀ (fs : List (Option Nat)) (k : Nat), (∀ q, k ≤ q → f q = f' q) → k_fl ad f k fs = k_fl ad f' k fs := by
  intro fs
  induction fs with
  | nil => intro k _; rfl
  | cons a r ih =>
    intro k h
    cases a <;> simp only [k_fl] <;> rw [ih (k + 1) (fun q hq => h q (by omega))]
    rw [h k (Nat.le_refl _)]
theorem k_fl_set (ad : Nat → Nat) (f : Nat → Int32) (v : Int32) : ∀ (fs : List (Option Nat)) (k i : Nat), fs[i]? = some none → (k_fl ad f k fs).set i (.int v) = k_fl ad (upd f (k + i) v) k fs := by
  intro fs
  induction fs with
  | nil => intro k i h; simp at h
  | cons a r ih =>
    intro k i h
    cases i with
    | zero =>
      simp at h; subst h
      simp only [k_fl, List.set_cons_zero, Nat.add_zero]
      rw [show upd f k v k = v from by simp [upd]]
      rw [k_fl_same ad r (k + 1) (f := f) (f' := upd f k v) (fun q hq => by simp [upd]; intro e; omega)]
    | succ i =>
      simp only [List.getElem?_cons_succ] at h
      have := ih (k + 1) i h
      rw [show k + (i + 1) = k + 1 + i from by omega]
      cases a
      · simp only [k_fl, List.set_cons_succ]
        rw [this, show upd f (k + 1 + i) v k = f k from by simp [upd]; intro e; omega]
      · simp only [k_fl, List.set_cons_succ]
        rw [this]
theorem k_D_any {G : GG} {A : Nat → Prop} {g g' : Mem} {sh : List Kd} (h : va_D A (k_wl G g 0 sh)) : va_D A (k_wl G g' 0 sh) := by
  have key : ∀ (k : Nat) (q : Nat × va_E), (k_wl G g' 0 sh)[k]? = some q → ∃ q', (k_wl G g 0 sh)[k]? = some q' ∧ q'.1 = q.1 := by
    intro k q hq
    have hlen : ∀ (g : Mem) (sh : List Kd) (o : Nat), (k_wl G g o sh).length = sh.length := by
      intro g sh
      induction sh with
      | nil => intro o; rfl
      | cons a r ih => intro o; simp [k_wl, ih]
    have hk : k < sh.length := by
      have := (List.getElem?_eq_some_iff.mp hq).1
      rwa [hlen] at this
    have h1 : sh[k]? = some sh[k] := List.getElem?_eq_getElem hk
    have e1 := k_wl_get (G := G) (g := g) sh 0 k h1
    have e2 := k_wl_get (G := G) (g := g') sh 0 k h1
    rw [hq] at e2
    exact ⟨_, e1, by rw [Option.some.inj e2]⟩
  refine ⟨fun i j p q hi hj e => ?_, fun k q hk => ?_⟩
  · obtain ⟨p', a1, a2⟩ := key i p hi
    obtain ⟨q', b1, b2⟩ := key j q hj
    exact h.1 i j p' q' a1 b1 (by rw [a2, b2, e])
  · obtain ⟨q', a1, a2⟩ := key k q hk
    rw [← a2]
    exact h.2 k q' a1
/-- the calls between nest mates: the class that calls, the pool's number, the method -/
def k_nw : List (String × Nat × MethodName) := [(RX4, 9, yX2_init), (RX0, 17, yX2_init), (RX4, 28, yX3_init), (RX4, 35, yX1_init), (RX2, 77, yX4_isAcceptor), (RX2, 81, yX4_has), (RX2, 98, yX4_isProposer), (RX2, 104, yX4_cell), (RX2, 117, yX4_isSlot), (RX2, 120, yX4_isValue)]
def k_NW (U : State) : Prop := ∀ q ∈ k_nw, va_Nw (.methodLinkNest q.1 q.2.1 q.2.2 RX4) U
theorem k_NW.warm {s U : State} (hW : s.WarmedH U.vm) (h : k_NW s) : k_NW U := fun q hq => va_Nw.warmM hW (h q hq)
theorem k_NW.same {u U : State} (hv : u.vm = U.vm) (h : k_NW u) : k_NW U := fun q hq => va_Nw.same rfl hv (h q hq)
/-! the texts that the class's code loads, and the statics that their methods read -/
def k_len : List Nat := [1, 3, 5, 5, 1, 0]
def k_byt : List (List Int32) := [[112], [112, 44, 97], [112, 44, 35, 44, 35], [112, 44, 35, 44, 97], [97], []]
def k_ix : List Nat := [61, 63, 65, 67, 69, 71]
def k_tx : List String := ["p", "p,a", "p,#,#", "p,#,a", "a", ""]
def k_E (G : GG) (A : Nat → Prop) (U : State) : Prop := vk_S 6 k_len k_byt G.2.2.2.2.2.1 G.2.2.2.2.2.2 A U U.heap ∧ (∀ i, i < 6 → vk_R RX1 (k_ix.getD i 0) (k_tx.getD i "") (G.2.2.2.2.2.1 i) U) ∧ va_Z "java/lang/String" "COMPACT_STRINGS" "Z" (.int 1) A U U.heap ∧ va_Zq "jdk/internal/util/Preconditions" "SIOOBE_FORMATTER" "Ljava/util/function/BiFunction;" A U U.heap
theorem k_E.move {G : GG} {A : Nat → Prop} {s U : State} {H : Heap} {locs : List Loc} (h : k_E G A s) (hS : va_S A s.heap H locs) (hU : U.heap = H) (hW : s.WarmedH U.vm) : k_E G A U := by
  obtain ⟨h1, h2, h3, h4⟩ := h
  subst hU
  exact ⟨(h1.moved hW.alike).kept hS.2.1, fun i hi => (h2 i hi).warm hW, (h3.moved hW.alike).kept hS.2.1, (h4.moved hW.alike).kept hS.2.1⟩
theorem k_E.call {G : GG} {A : Nat → Prop} {U : State} {f : JFrame} {mk : MethodId} {a : Array Value} (h : k_E G A U) : k_E G A (U.calling f mk a) := by
  obtain ⟨h1, h2, h3, h4⟩ := h
  have hv : U.vm.Alike (U.calling f mk a).vm := Vm.Alike.refl U.vm
  exact ⟨vk_S.moved hv h1, fun i hi => vk_R.same (u := U) (U := U.calling f mk a) rfl (h2 i hi), va_Z.moved hv h3, va_Zq.moved hv h4⟩
/-- the world of a memory -/
def k_W (G : GG) (sh : List Kd) (A : Nat → Prop) (g : Mem) (U : State) : Prop := va_P G.1 vwCl (k_wl G g 0 sh) U.heap ∧ va_K G.1 vwCl (k_ty G) U ∧ va_D A (k_wl G (fun _ _ => 0) 0 sh) ∧ k_NW U ∧ k_E G A U
/-- what stays the same through a method's body -/
def KX (p : Program) (s : State) (m : MethodId) (args : Array Value) (c : Code) (cc : ByteArray) (nL : Nat) (own : String) (Ts : List Cond) (G : GG) (sh : List Kd) (A : Nat → Prop) : Prop :=
  CallFix p m c cc nL s args Ts own ∧ va_K G.1 vwCl (k_ty G) s ∧ va_D A (k_wl G (fun _ _ => 0) 0 sh) ∧ k_NW s ∧ k_E G A s
/-- the machine at pc, with these locals, this stack, this memory, comes to Q -/
def JJ (p : Program) (l : Launch) (e : Env) (R : Room) (s : State) (m : MethodId) (args : Array Value) (below : List Frame) (meth : Method) (c : Code) (nL : Nat) (G : GG) (sh : List Kd) (A : Nat → Prop) (Q : State → Prop) (pc : Nat) (L : List (Nat × Value)) (st : List Value) (g : Mem) : Prop :=
  ∀ (H : Heap) (locs : List Loc) (ls : Array Slot), va_P G.1 vwCl (k_wl G g 0 sh) H → va_S A s.heap H locs → lv_has ls nL L → W p l e R s m args below meth c H locs 0 0 Q (F0 m pc ls st)
/-- a method's contract: from memory g it answers r, with memory g' (an int), or nothing -/
abbrev k_Mi (l : Launch) (y : MethodName) (ws : List Cond) (rm : Room) (G : GG) (sh : List Kd) (A : Nat → Prop) (As : List Value) (g : Mem) (r : Int32) (g' : Mem) : Prop :=
  Met l y ws rm (va_Pc As (k_W G sh A g)) (va_Qi (fun r' (_ : Unit) => r' = r) (fun _ => k_W G sh A g') A) 0 0 A
abbrev k_Mv (l : Launch) (y : MethodName) (ws : List Cond) (rm : Room) (G : GG) (sh : List Kd) (A : Nat → Prop) (As : List Value) (g : Mem) (g' : Mem) : Prop :=
  Met l y ws rm (va_Pc As (k_W G sh A g)) (va_Qv (fun (_ : Unit) => True) (fun _ => k_W G sh A g') A) 0 0 A
abbrev k_Qi (G : GG) (sh : List Kd) (A : Nat → Prop) (r : Int32) (g' : Mem) : Array Value → State → Outcome → State → Prop := va_Qi (fun r' (_ : Unit) => r' = r) (fun _ => k_W G sh A g') A
abbrev k_Qv (G : GG) (sh : List Kd) (A : Nat → Prop) (g' : Mem) : Array Value → State → Outcome → State → Prop := va_Qv (fun (_ : Unit) => True) (fun _ => k_W G sh A g') A
theorem k_blind {G : GG} {sh : List Kd} {A : Nat → Prop} {g : Mem} {As : List Value} : FrameBlind (va_Pc As (k_W G sh A g)) := fun a U f mk q => by
  obtain ⟨q0, qP, qK, qD, qN, qE⟩ := q
  exact ⟨q0, qP, va_K.moved (u := U) (U := U.calling f mk a) (Vm.Alike.refl U.vm) qK, qD, k_NW.same (u := U) (U := U.calling f mk a) rfl qN, qE.call⟩
section ROWS
variable {p : Program} {l : Launch} {e : Env} {R : Room} {s : State} {m : MethodId} {args : Array Value} {below : List Frame} {meth : Method} {c : Code} {nL : Nat} {G : GG} {sh : List Kd} {A : Nat → Prop} {Q : State → Prop}
variable {cc : ByteArray} {own : String} {Ts : List Cond} {pc : Nat} {L : List (Nat × Value)} {st : List Value} {g : Mem}
theorem r_iconst (q : Nat) (C : KX p s m args c cc nL own Ts G sh A) {n : Int} {v : Int32} (hd : decode cc pc = .ok (.iconst n, 1)) (hq : pc + 1 = q) (hv : Int32.ofInt n = v) (k : JJ p l e R s m args below meth c nL G sh A Q q L (.int v :: st) g) : JJ p l e R s m args below meth c nL G sh A Q pc L st g := by
  subst hq
  exact fun H locs ls hP hS hl => lv_iconst C.1.1 C.1.2.1 hd hv (k H locs ls hP hS hl)
theorem r_bipush (q : Nat) (C : KX p s m args c cc nL own Ts G sh A) {n : Int} {v : Int32} (hd : decode cc pc = .ok (.bipush n, 2)) (hq : pc + 2 = q) (hv : (Int8.ofInt n).toInt32 = v) (k : JJ p l e R s m args below meth c nL G sh A Q q L (.int v :: st) g) : JJ p l e R s m args below meth c nL G sh A Q pc L st g := by
  subst hq
  exact fun H locs ls hP hS hl => lv_bipush C.1.1 C.1.2.1 hd hv (k H locs ls hP hS hl)
theorem r_sipush (q : Nat) (C : KX p s m args c cc nL own Ts G sh A) {n : Int} {v : Int32} (hd : decode cc pc = .ok (.sipush n, 3)) (hq : pc + 3 = q) (hv : (Int16.ofInt n).toInt32 = v) (k : JJ p l e R s m args below meth c nL G sh A Q q L (.int v :: st) g) : JJ p l e R s m args below meth c nL G sh A Q pc L st g := by
  subst hq
  exact fun H locs ls hP hS hl => lv_sipush C.1.1 C.1.2.1 hd hv (k H locs ls hP hS hl)
theorem r_iload_n (q : Nat) (C : KX p s m args c cc nL own Ts G sh A) {n : Fin 4} {x : Int32} (j : Nat) (hd : decode cc pc = .ok (.iload_n n, 1)) (hq : pc + 1 = q) (hk : L[j]? = some (n.val, .int x)) (k : JJ p l e R s m args below meth c nL G sh A Q q L (.int x :: st) g) : JJ p l e R s m args below meth c nL G sh A Q pc L st g := by
  subst hq
  exact fun H locs ls hP hS hl => lv_iload_n C.1.1 C.1.2.1 hd rfl (lv_at hl j hk) (k H locs ls hP hS hl)
theorem r_iload (q : Nat) (C : KX p s m args c cc nL own Ts G sh A) {n : Nat} {x : Int32} (j : Nat) (hd : decode cc pc = .ok (.iload n, 2)) (hq : pc + 2 = q) (hk : L[j]? = some (n, .int x)) (k : JJ p l e R s m args below meth c nL G sh A Q q L (.int x :: st) g) : JJ p l e R s m args below meth c nL G sh A Q pc L st g := by
  subst hq
  exact fun H locs ls hP hS hl => lv_iload C.1.1 C.1.2.1 hd (lv_at hl j hk) (k H locs ls hP hS hl)
theorem r_aload_n (q : Nat) (C : KX p s m args c cc nL own Ts G sh A) {n : Fin 4} {x : Nat} (j : Nat) (hd : decode cc pc = .ok (.aload_n n, 1)) (hq : pc + 1 = q) (hk : L[j]? = some (n.val, .ref x)) (k : JJ p l e R s m args below meth c nL G sh A Q q L (.ref x :: st) g) : JJ p l e R s m args below meth c nL G sh A Q pc L st g := by
  subst hq
  exact fun H locs ls hP hS hl => lv_aload_n C.1.1 C.1.2.1 hd rfl (lv_at hl j hk) (k H locs ls hP hS hl)
theorem r_aload (q : Nat) (C : KX p s m args c cc nL own Ts G sh A) {n : Nat} {x : Nat} (j : Nat) (hd : decode cc pc = .ok (.aload n, 2)) (hq : pc + 2 = q) (hk : L[j]? = some (n, .ref x)) (k : JJ p l e R s m args below meth c nL G sh A Q q L (.ref x :: st) g) : JJ p l e R s m args below meth c nL G sh A Q pc L st g := by
  subst hq
  exact fun H locs ls hP hS hl => lv_aload C.1.1 C.1.2.1 hd (lv_at hl j hk) (k H locs ls hP hS hl)
theorem r_istore_n (q : Nat) (C : KX p s m args c cc nL own Ts G sh A) {n : Fin 4} {x x' : Int32} (L' : List (Nat × Value)) (hd : decode cc pc = .ok (.istore_n n, 1)) (hq : pc + 1 = q) (hx : x' = x) (hn : n.val < nL) (hL : (n.val, Value.int x') :: L.filter (fun q => !(q.1 == n.val) && !(q.1 + 1 == n.val && q.2.category == 2)) = L') (k : JJ p l e R s m args below meth c nL G sh A Q q L' st g) : JJ p l e R s m args below meth c nL G sh A Q pc L (.int x :: st) g := by
  subst hq; subst hx
  exact fun H locs ls hP hS hl => lv_istore_n C.1.1 C.1.2.1 hd rfl hl hn hL (fun ls' hl' => k H locs ls' hP hS hl')
theorem r_istore (q : Nat) (C : KX p s m args c cc nL own Ts G sh A) {n : Nat} {x x' : Int32} (L' : List (Nat × Value)) (hd : decode cc pc = .ok (.istore n, 2)) (hq : pc + 2 = q) (hx : x' = x) (hn : n < nL) (hL : (n, Value.int x') :: L.filter (fun q => !(q.1 == n) && !(q.1 + 1 == n && q.2.category == 2)) = L') (k : JJ p l e R s m args below meth c nL G sh A Q q L' st g) : JJ p l e R s m args below meth c nL G sh A Q pc L (.int x :: st) g := by
  subst hq; subst hx
  exact fun H locs ls hP hS hl => lv_istore C.1.1 C.1.2.1 hd hl hn hL (fun ls' hl' => k H locs ls' hP hS hl')
theorem r_astore_n (q : Nat) (C : KX p s m args c cc nL own Ts G sh A) {n : Fin 4} {x : Nat} (L' : List (Nat × Value)) (hd : decode cc pc = .ok (.astore_n n, 1)) (hq : pc + 1 = q) (hn : n.val < nL) (hL : (n.val, Value.ref x) :: L.filter (fun q => !(q.1 == n.val) && !(q.1 + 1 == n.val && q.2.category == 2)) = L') (k : JJ p l e R s m args below meth c nL G sh A Q q L' st g) : JJ p l e R s m args below meth c nL G sh A Q pc L (.ref x :: st) g := by
  subst hq
  exact fun H locs ls hP hS hl => lv_astore_n C.1.1 C.1.2.1 hd rfl hl hn hL (fun ls' hl' => k H locs ls' hP hS hl')
theorem r_iinc (q : Nat) (C : KX p s m args c cc nL own Ts G sh A) {n : Nat} {i : Int} {x : Int32} (j : Nat) (v : Int32) (L' : List (Nat × Value)) (hd : decode cc pc = .ok (.iinc n i, 3)) (hq : pc + 3 = q) (hk : L[j]? = some (n, .int x)) (hv : x + Int32.ofInt i = v) (hn : n < nL) (hL : (n, Value.int v) :: L.filter (fun q => !(q.1 == n) && !(q.1 + 1 == n && q.2.category == 2)) = L') (k : JJ p l e R s m args below meth c nL G sh A Q q L' st g) : JJ p l e R s m args below meth c nL G sh A Q pc L st g := by
  subst hq
  exact fun H locs ls hP hS hl => lv_iinc C.1.1 C.1.2.1 hd hl hk hv hn hL (fun ls' hl' => k H locs ls' hP hS hl')
theorem r_iadd (q : Nat) (C : KX p s m args c cc nL own Ts G sh A) {x y : Int32} (hd : decode cc pc = .ok (.iadd, 1)) (hq : pc + 1 = q) (k : JJ p l e R s m args below meth c nL G sh A Q q L (.int (x + y) :: st) g) : JJ p l e R s m args below meth c nL G sh A Q pc L (.int y :: .int x :: st) g := by
  subst hq
  exact fun H locs ls hP hS hl => lv_iadd C.1.1 C.1.2.1 hd (k H locs ls hP hS hl)
theorem r_isub (q : Nat) (C : KX p s m args c cc nL own Ts G sh A) {x y : Int32} (hd : decode cc pc = .ok (.isub, 1)) (hq : pc + 1 = q) (k : JJ p l e R s m args below meth c nL G sh A Q q L (.int (x - y) :: st) g) : JJ p l e R s m args below meth c nL G sh A Q pc L (.int y :: .int x :: st) g := by
  subst hq
  exact fun H locs ls hP hS hl => lv_isub C.1.1 C.1.2.1 hd (k H locs ls hP hS hl)
theorem r_imul (q : Nat) (C : KX p s m args c cc nL own Ts G sh A) {x y : Int32} (hd : decode cc pc = .ok (.imul, 1)) (hq : pc + 1 = q) (k : JJ p l e R s m args below meth c nL G sh A Q q L (.int (x * y) :: st) g) : JJ p l e R s m args below meth c nL G sh A Q pc L (.int y :: .int x :: st) g := by
  subst hq
  exact fun H locs ls hP hS hl => lv_imul C.1.1 C.1.2.1 hd (k H locs ls hP hS hl)
theorem r_iand (q : Nat) (C : KX p s m args c cc nL own Ts G sh A) {x y : Int32} (hd : decode cc pc = .ok (.iand, 1)) (hq : pc + 1 = q) (k : JJ p l e R s m args below meth c nL G sh A Q q L (.int (x &&& y) :: st) g) : JJ p l e R s m args below meth c nL G sh A Q pc L (.int y :: .int x :: st) g := by
  subst hq
  exact fun H locs ls hP hS hl => lv_iand C.1.1 C.1.2.1 hd (k H locs ls hP hS hl)
theorem r_ior (q : Nat) (C : KX p s m args c cc nL own Ts G sh A) {x y : Int32} (hd : decode cc pc = .ok (.ior, 1)) (hq : pc + 1 = q) (k : JJ p l e R s m args below meth c nL G sh A Q q L (.int (x ||| y) :: st) g) : JJ p l e R s m args below meth c nL G sh A Q pc L (.int y :: .int x :: st) g := by
  subst hq
  exact fun H locs ls hP hS hl => lv_ior C.1.1 C.1.2.1 hd (k H locs ls hP hS hl)
theorem r_ixor (q : Nat) (C : KX p s m args c cc nL own Ts G sh A) {x y : Int32} (hd : decode cc pc = .ok (.ixor, 1)) (hq : pc + 1 = q) (k : JJ p l e R s m args below meth c nL G sh A Q q L (.int (x ^^^ y) :: st) g) : JJ p l e R s m args below meth c nL G sh A Q pc L (.int y :: .int x :: st) g := by
  subst hq
  exact fun H locs ls hP hS hl => lv_ixor C.1.1 C.1.2.1 hd (k H locs ls hP hS hl)
theorem r_ishl (q : Nat) (C : KX p s m args c cc nL own Ts G sh A) {x y : Int32} (hd : decode cc pc = .ok (.ishl, 1)) (hq : pc + 1 = q) (k : JJ p l e R s m args below meth c nL G sh A Q q L (.int (x <<< (y &&& 31)) :: st) g) : JJ p l e R s m args below meth c nL G sh A Q pc L (.int y :: .int x :: st) g := by
  subst hq
  exact fun H locs ls hP hS hl => lv_ishl C.1.1 C.1.2.1 hd (k H locs ls hP hS hl)
theorem r_ishr (q : Nat) (C : KX p s m args c cc nL own Ts G sh A) {x y : Int32} (hd : decode cc pc = .ok (.ishr, 1)) (hq : pc + 1 = q) (k : JJ p l e R s m args below meth c nL G sh A Q q L (.int (x >>> (y &&& 31)) :: st) g) : JJ p l e R s m args below meth c nL G sh A Q pc L (.int y :: .int x :: st) g := by
  subst hq
  exact fun H locs ls hP hS hl => lv_ishr C.1.1 C.1.2.1 hd (k H locs ls hP hS hl)
theorem r_idiv (q : Nat) (C : KX p s m args c cc nL own Ts G sh A) {x y : Int32} (hd : decode cc pc = .ok (.idiv, 1)) (hq : pc + 1 = q) (hne : ¬ y = 0) (k : JJ p l e R s m args below meth c nL G sh A Q q L (.int (x / y) :: st) g) : JJ p l e R s m args below meth c nL G sh A Q pc L (.int y :: .int x :: st) g := by
  subst hq
  exact fun H locs ls hP hS hl => lv_idiv C.1.1 C.1.2.1 hd hne (k H locs ls hP hS hl)
theorem r_irem (q : Nat) (C : KX p s m args c cc nL own Ts G sh A) {x y : Int32} (hd : decode cc pc = .ok (.irem, 1)) (hq : pc + 1 = q) (hne : ¬ y = 0) (k : JJ p l e R s m args below meth c nL G sh A Q q L (.int (x - x / y * y) :: st) g) : JJ p l e R s m args below meth c nL G sh A Q pc L (.int y :: .int x :: st) g := by
  subst hq
  exact fun H locs ls hP hS hl => lv_irem C.1.1 C.1.2.1 hd hne (k H locs ls hP hS hl)
theorem r_i2c (q : Nat) (C : KX p s m args c cc nL own Ts G sh A) {x : Int32} (hd : decode cc pc = .ok (.i2c, 1)) (hq : pc + 1 = q) (k : JJ p l e R s m args below meth c nL G sh A Q q L (.int ((x.toUInt32 % 65536).toInt32) :: st) g) : JJ p l e R s m args below meth c nL G sh A Q pc L (.int x :: st) g := by
  subst hq
  exact fun H locs ls hP hS hl => lv_i2c C.1.1 C.1.2.1 hd rfl (k H locs ls hP hS hl)
theorem r_dup (q : Nat) (C : KX p s m args c cc nL own Ts G sh A) {x : Value} (hd : decode cc pc = .ok (.dup, 1)) (hq : pc + 1 = q) (hx : x.category = 1) (k : JJ p l e R s m args below meth c nL G sh A Q q L (x :: x :: st) g) : JJ p l e R s m args below meth c nL G sh A Q pc L (x :: st) g := by
  subst hq
  exact fun H locs ls hP hS hl => lv_dup C.1.1 C.1.2.1 hd hx (k H locs ls hP hS hl)
theorem r_dup2 (q : Nat) (C : KX p s m args c cc nL own Ts G sh A) {x y : Value} (hd : decode cc pc = .ok (.dup2, 1)) (hq : pc + 1 = q) (hx : x.category = 1) (hy : y.category = 1) (k : JJ p l e R s m args below meth c nL G sh A Q q L (x :: y :: x :: y :: st) g) : JJ p l e R s m args below meth c nL G sh A Q pc L (x :: y :: st) g := by
  subst hq
  exact fun H locs ls hP hS hl => lv_dup2_11 C.1.1 C.1.2.1 hd hx hy (k H locs ls hP hS hl)
theorem r_pop (q : Nat) (C : KX p s m args c cc nL own Ts G sh A) {x : Value} (hd : decode cc pc = .ok (.pop, 1)) (hq : pc + 1 = q) (hx : x.category = 1) (k : JJ p l e R s m args below meth c nL G sh A Q q L st g) : JJ p l e R s m args below meth c nL G sh A Q pc L (x :: st) g := by
  subst hq
  exact fun H locs ls hP hS hl => lv_pop C.1.1 C.1.2.1 hd hx (k H locs ls hP hS hl)
theorem r_goto (q : Nat) (C : KX p s m args c cc nL own Ts G sh A) {off : Int} (hd : decode cc pc = .ok (.goto off, 3)) (hq : (pc : Int) + off = (q : Int)) (k : JJ p l e R s m args below meth c nL G sh A Q q L st g) : JJ p l e R s m args below meth c nL G sh A Q pc L st g := fun H locs ls hP hS hl => lv_goto C.1.1 C.1.2.1 hd hq (k H locs ls hP hS hl)
theorem r_if_eq (t q : Nat) (C : KX p s m args c cc nL own Ts G sh A) {x : Int32} {off : Int} (hd : decode cc pc = .ok (.ifCond .eq off, 3)) (ht : (pc : Int) + off = (t : Int)) (hq : pc + 3 = q) (kt : x = 0 → JJ p l e R s m args below meth c nL G sh A Q t L st g) (kf : ¬ x = 0 → JJ p l e R s m args below meth c nL G sh A Q q L st g) : JJ p l e R s m args below meth c nL G sh A Q pc L (.int x :: st) g := by
  subst hq
  exact fun H locs ls hP hS hl => lv_if_eq C.1.1 C.1.2.1 hd ht (fun w => kt w H locs ls hP hS hl) (fun w => kf w H locs ls hP hS hl)
theorem r_icmp_eq (t q : Nat) (C : KX p s m args c cc nL own Ts G sh A) {x y : Int32} {off : Int} (hd : decode cc pc = .ok (.if_icmp .eq off, 3)) (ht : (pc : Int) + off = (t : Int)) (hq : pc + 3 = q) (kt : x = y → JJ p l e R s m args below meth c nL G sh A Q t L st g) (kf : ¬ x = y → JJ p l e R s m args below meth c nL G sh A Q q L st g) : JJ p l e R s m args below meth c nL G sh A Q pc L (.int y :: .int x :: st) g := by
  subst hq
  exact fun H locs ls hP hS hl => lv_icmp_eq C.1.1 C.1.2.1 hd ht (fun w => kt w H locs ls hP hS hl) (fun w => kf w H locs ls hP hS hl)
theorem r_if_ne (t q : Nat) (C : KX p s m args c cc nL own Ts G sh A) {x : Int32} {off : Int} (hd : decode cc pc = .ok (.ifCond .ne off, 3)) (ht : (pc : Int) + off = (t : Int)) (hq : pc + 3 = q) (kt : ¬ x = 0 → JJ p l e R s m args below meth c nL G sh A Q t L st g) (kf : x = 0 → JJ p l e R s m args below meth c nL G sh A Q q L st g) : JJ p l e R s m args below meth c nL G sh A Q pc L (.int x :: st) g := by
  subst hq
  exact fun H locs ls hP hS hl => lv_if_ne C.1.1 C.1.2.1 hd ht (fun w => kt w H locs ls hP hS hl) (fun w => kf w H locs ls hP hS hl)
theorem r_icmp_ne (t q : Nat) (C : KX p s m args c cc nL own Ts G sh A) {x y : Int32} {off : Int} (hd : decode cc pc = .ok (.if_icmp .ne off, 3)) (ht : (pc : Int) + off = (t : Int)) (hq : pc + 3 = q) (kt : ¬ x = y → JJ p l e R s m args below meth c nL G sh A Q t L st g) (kf : x = y → JJ p l e R s m args below meth c nL G sh A Q q L st g) : JJ p l e R s m args below meth c nL G sh A Q pc L (.int y :: .int x :: st) g := by
  subst hq
  exact fun H locs ls hP hS hl => lv_icmp_ne C.1.1 C.1.2.1 hd ht (fun w => kt w H locs ls hP hS hl) (fun w => kf w H locs ls hP hS hl)
theorem r_if_lt (t q : Nat) (C : KX p s m args c cc nL own Ts G sh A) {x : Int32} {off : Int} (hd : decode cc pc = .ok (.ifCond .lt off, 3)) (ht : (pc : Int) + off = (t : Int)) (hq : pc + 3 = q) (kt : x < 0 → JJ p l e R s m args below meth c nL G sh A Q t L st g) (kf : ¬ x < 0 → JJ p l e R s m args below meth c nL G sh A Q q L st g) : JJ p l e R s m args below meth c nL G sh A Q pc L (.int x :: st) g := by
  subst hq
  exact fun H locs ls hP hS hl => lv_if_lt C.1.1 C.1.2.1 hd ht (fun w => kt w H locs ls hP hS hl) (fun w => kf w H locs ls hP hS hl)
theorem r_icmp_lt (t q : Nat) (C : KX p s m args c cc nL own Ts G sh A) {x y : Int32} {off : Int} (hd : decode cc pc = .ok (.if_icmp .lt off, 3)) (ht : (pc : Int) + off = (t : Int)) (hq : pc + 3 = q) (kt : x < y → JJ p l e R s m args below meth c nL G sh A Q t L st g) (kf : ¬ x < y → JJ p l e R s m args below meth c nL G sh A Q q L st g) : JJ p l e R s m args below meth c nL G sh A Q pc L (.int y :: .int x :: st) g := by
  subst hq
  exact fun H locs ls hP hS hl => lv_icmp_lt C.1.1 C.1.2.1 hd ht (fun w => kt w H locs ls hP hS hl) (fun w => kf w H locs ls hP hS hl)
theorem r_if_ge (t q : Nat) (C : KX p s m args c cc nL own Ts G sh A) {x : Int32} {off : Int} (hd : decode cc pc = .ok (.ifCond .ge off, 3)) (ht : (pc : Int) + off = (t : Int)) (hq : pc + 3 = q) (kt : 0 ≤ x → JJ p l e R s m args below meth c nL G sh A Q t L st g) (kf : ¬ 0 ≤ x → JJ p l e R s m args below meth c nL G sh A Q q L st g) : JJ p l e R s m args below meth c nL G sh A Q pc L (.int x :: st) g := by
  subst hq
  exact fun H locs ls hP hS hl => lv_if_ge C.1.1 C.1.2.1 hd ht (fun w => kt w H locs ls hP hS hl) (fun w => kf w H locs ls hP hS hl)
theorem r_icmp_ge (t q : Nat) (C : KX p s m args c cc nL own Ts G sh A) {x y : Int32} {off : Int} (hd : decode cc pc = .ok (.if_icmp .ge off, 3)) (ht : (pc : Int) + off = (t : Int)) (hq : pc + 3 = q) (kt : y ≤ x → JJ p l e R s m args below meth c nL G sh A Q t L st g) (kf : ¬ y ≤ x → JJ p l e R s m args below meth c nL G sh A Q q L st g) : JJ p l e R s m args below meth c nL G sh A Q pc L (.int y :: .int x :: st) g := by
  subst hq
  exact fun H locs ls hP hS hl => lv_icmp_ge C.1.1 C.1.2.1 hd ht (fun w => kt w H locs ls hP hS hl) (fun w => kf w H locs ls hP hS hl)
theorem r_if_gt (t q : Nat) (C : KX p s m args c cc nL own Ts G sh A) {x : Int32} {off : Int} (hd : decode cc pc = .ok (.ifCond .gt off, 3)) (ht : (pc : Int) + off = (t : Int)) (hq : pc + 3 = q) (kt : 0 < x → JJ p l e R s m args below meth c nL G sh A Q t L st g) (kf : ¬ 0 < x → JJ p l e R s m args below meth c nL G sh A Q q L st g) : JJ p l e R s m args below meth c nL G sh A Q pc L (.int x :: st) g := by
  subst hq
  exact fun H locs ls hP hS hl => lv_if_gt C.1.1 C.1.2.1 hd ht (fun w => kt w H locs ls hP hS hl) (fun w => kf w H locs ls hP hS hl)
theorem r_icmp_gt (t q : Nat) (C : KX p s m args c cc nL own Ts G sh A) {x y : Int32} {off : Int} (hd : decode cc pc = .ok (.if_icmp .gt off, 3)) (ht : (pc : Int) + off = (t : Int)) (hq : pc + 3 = q) (kt : y < x → JJ p l e R s m args below meth c nL G sh A Q t L st g) (kf : ¬ y < x → JJ p l e R s m args below meth c nL G sh A Q q L st g) : JJ p l e R s m args below meth c nL G sh A Q pc L (.int y :: .int x :: st) g := by
  subst hq
  exact fun H locs ls hP hS hl => lv_icmp_gt C.1.1 C.1.2.1 hd ht (fun w => kt w H locs ls hP hS hl) (fun w => kf w H locs ls hP hS hl)
theorem r_if_le (t q : Nat) (C : KX p s m args c cc nL own Ts G sh A) {x : Int32} {off : Int} (hd : decode cc pc = .ok (.ifCond .le off, 3)) (ht : (pc : Int) + off = (t : Int)) (hq : pc + 3 = q) (kt : x ≤ 0 → JJ p l e R s m args below meth c nL G sh A Q t L st g) (kf : ¬ x ≤ 0 → JJ p l e R s m args below meth c nL G sh A Q q L st g) : JJ p l e R s m args below meth c nL G sh A Q pc L (.int x :: st) g := by
  subst hq
  exact fun H locs ls hP hS hl => lv_if_le C.1.1 C.1.2.1 hd ht (fun w => kt w H locs ls hP hS hl) (fun w => kf w H locs ls hP hS hl)
theorem r_icmp_le (t q : Nat) (C : KX p s m args c cc nL own Ts G sh A) {x y : Int32} {off : Int} (hd : decode cc pc = .ok (.if_icmp .le off, 3)) (ht : (pc : Int) + off = (t : Int)) (hq : pc + 3 = q) (kt : x ≤ y → JJ p l e R s m args below meth c nL G sh A Q t L st g) (kf : ¬ x ≤ y → JJ p l e R s m args below meth c nL G sh A Q q L st g) : JJ p l e R s m args below meth c nL G sh A Q pc L (.int y :: .int x :: st) g := by
  subst hq
  exact fun H locs ls hP hS hl => lv_icmp_le C.1.1 C.1.2.1 hd ht (fun w => kt w H locs ls hP hS hl) (fun w => kf w H locs ls hP hS hl)
theorem r_sub (L' : List (Nat × Value)) (ks : List Nat) (h : lv_pick L ks = L') (k : JJ p l e R s m args below meth c nL G sh A Q pc L' st g) : JJ p l e R s m args below meth c nL G sh A Q pc L st g := fun H locs ls hP hS hl => k H locs ls hP hS (lv_sub hl ks h)
theorem r_iushr (q : Nat) (C : KX p s m args c cc nL own Ts G sh A) {x y : Int32} (hd : decode cc pc = .ok (.iushr, 1)) (hq : pc + 1 = q) (k : JJ p l e R s m args below meth c nL G sh A Q q L (.int (ushr x y) :: st) g) : JJ p l e R s m args below meth c nL G sh A Q pc L (.int y :: .int x :: st) g := by
  subst hq
  exact fun H locs ls hP hS hl => lv_iushr C.1.1 C.1.2.1 hd rfl (k H locs ls hP hS hl)
theorem r_ldc_w (q : Nat) (C : KX p s m args c cc nL own Ts G sh A) {index : Nat} {v : Int32} (hd : decode cc pc = .ok (.ldc_w index, 3)) (hq : pc + 3 = q) (hc : Cond.constant own index v ∈ Ts) (k : JJ p l e R s m args below meth c nL G sh A Q q L (.int v :: st) g) : JJ p l e R s m args below meth c nL G sh A Q pc L st g := by
  subst hq
  exact fun H locs ls hP hS hl => lv_ldcw C.1.1 C.1.2.1 C.1.2.2.2.1 (C.1.2.2.2.2 _ hc) hd (k H locs ls hP hS hl)
/-! fields -/
theorem r_geti (q : Nat) (C : KX p s m args c cc nL own Ts G sh A) {o ci k N index : Nat} {fs : List (Option Nat)} {CN : String} {T : u_T} (hsh : sh[o]? = some (.inl (ci, fs))) (hc : vwCl[ci]? = some (CN, T, N)) (hin : ∀ w ∈ u_ws CN T N, w ∈ Ts) (hk : k < N) (hf : fs[k]? = some none) (hd : decode cc pc = .ok (.getfield index, 3)) (hq : pc + 3 = q) (hl : Cond.fieldLink own index (T k).1 (T k).2.1 (T k).2.2.1 ∈ Ts)
    (kk : JJ p l e R s m args below meth c nL G sh A Q q L (.int (g o k) :: st) g) : JJ p l e R s m args below meth c nL G sh A Q pc L (.ref (G.2.1 o) :: st) g := by
  subst hq
  intro H locs ls hP hS hlv
  have he := k_wl_get (G := G) (g := g) sh 0 o hsh
  rw [Nat.zero_add] at he
  have hv := k_fl_int G.2.1 (g o) fs 0 k hf
  rw [Nat.zero_add] at hv
  exact va_get C.1.1 C.1.2.1 C.1.2.2.2.2 hin C.1.2.2.2.1 C.2.1 hP o he hc k hk (C.1.2.2.2.2 _ hl) (fun _ h => h) hv hd (kk H locs ls hP hS hlv)
theorem r_getr (q : Nat) (C : KX p s m args c cc nL own Ts G sh A) {o o' ci k N index : Nat} {fs : List (Option Nat)} {CN : String} {T : u_T} (hsh : sh[o]? = some (.inl (ci, fs))) (hc : vwCl[ci]? = some (CN, T, N)) (hin : ∀ w ∈ u_ws CN T N, w ∈ Ts) (hk : k < N) (hf : fs[k]? = some (some o')) (hd : decode cc pc = .ok (.getfield index, 3)) (hq : pc + 3 = q) (hl : Cond.fieldLink own index (T k).1 (T k).2.1 (T k).2.2.1 ∈ Ts)
    (kk : JJ p l e R s m args below meth c nL G sh A Q q L (.ref (G.2.1 o') :: st) g) : JJ p l e R s m args below meth c nL G sh A Q pc L (.ref (G.2.1 o) :: st) g := by
  subst hq
  intro H locs ls hP hS hlv
  have he := k_wl_get (G := G) (g := g) sh 0 o hsh
  rw [Nat.zero_add] at he
  have hv := k_fl_ref G.2.1 (g o) fs 0 k hf
  exact va_get C.1.1 C.1.2.1 C.1.2.2.2.2 hin C.1.2.2.2.1 C.2.1 hP o he hc k hk (C.1.2.2.2.2 _ hl) (fun _ h => h) hv hd (kk H locs ls hP hS hlv)
theorem r_puti (q : Nat) (C : KX p s m args c cc nL own Ts G sh A) {o ci k N index : Nat} {fs : List (Option Nat)} {CN : String} {T : u_T} {v : Int32} {g' : Mem} (ty0 : Nat → FieldType) (hty : ∀ k, k < N → parseFieldDescriptor (T k).2.2.1 = some (ty0 k)) (hnm : ∀ a, a < N → ∀ b, b < N → a ≠ b → (T a).2.1 ≠ (T b).2.1) (hsh : sh[o]? = some (.inl (ci, fs))) (hc : vwCl[ci]? = some (CN, T, N)) (hin : ∀ w ∈ u_ws CN T N, w ∈ Ts) (hk : k < N) (hf : fs[k]? = some none) (hfin : (T k).2.2.2 = false) {ty : FieldType} (hdt : parseFieldDescriptor (T k).2.2.1 = some ty) (hn : narrow ty (.int v) = .int v) (hfit : fits ty (.int v) = true) (hg : g' = m_up g o k v) (hd : decode cc pc = .ok (.putfield index, 3)) (hq : pc + 3 = q) (hl : Cond.fieldLink own index (T k).1 (T k).2.1 (T k).2.2.1 ∈ Ts)
    (kk : JJ p l e R s m args below meth c nL G sh A Q q L st g') : JJ p l e R s m args below meth c nL G sh A Q pc L (.int v :: .ref (G.2.1 o) :: st) g := by
  subst hq; subst hg
  intro H locs ls hP hS hlv
  have he := k_wl_get (G := G) (g := g) sh 0 o hsh
  rw [Nat.zero_add] at he
  have hlen : k < (k_fl G.2.1 (g o) 0 fs).length := by
    rw [k_fl_len]; exact (List.getElem?_eq_some_iff.mp hf).1
  have e1 := k_fl_set G.2.1 (g o) v fs 0 k hf
  rw [Nat.zero_add] at e1
  have e2 := k_wl_set (G := G) (g := g) (f := upd (g o) k v) sh 0 o hsh
  rw [Nat.zero_add] at e2
  refine va_put C.1.1 C.1.2.1 C.1.2.2.2.2 hin ty0 hty hnm C.1.2.2.2.1 C.2.1 hP (k_D_any C.2.2.1) hS o he hc k hk (C.1.2.2.2.2 _ hl) (fun _ h => h) hfin hdt hn hfit hlen hd (fun H1 locs1 hP1 hD1 hS1 => kk H1 locs1 ls ?_ hS1 hlv)
  rw [e1] at hP1
  exact e2 ▸ hP1
/-! arrays -/
theorem r_iaload (q : Nat) (C : KX p s m args c cc nL own Ts G sh A) {o n : Nat} {i x : Int32} (hsh : sh[o]? = some (.inr (.inl (false, n)))) (hd : decode cc pc = .ok (.iaload, 1)) (hq : pc + 1 = q) (hx : rd g o n i = some x)
    (kk : JJ p l e R s m args below meth c nL G sh A Q q L (.int x :: st) g) : JJ p l e R s m args below meth c nL G sh A Q pc L (.int i :: .ref (G.2.1 o) :: st) g := by
  subst hq
  intro H locs ls hP hS hlv
  have he := k_wl_get (G := G) (g := g) sh 0 o hsh
  rw [Nat.zero_add] at he
  unfold rd at hx
  by_cases hb : i < 0 ∨ n ≤ i.toNatClampNeg
  · rw [if_pos hb] at hx; cases hx
  · rw [if_neg hb] at hx
    cases hx
    exact va_iald C.1.1 C.1.2.1 C.2.1 hP o 0 he rfl hb hd (kk H locs ls hP hS hlv)
theorem r_caload (q : Nat) (C : KX p s m args c cc nL own Ts G sh A) {o n : Nat} {i x : Int32} (hsh : sh[o]? = some (.inr (.inl (true, n)))) (hd : decode cc pc = .ok (.caload, 1)) (hq : pc + 1 = q) (hx : rd g o n i = some x)
    (kk : JJ p l e R s m args below meth c nL G sh A Q q L (.int x :: st) g) : JJ p l e R s m args below meth c nL G sh A Q pc L (.int i :: .ref (G.2.1 o) :: st) g := by
  subst hq
  intro H locs ls hP hS hlv
  have he := k_wl_get (G := G) (g := g) sh 0 o hsh
  rw [Nat.zero_add] at he
  unfold rd at hx
  by_cases hb : i < 0 ∨ n ≤ i.toNatClampNeg
  · rw [if_pos hb] at hx; cases hx
  · rw [if_neg hb] at hx
    cases hx
    exact va_cald C.1.1 C.1.2.1 C.2.1 hP o 1 he rfl hb hd (kk H locs ls hP hS hlv)
theorem r_aaload (q : Nat) (C : KX p s m args c cc nL own Ts G sh A) {o n o' : Nat} {r : Nat → Nat} {i : Int32} (hsh : sh[o]? = some (.inr (.inr (n, r)))) (hd : decode cc pc = .ok (.aaload, 1)) (hq : pc + 1 = q) (hx : rdr n r i = some o')
    (kk : JJ p l e R s m args below meth c nL G sh A Q q L (.ref (G.2.1 o') :: st) g) : JJ p l e R s m args below meth c nL G sh A Q pc L (.int i :: .ref (G.2.1 o) :: st) g := by
  subst hq
  intro H locs ls hP hS hlv
  have he := k_wl_get (G := G) (g := g) sh 0 o hsh
  rw [Nat.zero_add] at he
  unfold rdr at hx
  by_cases hb : i < 0 ∨ n ≤ i.toNatClampNeg
  · rw [if_pos hb] at hx; cases hx
  · rw [if_neg hb] at hx
    cases hx
    exact va_aldq C.1.1 C.1.2.1 C.2.1 hP o 2 he rfl hb hd (kk H locs ls hP hS hlv)
theorem r_alen (q : Nat) (C : KX p s m args c cc nL own Ts G sh A) {o n : Nat} {v : Int32} (hsh : sh[o]? = some (.inr (.inl (false, n)))) (hd : decode cc pc = .ok (.arraylength, 1)) (hq : pc + 1 = q) (hv : Int32.ofNat n = v)
    (kk : JJ p l e R s m args below meth c nL G sh A Q q L (.int v :: st) g) : JJ p l e R s m args below meth c nL G sh A Q pc L (.ref (G.2.1 o) :: st) g := by
  subst hq
  intro H locs ls hP hS hlv
  have he := k_wl_get (G := G) (g := g) sh 0 o hsh
  rw [Nat.zero_add] at he
  exact va_alen C.1.1 C.1.2.1 C.2.1 hP o 0 he (ty := .int) rfl hv hd (kk H locs ls hP hS hlv)
theorem r_iastore (q : Nat) (C : KX p s m args c cc nL own Ts G sh A) {o n : Nat} {i v : Int32} {g' : Mem} (hsh : sh[o]? = some (.inr (.inl (false, n)))) (hd : decode cc pc = .ok (.iastore, 1)) (hq : pc + 1 = q) (hx : wr g o n i v = some g')
    (kk : JJ p l e R s m args below meth c nL G sh A Q q L st g') : JJ p l e R s m args below meth c nL G sh A Q pc L (.int v :: .int i :: .ref (G.2.1 o) :: st) g := by
  subst hq
  intro H locs ls hP hS hlv
  have he := k_wl_get (G := G) (g := g) sh 0 o hsh
  rw [Nat.zero_add] at he
  unfold wr at hx
  by_cases hb : i < 0 ∨ n ≤ i.toNatClampNeg
  · rw [if_pos hb] at hx; cases hx
  · rw [if_neg hb] at hx
    cases hx
    have e2 := k_wl_set (G := G) (g := g) (f := upd (g o) i.toNatClampNeg v) sh 0 o hsh
    rw [Nat.zero_add] at e2
    exact va_iast C.1.1 C.1.2.1 C.2.1 hP (k_D_any C.2.2.1) hS o 0 he rfl hb hd (fun H1 locs1 hP1 hD1 hS1 => kk H1 locs1 ls (e2 ▸ hP1) hS1 hlv)
theorem r_castore (q : Nat) (C : KX p s m args c cc nL own Ts G sh A) {o n : Nat} {i v : Int32} {g' : Mem} (hsh : sh[o]? = some (.inr (.inl (true, n)))) (hd : decode cc pc = .ok (.castore, 1)) (hq : pc + 1 = q) (hx : wr g o n i (vp_nar .char v) = some g')
    (kk : JJ p l e R s m args below meth c nL G sh A Q q L st g') : JJ p l e R s m args below meth c nL G sh A Q pc L (.int v :: .int i :: .ref (G.2.1 o) :: st) g := by
  subst hq
  intro H locs ls hP hS hlv
  have he := k_wl_get (G := G) (g := g) sh 0 o hsh
  rw [Nat.zero_add] at he
  unfold wr at hx
  by_cases hb : i < 0 ∨ n ≤ i.toNatClampNeg
  · rw [if_pos hb] at hx; cases hx
  · rw [if_neg hb] at hx
    cases hx
    have e2 := k_wl_set (G := G) (g := g) (f := upd (g o) i.toNatClampNeg (vp_nar .char v)) sh 0 o hsh
    rw [Nat.zero_add] at e2
    exact va_cast C.1.1 C.1.2.1 C.2.1 hP (k_D_any C.2.2.1) hS o 1 he rfl hb hd (fun H1 locs1 hP1 hD1 hS1 => kk H1 locs1 ls (e2 ▸ hP1) hS1 hlv)
/-! switches -/
theorem r_tabOut (q : Nat) (C : KX p s m args c cc nL own Ts G sh A) {dflt lo hi : Int} {offs : Array Int} {len : Nat} {x : Int32} (hd : decode cc pc = .ok (.tableswitch dflt lo hi offs, len)) (h : x.toInt < lo ∨ hi < x.toInt) (hq : (pc : Int) + dflt = (q : Int))
    (k : JJ p l e R s m args below meth c nL G sh A Q q L st g) : JJ p l e R s m args below meth c nL G sh A Q pc L (.int x :: st) g :=
  fun H locs ls hP hS hl => lv_tableOut C.1.1 C.1.2.1 hd h hq (k H locs ls hP hS hl)
theorem r_tabIn (q : Nat) (C : KX p s m args c cc nL own Ts G sh A) {dflt lo hi : Int} {offs : Array Int} {len : Nat} {x : Int32} {off : Int} (hd : decode cc pc = .ok (.tableswitch dflt lo hi offs, len)) (h1 : ¬ x.toInt < lo) (h2 : ¬ hi < x.toInt) (ho : offs[(x.toInt - lo).toNat]? = some off) (hq : (pc : Int) + off = (q : Int))
    (k : JJ p l e R s m args below meth c nL G sh A Q q L st g) : JJ p l e R s m args below meth c nL G sh A Q pc L (.int x :: st) g :=
  fun H locs ls hP hS hl => lv_tableIn C.1.1 C.1.2.1 hd h1 h2 ho hq (k H locs ls hP hS hl)
theorem r_lookup (q : Nat) (C : KX p s m args c cc nL own Ts G sh A) {dflt : Int} {ps : Array (Int × Int)} {len : Nat} {x : Int32} {off : Int} (hd : decode cc pc = .ok (.lookupswitch dflt ps, len)) (hp : (ps.toList.zip (ps.toList.drop 1)).all (fun (a, next) => a.1 < next.1) = true) (ho : Op.lookupswitch.offset ps.toList dflt x.toInt = off) (hq : (pc : Int) + off = (q : Int))
    (k : JJ p l e R s m args below meth c nL G sh A Q q L st g) : JJ p l e R s m args below meth c nL G sh A Q pc L (.int x :: st) g :=
  fun H locs ls hP hS hl => lv_lookup C.1.1 C.1.2.1 hd hp ho hq (k H locs ls hP hS hl)
/-! Math -/
theorem r_max (q : Nat) (C : KX p s m args c cc nL own Ts G sh A) {index : Nat} {x y : Int32} (hl : Cond.methodLink own index Lib.Math.max.name ∈ Ts) (hs : Cond.static Lib.Math.max.name ∈ Ts) (hi : Cond.initialized "java/lang/Math" ∈ Ts) (hcd : Cond.code Lib.Math.max.name Lib.Math.max.code 2 (some .int) ∈ Ts) (hf : 1 ≤ R.frames) (hlo : (st.map fun v => v.category).sum + 13 ≤ R.locals) (hd : decode cc pc = .ok (.invokestatic index, 3)) (hq : pc + 3 = q)
    (k : JJ p l e R s m args below meth c nL G sh A Q q L (.int (imax x y) :: st) g) : JJ p l e R s m args below meth c nL G sh A Q pc L (.int y :: .int x :: st) g := by
  subst hq
  exact fun H locs ls hP hS hlv => va_mmax C.1.1 C.1.2.1 (C.1.2.2.1.trans hlv.1.symm) C.1.2.2.2.1 (C.1.2.2.2.2 _ hl) (C.1.2.2.2.2 _ hs) (C.1.2.2.2.2 _ hi) (C.1.2.2.2.2 _ hcd) hf hlo (Nat.zero_le _) (Nat.zero_le _) hd (k H locs ls hP hS hlv)
theorem r_min (q : Nat) (C : KX p s m args c cc nL own Ts G sh A) {index : Nat} {x y : Int32} (hl : Cond.methodLink own index Lib.Math.min.name ∈ Ts) (hs : Cond.static Lib.Math.min.name ∈ Ts) (hi : Cond.initialized "java/lang/Math" ∈ Ts) (hcd : Cond.code Lib.Math.min.name Lib.Math.min.code 2 (some .int) ∈ Ts) (hf : 1 ≤ R.frames) (hlo : (st.map fun v => v.category).sum + 13 ≤ R.locals) (hd : decode cc pc = .ok (.invokestatic index, 3)) (hq : pc + 3 = q)
    (k : JJ p l e R s m args below meth c nL G sh A Q q L (.int (imin x y) :: st) g) : JJ p l e R s m args below meth c nL G sh A Q pc L (.int y :: .int x :: st) g := by
  subst hq
  exact fun H locs ls hP hS hlv => va_mmin C.1.1 C.1.2.1 (C.1.2.2.1.trans hlv.1.symm) C.1.2.2.2.1 (C.1.2.2.2.2 _ hl) (C.1.2.2.2.2 _ hs) (C.1.2.2.2.2 _ hi) (C.1.2.2.2.2 _ hcd) hf hlo (Nat.zero_le _) (Nat.zero_le _) hd (k H locs ls hP hS hlv)
/-! calls: what the run gives, and goes on -/
variable {y : MethodName} {bytes : ByteArray} {maxL n index : Nat} {ret : Option FieldType} {ws : List Cond} {rm : Room} {As stk : List Value} {g' : Mem} {r : Int32}
theorem r_goi {a : Array Value} {H : Heap} {locs : List Loc} {ls : Array Slot} (q : Nat) (hq : pc + 3 = q) (hr : va_Run p l e R s m args below meth c H locs 0 0 0 0 (F0 m pc ls stk) st (k_Qi G sh A r g' a) A) (hS : va_S A s.heap H locs) (hl : lv_has ls nL L)
    (k : JJ p l e R s m args below meth c nL G sh A Q q L (.int r :: st) g') : W p l e R s m args below meth c H locs 0 0 Q (F0 m pc ls stk) := by
  subst hq
  refine va_calli (mc := 0) (ms := 0) hr hS (fun _ _ h => h) (fun _ h => h) (fun r1 u t H1 locs1 ht hvm hw hB hz hk hS1 => ?_)
  obtain ⟨hP1, -⟩ := hB
  subst hw
  rw [ht] at hP1
  exact k H1 locs1 ls hP1 hS1 hl
theorem r_gov {a : Array Value} {H : Heap} {locs : List Loc} {ls : Array Slot} (q : Nat) (hq : pc + 3 = q) (hr : va_Run p l e R s m args below meth c H locs 0 0 0 0 (F0 m pc ls stk) st (k_Qv G sh A g' a) A) (hS : va_S A s.heap H locs) (hl : lv_has ls nL L)
    (k : JJ p l e R s m args below meth c nL G sh A Q q L st g') : W p l e R s m args below meth c H locs 0 0 Q (F0 m pc ls stk) := by
  subst hq
  refine va_callv (mc := 0) (ms := 0) hr hS (fun _ _ h => h) (fun _ h => h) (fun u t H1 locs1 ht hvm hw hB hz hk hS1 => ?_)
  obtain ⟨hP1, -⟩ := hB
  rw [ht] at hP1
  exact k H1 locs1 ls hP1 hS1 hl
theorem k_preS {H : Heap} {locs : List Loc} (hS : va_S A s.heap H locs) (C : KX p s m args c cc nL own Ts G sh A) (hP : va_P G.1 vwCl (k_wl G g 0 sh) H) : PreS s H (va_Pc As (k_W G sh A g)) As :=
  ⟨k_blind, fun U hU hW => ⟨rfl, by rw [hU]; exact hP, va_K.moved hW.alike C.2.1, C.2.2.1, C.2.2.2.1.warm hW, C.2.2.2.2.move hS hU hW⟩⟩
theorem k_preV {H : Heap} {locs : List Loc} (hS : va_S A s.heap H locs) {o ci N : Nat} {fs : List (Option Nat)} {CN : String} {T : u_T} (C : KX p s m args c cc nL own Ts G sh A) (hP : va_P G.1 vwCl (k_wl G g 0 sh) H) (hsh : sh[o]? = some (.inl (ci, fs))) (hc : vwCl[ci]? = some (CN, T, N)) : PreV s H CN (G.2.1 o) (va_Pc (.ref (G.2.1 o) :: As) (k_W G sh A g)) As := by
  have he := k_wl_get (G := G) (g := g) sh 0 o hsh
  rw [Nat.zero_add] at he
  exact ⟨k_blind, va_recv C.2.1 hP hc he, fun U hU hW => ⟨rfl, by rw [hU]; exact hP, va_K.moved hW.alike C.2.1, C.2.2.1, C.2.2.2.1.warm hW, C.2.2.2.2.move hS hU hW⟩⟩
/-- a static call in the own class, an int comes back -/
theorem r_Si (q : Nat) (C : KX p s m args c cc nL own Ts G sh A) (hM : k_Mi l y ws rm G sh A As g r g') (cw : CallB R s args own index y bytes maxL ret ws rm 0 0 n ∧ (Cond.static y).before args s = true) (hn : As.length = n) (hst : stk = As.reverse ++ st) (hcat : (st.map fun v => v.category).sum ≤ 8) (hd : decode cc pc = .ok (.invokestatic index, 3)) (hq : pc + 3 = q)
    (k : JJ p l e R s m args below meth c nL G sh A Q q L (.int r :: st) g') : JJ p l e R s m args below meth c nL G sh A Q pc L stk g :=
  fun H locs ls hP hS hl => r_goi q hq (va_runS C.1 hM cw (k_preS hS C hP) rfl hn hl.1 hst (lv_room hcat) hd ⟨Nat.zero_le _, Nat.zero_le _⟩) hS hl k
theorem r_Sv (q : Nat) (C : KX p s m args c cc nL own Ts G sh A) (hM : k_Mv l y ws rm G sh A As g g') (cw : CallB R s args own index y bytes maxL ret ws rm 0 0 n ∧ (Cond.static y).before args s = true) (hn : As.length = n) (hst : stk = As.reverse ++ st) (hcat : (st.map fun v => v.category).sum ≤ 8) (hd : decode cc pc = .ok (.invokestatic index, 3)) (hq : pc + 3 = q)
    (k : JJ p l e R s m args below meth c nL G sh A Q q L st g') : JJ p l e R s m args below meth c nL G sh A Q pc L stk g :=
  fun H locs ls hP hS hl => r_gov q hq (va_runS C.1 hM cw (k_preS hS C hP) rfl hn hl.1 hst (lv_room hcat) hd ⟨Nat.zero_le _, Nat.zero_le _⟩) hS hl k
/-- a static call of a nest mate -/
theorem r_SNi (q : Nat) (C : KX p s m args c cc nL own Ts G sh A) {host : String} (hM : k_Mi l y ws rm G sh A As g r g') (cw : va_CN R s args own index y host bytes maxL ret ws rm 0 0 n ∧ (Cond.static y).before args s = true ∧ True) (hn : As.length = n) (hst : stk = As.reverse ++ st) (hcat : (st.map fun v => v.category).sum ≤ 8) (hd : decode cc pc = .ok (.invokestatic index, 3)) (hq : pc + 3 = q)
    (k : JJ p l e R s m args below meth c nL G sh A Q q L (.int r :: st) g') : JJ p l e R s m args below meth c nL G sh A Q pc L stk g :=
  fun H locs ls hP hS hl => r_goi q hq (va_runSN C.1 hM cw (k_preS hS C hP) rfl hn hl.1 hst (lv_room hcat) hd ⟨Nat.zero_le _, Nat.zero_le _⟩) hS hl k
/-- a virtual call -/
theorem r_Vi (q : Nat) (C : KX p s m args c cc nL own Ts G sh A) {o ci N : Nat} {fs : List (Option Nat)} {CN : String} {T : u_T} (hsh : sh[o]? = some (.inl (ci, fs))) (hc : vwCl[ci]? = some (CN, T, N)) (hM : k_Mi l y ws rm G sh A (.ref (G.2.1 o) :: As) g r g') (cw : CallW R s args own CN index y bytes maxL ret ws rm 0 0 n) (hn : As.length = n) (hst : stk = As.reverse ++ .ref (G.2.1 o) :: st) (hcat : (st.map fun v => v.category).sum ≤ 8) (hd : decode cc pc = .ok (.invokevirtual index, 3)) (hq : pc + 3 = q)
    (k : JJ p l e R s m args below meth c nL G sh A Q q L (.int r :: st) g') : JJ p l e R s m args below meth c nL G sh A Q pc L stk g :=
  fun H locs ls hP hS hl => r_goi q hq (va_runV C.1 hM cw (k_preV hS C hP hsh hc) rfl hn hl.1 hst (lv_room hcat) hd ⟨Nat.zero_le _, Nat.zero_le _⟩) hS hl k
theorem r_Vv (q : Nat) (C : KX p s m args c cc nL own Ts G sh A) {o ci N : Nat} {fs : List (Option Nat)} {CN : String} {T : u_T} (hsh : sh[o]? = some (.inl (ci, fs))) (hc : vwCl[ci]? = some (CN, T, N)) (hM : k_Mv l y ws rm G sh A (.ref (G.2.1 o) :: As) g g') (cw : CallW R s args own CN index y bytes maxL ret ws rm 0 0 n) (hn : As.length = n) (hst : stk = As.reverse ++ .ref (G.2.1 o) :: st) (hcat : (st.map fun v => v.category).sum ≤ 8) (hd : decode cc pc = .ok (.invokevirtual index, 3)) (hq : pc + 3 = q)
    (k : JJ p l e R s m args below meth c nL G sh A Q q L st g') : JJ p l e R s m args below meth c nL G sh A Q pc L stk g :=
  fun H locs ls hP hS hl => r_gov q hq (va_runV C.1 hM cw (k_preV hS C hP hsh hc) rfl hn hl.1 hst (lv_room hcat) hd ⟨Nat.zero_le _, Nat.zero_le _⟩) hS hl k
/-! the words of a call -/
theorem k_cwSN (C : KX p s m args c cc nL own Ts G sh A) {ws' : List Cond} (hq : (own, index, y) ∈ k_nw) (hG : GoodIn Ts ws) (hw : ws = Cond.code y bytes maxL ret :: ws') (hrm : rm.cells = 0 ∧ rm.slots = 0) (hstat : Cond.static y ∈ Ts) (hini : Cond.initialized y.cls ∈ Ts) (hd : y.cls ≠ "java/lang/invoke/MethodHandle" ∧ y.cls ≠ "java/lang/invoke/VarHandle" ∧ (parseMethodDescriptor y.desc).map (fun d => d.parameters.length) = some n) (hR : rm.frames + 1 ≤ R.frames ∧ 8 + (maxL + 11) + rm.locals ≤ R.locals) : va_CN R s args own index y RX4 bytes maxL ret ws rm 0 0 n ∧ (Cond.static y).before args s = true ∧ True :=
  ⟨va_cnB n C.1.2.2.2.2 hG hw hrm.1 hrm.2 (C.2.2.2.1 _ hq) (C.1.2.2.2.2 _ hini) hd hR, C.1.2.2.2.2 _ hstat, trivial⟩
/-! returns -/
theorem r_iret (C : KX p s m args c cc nL own Ts G sh A) (hr : meth.sig.returnType = some .int) (hk : meth.locks = false) {a : Array Value} {v : Int32} (hd : decode cc pc = .ok (.ireturn, 1)) : JJ p l e R s m a below meth c nL G sh A (MQ below (k_Qi G sh A v g) a s 0 0 A) pc L [.int v] g :=
  fun H locs ls hP hS hl => W.iret (v := v) C.1.1 C.1.2.1 hr (fun t ht hW => ⟨⟨v, (), rfl, rfl, by rw [ht]; exact hP, va_K.moved hW.alike C.2.1, C.2.2.1, C.2.2.2.1.warm hW, C.2.2.2.2.move hS ht hW⟩, hS.F ht⟩) hS.2.2 hd hk
theorem bI_narrow (b : Bool) : narrow .boolean (.int (bI b)) = .int (bI b) := by cases b <;> rfl
theorem r_zret (C : KX p s m args c cc nL own Ts G sh A) (hr : meth.sig.returnType = some .boolean) (hk : meth.locks = false) {a : Array Value} (b : Bool) {v : Int32} (hv : bI b = v) (hd : decode cc pc = .ok (.ireturn, 1)) : JJ p l e R s m a below meth c nL G sh A (MQ below (k_Qi G sh A (bI b) g) a s 0 0 A) pc L [.int v] g := by
  subst hv
  exact fun H locs ls hP hS hl => W.zret (v := bI b) C.1.1 C.1.2.1 hr (bI_narrow b) (fun t ht hW => ⟨⟨bI b, (), rfl, rfl, by rw [ht]; exact hP, va_K.moved hW.alike C.2.1, C.2.2.1, C.2.2.2.1.warm hW, C.2.2.2.2.move hS ht hW⟩, hS.F ht⟩) hS.2.2 hd hk
theorem r_vret (C : KX p s m args c cc nL own Ts G sh A) (hr : meth.sig.returnType = none) (hk : meth.locks = false) {a : Array Value} (hd : decode cc pc = .ok (.return_, 1)) : JJ p l e R s m a below meth c nL G sh A (MQ below (k_Qv G sh A g) a s 0 0 A) pc L [] g :=
  fun H locs ls hP hS hl => W.vret C.1.1 C.1.2.1 hr (fun t ht hW => ⟨⟨(), rfl, trivial, by rw [ht]; exact hP, va_K.moved hW.alike C.2.1, C.2.2.1, C.2.2.2.1.warm hW, C.2.2.2.2.move hS ht hW⟩, hS.F ht⟩) hS.2.2 hd hk
/-! a contract out of its body -/
theorem k_ofi {ws' : List Cond} {ty : FieldType} (hy : plainName y.cls = true) (hw : ws = Cond.code y cc nL (some ty) :: ws') (hown : y.cls = own) (hsz : (lg_sl As).length ≤ nL) (hrm : rm.cells = 0 ∧ rm.slots = 0) (L : List (Nat × Value)) (hL : lv_args 0 As = L)
    (body : ∀ (p : Program) (e : Env) (s : State) (m : MethodId) (args : Array Value) (below : List Frame) (meth : Method) (c : Code), KX p s m args c cc nL own ws G sh A → meth.sig.returnType = some ty → meth.locks = false → JJ p l e rm s m args below meth c nL G sh A (MQ below (k_Qi G sh A r g') args s 0 0 A) 0 L [] g) : k_Mi l y ws rm G sh A As g r g' := by
  refine Met.ofW (cc := cc) (maxL := nL) (ret := some ty) hy hw ?_
  intro p e s m args below meth c s₁ B hml hv
  obtain ⟨rfl, hP, hK, hD, hN, hE⟩ := hv
  have hown2 : s.vm.findClass own = some m.cls := by rw [← hown]; exact findClass_of_methodNamed B.named
  have hl := lv_entry As hsz
  rw [lg_entry_eq]
  rw [hL] at hl
  exact body p e s m _ below meth c ⟨⟨B.exec, B.bytes, hml, hown2, atoms_spec (ws := ws) B.pre⟩, hK, hD, hN, hE⟩ B.returns B.notSynchronized s.heap [] _ hP va_S.rf hl
theorem k_ofv {ws' : List Cond} (hy : plainName y.cls = true) (hw : ws = Cond.code y cc nL none :: ws') (hown : y.cls = own) (hsz : (lg_sl As).length ≤ nL) (hrm : rm.cells = 0 ∧ rm.slots = 0) (L : List (Nat × Value)) (hL : lv_args 0 As = L)
    (body : ∀ (p : Program) (e : Env) (s : State) (m : MethodId) (args : Array Value) (below : List Frame) (meth : Method) (c : Code), KX p s m args c cc nL own ws G sh A → meth.sig.returnType = none → meth.locks = false → JJ p l e rm s m args below meth c nL G sh A (MQ below (k_Qv G sh A g') args s 0 0 A) 0 L [] g) : k_Mv l y ws rm G sh A As g g' := by
  refine Met.ofW (cc := cc) (maxL := nL) (ret := none) hy hw ?_
  intro p e s m args below meth c s₁ B hml hv
  obtain ⟨rfl, hP, hK, hD, hN, hE⟩ := hv
  have hown2 : s.vm.findClass own = some m.cls := by rw [← hown]; exact findClass_of_methodNamed B.named
  have hl := lv_entry As hsz
  rw [lg_entry_eq]
  rw [hL] at hl
  exact body p e s m _ below meth c ⟨⟨B.exec, B.bytes, hml, hown2, atoms_spec (ws := ws) B.pre⟩, hK, hD, hN, hE⟩ B.returns B.notSynchronized s.heap [] _ hP va_S.rf hl

end ROWS
