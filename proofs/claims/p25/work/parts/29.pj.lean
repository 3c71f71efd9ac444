/-! copies of states; the history's ring; the whole state of the class -/
theorem cp_q {g : Mem} {o1 o2 n q k : Nat} (h : q ≠ o2) : m_cp g o1 o2 n q k = g q k := by
  unfold m_cp m_set
  rw [if_neg h]
theorem cp_i {g : Mem} {o1 o2 n k : Nat} (h : k < n) : m_cp g o1 o2 n o2 k = g o1 k := by
  unfold m_cp m_set va_cpy
  rw [if_pos rfl, if_pos ⟨Nat.zero_le _, by omega⟩, Nat.zero_add, Nat.sub_zero]
theorem cpF {g : Mem} {o1 o2 n q : Nat} (h : q ≠ o2) : m_cp g o1 o2 n q = g q := by
  funext k
  exact cp_q h
theorem CR_fr {g g' : Mem} {o : Nat} {τ : Row} (hC : CR g o τ) (e : ∀ q, o ≤ q → q < o + 12 → g' q = g q) : CR g' o τ := by
  obtain ⟨c0, c1, c2, c3, c4, a1, a2, a3, a4, a5, a6, a7, a8, a10, a11⟩ := hC
  have e0 := e o (by omega) (by omega)
  have e1 := e (o + 1) (by omega) (by omega)
  have e2 := e (o + 2) (by omega) (by omega)
  have e3 := e (o + 3) (by omega) (by omega)
  have e4 := e (o + 4) (by omega) (by omega)
  have e5 := e (o + 5) (by omega) (by omega)
  have e6 := e (o + 6) (by omega) (by omega)
  have e7 := e (o + 7) (by omega) (by omega)
  have e8 := e (o + 8) (by omega) (by omega)
  have e9 := e (o + 9) (by omega) (by omega)
  have e10 := e (o + 10) (by omega) (by omega)
  have e11 := e (o + 11) (by omega) (by omega)
  refine ⟨?_, ?_, ?_, ?_, ?_, ?_, ?_, ?_, ?_, ?_, ?_, ?_, ?_, ?_, ?_⟩
  · rw [e0]; exact c0
  · rw [e0]; exact c1
  · rw [e0]; exact c2
  · rw [e0]; exact c3
  · rw [e0]; exact c4
  · rw [e1]; exact a1
  · rw [e2]; exact a2
  · rw [e3]; exact a3
  · rw [e4]; exact a4
  · rw [e5]; exact a5
  · rw [e6]; exact a6
  · rw [e7]; exact a7
  · rw [e8, e9]; exact a8
  · rw [e10]; exact a10
  · rw [e11]; exact a11
/-- the memory behind a copy of state o1 into o: the fields, then the arrays -/
def cpS0 (g : Mem) (o o1 : Nat) : Mem := (m_up (m_up (m_up (m_up (m_up g o 0 (g o1 0)) o 1 ((m_up g o 0 (g o1 0)) o1 1)) o 2 ((m_up (m_up g o 0 (g o1 0)) o 1 ((m_up g o 0 (g o1 0)) o1 1)) o1 2)) o 3 ((m_up (m_up (m_up g o 0 (g o1 0)) o 1 ((m_up g o 0 (g o1 0)) o1 1)) o 2 ((m_up (m_up g o 0 (g o1 0)) o 1 ((m_up g o 0 (g o1 0)) o1 1)) o1 2)) o1 3)) o 4 ((m_up (m_up (m_up (m_up g o 0 (g o1 0)) o 1 ((m_up g o 0 (g o1 0)) o1 1)) o 2 ((m_up (m_up g o 0 (g o1 0)) o 1 ((m_up g o 0 (g o1 0)) o1 1)) o1 2)) o 3 ((m_up (m_up (m_up g o 0 (g o1 0)) o 1 ((m_up g o 0 (g o1 0)) o1 1)) o 2 ((m_up (m_up g o 0 (g o1 0)) o 1 ((m_up g o 0 (g o1 0)) o1 1)) o1 2)) o1 3)) o1 4))
def cpS (g : Mem) (o o1 : Nat) : Mem := (m_cp (m_cp (m_cp (m_cp (m_cp (m_cp (m_cp (m_cp (m_cp (m_cp (m_cp (cpS0 g o o1) (o1 + 1) (o + 1) 6) (o1 + 2) (o + 2) 96) (o1 + 3) (o + 3) 96) (o1 + 4) (o + 4) 3) (o1 + 5) (o + 5) 3) (o1 + 6) (o + 6) 3) (o1 + 7) (o + 7) 48) (o1 + 8) (o + 8) 288) (o1 + 9) (o + 9) 288) (o1 + 10) (o + 10) 17) (o1 + 11) (o + 11) 17)
theorem C_copyE (g : Mem) (o o1 : Nat) : f_X2_copy o o1 g = some (cpS g o o1) := rfl
theorem cpS0_k {g : Mem} {o o1 : Nat} (h : o + 12 ≤ o1 ∨ o1 + 12 ≤ o) : ∀ k, k < 5 → cpS0 g o o1 o k = g o1 k := by
  intro k hk
  unfold cpS0
  rcases (show k = 0 ∨ k = 1 ∨ k = 2 ∨ k = 3 ∨ k = 4 by omega) with rfl | rfl | rfl | rfl | rfl
  all_goals simp (disch := omega) only [mu_k, mu_eq, mu_o]
theorem cpS0_q {g : Mem} {o o1 q : Nat} (h : q ≠ o) : cpS0 g o o1 q = g q := by
  unfold cpS0
  rw [mu_q h, mu_q h, mu_q h, mu_q h, mu_q h]
theorem cpS_q {g : Mem} {o o1 q : Nat} (h : q < o ∨ o + 12 ≤ q) : cpS g o o1 q = g q := by
  unfold cpS
  rw [cpF (by omega), cpF (by omega), cpF (by omega), cpF (by omega), cpF (by omega), cpF (by omega), cpF (by omega), cpF (by omega), cpF (by omega), cpF (by omega), cpF (by omega), cpS0_q (by omega)]
theorem cpS_k {g : Mem} {o o1 : Nat} (h : o + 12 ≤ o1 ∨ o1 + 12 ≤ o) {k : Nat} (hk : k < 5) : cpS g o o1 o k = g o1 k := by
  unfold cpS
  rw [cpF (by omega), cpF (by omega), cpF (by omega), cpF (by omega), cpF (by omega), cpF (by omega), cpF (by omega), cpF (by omega), cpF (by omega), cpF (by omega), cpF (by omega), cpS0_k h k hk]
theorem cpS_1 {g : Mem} {o o1 : Nat} (h : o + 12 ≤ o1 ∨ o1 + 12 ≤ o) {k : Nat} (hk : k < 6) : cpS g o o1 (o + 1) k = g (o1 + 1) k := by
  unfold cpS
  rw [cpF (by omega), cpF (by omega), cpF (by omega), cpF (by omega), cpF (by omega), cpF (by omega), cpF (by omega), cpF (by omega), cpF (by omega), cpF (by omega), cp_i hk, cpS0_q (by omega)]
theorem cpS_2 {g : Mem} {o o1 : Nat} (h : o + 12 ≤ o1 ∨ o1 + 12 ≤ o) {k : Nat} (hk : k < 96) : cpS g o o1 (o + 2) k = g (o1 + 2) k := by
  unfold cpS
  rw [cpF (by omega), cpF (by omega), cpF (by omega), cpF (by omega), cpF (by omega), cpF (by omega), cpF (by omega), cpF (by omega), cpF (by omega), cp_i hk, cpF (by omega), cpS0_q (by omega)]
theorem cpS_3 {g : Mem} {o o1 : Nat} (h : o + 12 ≤ o1 ∨ o1 + 12 ≤ o) {k : Nat} (hk : k < 96) : cpS g o o1 (o + 3) k = g (o1 + 3) k := by
  unfold cpS
  rw [cpF (by omega), cpF (by omega), cpF (by omega), cpF (by omega), cpF (by omega), cpF (by omega), cpF (by omega), cpF (by omega), cp_i hk, cpF (by omega), cpF (by omega), cpS0_q (by omega)]
theorem cpS_4 {g : Mem} {o o1 : Nat} (h : o + 12 ≤ o1 ∨ o1 + 12 ≤ o) {k : Nat} (hk : k < 3) : cpS g o o1 (o + 4) k = g (o1 + 4) k := by
  unfold cpS
  rw [cpF (by omega), cpF (by omega), cpF (by omega), cpF (by omega), cpF (by omega), cpF (by omega), cpF (by omega), cp_i hk, cpF (by omega), cpF (by omega), cpF (by omega), cpS0_q (by omega)]
theorem cpS_5 {g : Mem} {o o1 : Nat} (h : o + 12 ≤ o1 ∨ o1 + 12 ≤ o) {k : Nat} (hk : k < 3) : cpS g o o1 (o + 5) k = g (o1 + 5) k := by
  unfold cpS
  rw [cpF (by omega), cpF (by omega), cpF (by omega), cpF (by omega), cpF (by omega), cpF (by omega), cp_i hk, cpF (by omega), cpF (by omega), cpF (by omega), cpF (by omega), cpS0_q (by omega)]
theorem cpS_6 {g : Mem} {o o1 : Nat} (h : o + 12 ≤ o1 ∨ o1 + 12 ≤ o) {k : Nat} (hk : k < 3) : cpS g o o1 (o + 6) k = g (o1 + 6) k := by
  unfold cpS
  rw [cpF (by omega), cpF (by omega), cpF (by omega), cpF (by omega), cpF (by omega), cp_i hk, cpF (by omega), cpF (by omega), cpF (by omega), cpF (by omega), cpF (by omega), cpS0_q (by omega)]
theorem cpS_7 {g : Mem} {o o1 : Nat} (h : o + 12 ≤ o1 ∨ o1 + 12 ≤ o) {k : Nat} (hk : k < 48) : cpS g o o1 (o + 7) k = g (o1 + 7) k := by
  unfold cpS
  rw [cpF (by omega), cpF (by omega), cpF (by omega), cpF (by omega), cp_i hk, cpF (by omega), cpF (by omega), cpF (by omega), cpF (by omega), cpF (by omega), cpF (by omega), cpS0_q (by omega)]
theorem cpS_8 {g : Mem} {o o1 : Nat} (h : o + 12 ≤ o1 ∨ o1 + 12 ≤ o) {k : Nat} (hk : k < 288) : cpS g o o1 (o + 8) k = g (o1 + 8) k := by
  unfold cpS
  rw [cpF (by omega), cpF (by omega), cpF (by omega), cp_i hk, cpF (by omega), cpF (by omega), cpF (by omega), cpF (by omega), cpF (by omega), cpF (by omega), cpF (by omega), cpS0_q (by omega)]
theorem cpS_9 {g : Mem} {o o1 : Nat} (h : o + 12 ≤ o1 ∨ o1 + 12 ≤ o) {k : Nat} (hk : k < 288) : cpS g o o1 (o + 9) k = g (o1 + 9) k := by
  unfold cpS
  rw [cpF (by omega), cpF (by omega), cp_i hk, cpF (by omega), cpF (by omega), cpF (by omega), cpF (by omega), cpF (by omega), cpF (by omega), cpF (by omega), cpF (by omega), cpS0_q (by omega)]
theorem cpS_10 {g : Mem} {o o1 : Nat} (h : o + 12 ≤ o1 ∨ o1 + 12 ≤ o) {k : Nat} (hk : k < 17) : cpS g o o1 (o + 10) k = g (o1 + 10) k := by
  unfold cpS
  rw [cpF (by omega), cp_i hk, cpF (by omega), cpF (by omega), cpF (by omega), cpF (by omega), cpF (by omega), cpF (by omega), cpF (by omega), cpF (by omega), cpF (by omega), cpS0_q (by omega)]
theorem cpS_11 {g : Mem} {o o1 : Nat} (h : o + 12 ≤ o1 ∨ o1 + 12 ≤ o) {k : Nat} (hk : k < 17) : cpS g o o1 (o + 11) k = g (o1 + 11) k := by
  unfold cpS
  rw [cp_i hk, cpF (by omega), cpF (by omega), cpF (by omega), cpF (by omega), cpF (by omega), cpF (by omega), cpF (by omega), cpF (by omega), cpF (by omega), cpF (by omega), cpS0_q (by omega)]
theorem CR_copy {g : Mem} {o o1 : Nat} {τ : Row} (hC : CR g o1 τ) (h : o + 12 ≤ o1 ∨ o1 + 12 ≤ o) : CR (cpS g o o1) o τ := by
  obtain ⟨c0, c1, c2, c3, c4, a1, a2, a3, a4, a5, a6, a7, a8, a10, a11⟩ := hC
  refine ⟨?_, ?_, ?_, ?_, ?_, ?_, ?_, ?_, ?_, ?_, ?_, ?_, ?_, ?_, ?_⟩
  · rw [cpS_k h (by omega)]; exact c0
  · rw [cpS_k h (by omega)]; exact c1
  · rw [cpS_k h (by omega)]; exact c2
  · rw [cpS_k h (by omega)]; exact c3
  · rw [cpS_k h (by omega)]; exact c4
  · intro k hk; rw [cpS_1 h (by omega)]; exact a1 k hk
  · intro k hk; rw [cpS_2 h (by omega)]; exact a2 k hk
  · intro k hk; rw [cpS_3 h (by omega)]; exact a3 k hk
  · intro k hk; rw [cpS_4 h (by omega)]; exact a4 k hk
  · intro k hk; rw [cpS_5 h (by omega)]; exact a5 k hk
  · intro k hk; rw [cpS_6 h (by omega)]; exact a6 k hk
  · intro k hk; rw [cpS_7 h (by omega)]; exact a7 k hk
  · intro p a s hp ha hs hb; rw [cpS_8 h (by omega), cpS_9 h (by omega)]; exact a8 p a s hp ha hs hb
  · intro k hk; rw [cpS_10 h (by omega)]; exact a10 k hk
  · intro k hk; rw [cpS_11 h (by omega)]; exact a11 k hk
theorem Fr_copy {g : Mem} {o o1 : Nat} : Fr o g (cpS g o o1) := fun _ hq => cpS_q hq
/-- the whole: the row; how many states the history has, and which (0 the latest); is there a snapshot, which; the text; the latest refusal -/
abbrev St : Type := Row × Nat × (Nat → Row) × Bool × Row × Nat × (Nat → Nat) × Option (Nat × Int32 × Nat)
def SI : St → Prop
  | (τ, hn, hist, kf, sn, tn, txt, _) => RK τ ∧ hn ≤ 4 ∧ (∀ i, i < hn → RK (hist i)) ∧ (kf = true → RK sn) ∧ tn ≤ 60 ∧ ∀ i, i < tn → txt i < 65536
def rfC (g : Mem) : Option (Nat × Int32 × Nat) → Prop
  | none => g 0 6 = 0
  | some (k, e, q) => g 0 6 = 1 ∧ g 0 7 = nI k ∧ g 0 8 = e ∧ g 0 9 = nI q
def RC (g : Mem) : St → Prop
  | (τ, hn, hist, kf, sn, tn, txt, rf) => CR g 1 τ ∧ (∃ nx, nx < 5 ∧ g 25 1 = nI nx ∧ ∀ i, i < hn → CR g (rowOf ((nx + 4 - i) % 5)) (hist i)) ∧ g 25 2 = nI hn ∧ g 0 2 = bI kf ∧ (kf = true → CR g 13 sn) ∧ g 87 1 = nI tn ∧ (∀ i, i < tn → g 88 i = nI (txt i)) ∧ rfC g rf
def push (τ : Row) (hist : Nat → Row) : Nat → Row := fun i => if i = 0 then τ else hist (i - 1)
/-- an act's answer and new row make a new whole -/
def o_act (f : Row → Int32 × Row) : St → Int32 × St
  | (τ, hn, hist, kf, sn, tn, txt, rf) => if (f τ).1 < 0 then ((f τ).1, (τ, hn, hist, kf, sn, tn, txt, rf)) else ((f τ).1, ((f τ).2, min 4 (hn + 1), push τ hist, kf, sn, tn, txt, rf))
theorem o_act_n {f : Row → Int32 × Row} {τ : Row} {hn : Nat} {hist : Nat → Row} {kf : Bool} {sn : Row} {tn : Nat} {txt : Nat → Nat} {rf : Option (Nat × Int32 × Nat)} (h : (f τ).1 < 0) : o_act f (τ, hn, hist, kf, sn, tn, txt, rf) = ((f τ).1, (τ, hn, hist, kf, sn, tn, txt, rf)) := if_pos h
theorem o_act_p {f : Row → Int32 × Row} {τ : Row} {hn : Nat} {hist : Nat → Row} {kf : Bool} {sn : Row} {tn : Nat} {txt : Nat → Nat} {rf : Option (Nat × Int32 × Nat)} (h : ¬ (f τ).1 < 0) : o_act f (τ, hn, hist, kf, sn, tn, txt, rf) = ((f τ).1, ((f τ).2, min 4 (hn + 1), push τ hist, kf, sn, tn, txt, rf)) := if_neg h
theorem rowOf_r {nx : Nat} (h : nx < 5) (g : Mem) : rdr 5 rowOf (nI nx) = some (rowOf nx) := by
  unfold rdr
  rw [nI_clamp (by omega), if_neg]
  rintro (h2 | h2)
  · exact nI_pos (by omega) h2
  · omega
theorem C_draft {g : Mem} {nx : Nat} (hx : nx < 5) (hg : g 25 1 = nI nx) : f_X0_draft 1 g = some (cpS g (rowOf nx) 1) := by
  unfold f_X0_draft
  rw [hg, rowOf_r hx g, bnd_some, C_copyE, bnd_some]
theorem C_commit {g : Mem} {nx hn : Nat} (hx : nx < 5) (hg : g 25 1 = nI nx) (hg2 : g 25 2 = nI hn) (hh : hn ≤ 4) : f_X0_commit g = some (m_up (m_up g 25 1 (nI ((nx + 1) % 5))) 25 2 (nI (min 4 (hn + 1)))) := by
  unfold f_X0_commit
  rw [hg, nI_1, z5, pk_rem (by omega) (by omega) (by omega), lt1, mu_k (by decide), hg2, nI_1, z4, imin_nI (by omega) (by omega), lt1]
/-- the rows of the ring are apart -/
theorem ring_ne {nx i : Nat} (hx : nx < 5) (hi : i < 4) : (nx + 4 - i) % 5 ≠ nx := by omega
theorem rowOf_apart {a b : Nat} (h : a ≠ b) : rowOf a + 12 ≤ rowOf b ∨ rowOf b + 12 ≤ rowOf a := by unfold rowOf; omega
/-- an act of the class, out of the act on its state -/
theorem C_act {g : Mem} {τ : Row} {hn : Nat} {hist : Nat → Row} {kf : Bool} {sn : Row} {tn : Nat} {txt : Nat → Nat} {rf : Option (Nat × Int32 × Nat)} (F : Mem → Option (Int32 × Mem)) (f : Row → Int32 × Row) (hF : ∀ g1, CR g1 1 τ → (kf = true → CR g1 13 sn) → ∃ g', F g1 = some ((f τ).1, g') ∧ CR g' 1 (f τ).2 ∧ Fr 1 g1 g') (h0 : (f τ).1 < 0 → (f τ).2 = τ) (hR : RC g (τ, hn, hist, kf, sn, tn, txt, rf)) (hI : SI (τ, hn, hist, kf, sn, tn, txt, rf)) : ∃ g', ((f_X0_draft 1 g).bind fun g1 => (bd2 (F g1) fun x2 g3 => (bd2 (f_X4_settled x2 g3) fun x4 g5 => (some (x4, g5))))) = some ((o_act f (τ, hn, hist, kf, sn, tn, txt, rf)).1, g') ∧ RC g' (o_act f (τ, hn, hist, kf, sn, tn, txt, rf)).2 := by
  obtain ⟨r1, ⟨nx, hx, r2, r3⟩, r4, r5, r6, r7, r8, r9⟩ := hR
  obtain ⟨i1, i2, i3, i4, i5, i6⟩ := hI
  have ro : rowOf nx = 27 + 12 * nx := rfl
  have hC1 : CR (cpS g (rowOf nx) 1) 1 τ := CR_fr r1 (fun q h1 h2 => cpS_q (by omega))
  have hCd : CR (cpS g (rowOf nx) 1) (rowOf nx) τ := CR_copy r1 (by omega)
  obtain ⟨g3, e3, hC3, hF3⟩ := hF _ hC1 (fun q => CR_fr (r6 q) (fun q h1 h2 => cpS_q (by omega)))
  rw [C_draft hx r2, bnd_some, e3, bd2_some]
  -- what of the memory stays
  have keep : ∀ q, q = 0 ∨ q = 25 ∨ q = 87 ∨ q = 88 → g3 q = g q := fun q hq => by rw [hF3 q (by omega), cpS_q (by omega)]
  have k0 := keep 0 (by omega)
  have k25 := keep 25 (by omega)
  have k87 := keep 87 (by omega)
  have k88 := keep 88 (by omega)
  have hrows : ∀ i, i < hn → CR g3 (rowOf ((nx + 4 - i) % 5)) (hist i) := fun i hi => CR_fr (r3 i hi) (fun q h1 h2 => by
    have a1 := rowOf_apart (ring_ne hx (show i < 4 by omega))
    have a2 : rowOf ((nx + 4 - i) % 5) = 27 + 12 * ((nx + 4 - i) % 5) := rfl
    rw [hF3 q (by omega), cpS_q (by omega)])
  have hsn : kf = true → CR g3 13 sn := fun q => CR_fr (r6 q) (fun q h1 h2 => by rw [hF3 q (by omega), cpS_q (by omega)])
  have hd3 : CR g3 (rowOf nx) τ := CR_fr hCd (fun q h1 h2 => hF3 q (by omega))
  have hrf : rfC g3 rf := by
    unfold rfC at r9 ⊢
    rw [k0]
    exact r9
  unfold f_X4_settled
  by_cases hneg : (f τ).1 < 0
  · rw [if_pos hneg, bd2_some]
    refine ⟨g3, ?_, ?_⟩
    · rw [o_act_n hneg]
    · rw [o_act_n hneg]
      rw [h0 hneg] at hC3
      exact ⟨hC3, ⟨nx, hx, by rw [k25]; exact r2, hrows⟩, by rw [k25]; exact r4, by rw [k0]; exact r5, hsn, by rw [k87]; exact r7, fun i hi => by rw [k88]; exact r8 i hi, hrf⟩
  · rw [if_neg hneg, C_commit (nx := nx) (hn := hn) hx (by rw [k25]; exact r2) (by rw [k25]; exact r4) i2, bnd_some, bd2_some]
    refine ⟨m_up (m_up g3 25 1 (nI ((nx + 1) % 5))) 25 2 (nI (min 4 (hn + 1))), by rw [o_act_p hneg], ?_⟩
    · rw [o_act_p hneg]
      have st : ∀ o τ', CR g3 o τ' → (25 < o ∨ o + 12 ≤ 25) → CR (m_up (m_up g3 25 1 (nI ((nx + 1) % 5))) 25 2 (nI (min 4 (hn + 1)))) o τ' := fun o τ' hc ho => CR_fr hc (fun q h1 h2 => by rw [mu_q (by omega), mu_q (by omega)])
      refine ⟨st 1 _ hC3 (by omega), ⟨(nx + 1) % 5, by omega, by rw [mu_k (by decide), mu_eq], fun i hi => ?_⟩, by rw [mu_eq], by rw [mu_o (by decide), mu_o (by decide), k0]; exact r5, fun q => st 13 _ (hsn q) (by omega), by rw [mu_o (by decide), mu_o (by decide), k87]; exact r7, fun i hi => by rw [mu_o (by decide), mu_o (by decide), k88]; exact r8 i hi, ?_⟩
      · have a2 : ∀ z, rowOf z = 27 + 12 * z := fun z => rfl
        unfold push
        by_cases hi0 : i = 0
        · subst hi0
          rw [if_pos rfl, show ((nx + 1) % 5 + 4 - 0) % 5 = nx from by omega]
          exact st _ _ hd3 (by rw [a2]; omega)
        · rw [if_neg hi0, show ((nx + 1) % 5 + 4 - i) % 5 = (nx + 4 - (i - 1)) % 5 from by omega]
          exact st _ _ (hrows (i - 1) (by omega)) (by rw [a2]; omega)
      · unfold rfC at hrf ⊢
        rw [mu_q (by decide), mu_q (by decide)]
        exact hrf
