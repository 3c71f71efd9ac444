/-! an order carried out; a text's orders, one after another -/
def s_ord (T : Nat → Nat) (e : Nat) (τ : Row) : Int32 × Row :=
  if T (st T e) = 97 then s_vote (nI (P_ord T (st T e)).2.2.1) (nI (P_ord T (st T e)).2.2.2.1) (nI (P_ord T (st T e)).2.2.2.2) τ
  else if T (st T e) = 110 then s_prepare (nI (P_ord T (st T e)).2.2.1) τ
  else if T (st T e) = 118 then s_propose (nI (P_ord T (st T e)).2.2.1) (nI (P_ord T (st T e)).2.2.2.1) (nI (P_ord T (st T e)).2.2.2.2) τ
  else if T (st T e) = 121 then s_promise (nI (P_ord T (st T e)).2.2.1) (nI (P_ord T (st T e)).2.2.2.1) τ
  else if T (st T e) = 117 then s_turn (nI (P_ord T (st T e)).2.2.1) true τ
  else s_turn (nI (P_ord T (st T e)).2.2.1) false τ
theorem RK_ord {T : Nat → Nat} {e : Nat} {τ : Row} (h : RK τ) : RK (s_ord T e τ).2 := by
  unfold s_ord
  by_cases e1 : T (st T e) = 97
  · rw [if_pos e1]; exact RK_vote h _ _ _
  rw [if_neg e1]
  by_cases e2 : T (st T e) = 110
  · rw [if_pos e2]; exact RK_prepare h _
  rw [if_neg e2]
  by_cases e3 : T (st T e) = 118
  · rw [if_pos e3]; exact RK_propose h _ _ _
  rw [if_neg e3]
  by_cases e4 : T (st T e) = 121
  · rw [if_pos e4]; exact RK_promise h _ _
  rw [if_neg e4]
  by_cases e5 : T (st T e) = 117
  · rw [if_pos e5]; exact RK_turn h _ _
  · rw [if_neg e5]; exact RK_turn h _ _
theorem P_ord_L {T : Nat → Nat} {i : Nat} (h : (P_ord T i).1 = true) : T i = 97 ∨ T i = 110 ∨ T i = 118 ∨ T i = 121 ∨ T i = 117 ∨ T i = 100 := by
  by_cases e1 : T i = 97
  · exact Or.inl e1
  by_cases e2 : T i = 110
  · exact Or.inr (Or.inl e2)
  by_cases e3 : T i = 118
  · exact Or.inr (Or.inr (Or.inl e3))
  by_cases e4 : T i = 121
  · exact Or.inr (Or.inr (Or.inr (Or.inl e4)))
  by_cases e5 : T i = 117
  · exact Or.inr (Or.inr (Or.inr (Or.inr (Or.inl e5))))
  by_cases e6 : T i = 100
  · exact Or.inr (Or.inr (Or.inr (Or.inr (Or.inr e6))))
  unfold P_ord at h
  rw [if_neg e2, if_neg e4, if_neg e3, if_neg e1, if_neg (fun z => z.elim e6 e5)] at h
  exact absurd h (by show ¬ (false = true); decide)
theorem C_carry {g : Mem} {T : Nat → Nat} {m e : Nat} {τ : Row} (hC : CR g 1 τ) (h : RI τ) (hO : OS T g m) (hm : m ≤ 20) (hz : g 89 5 = nI m) (he : e < m) : ∃ g', f_X1_carryOut (nI e) 1 g = some ((s_ord T e τ).1, g') ∧ CR g' 1 (s_ord T e τ).2 ∧ Fr 1 g g' := by
  obtain ⟨o1, o2, ⟨n1, n2, n3⟩, o4, o5⟩ := hO e he
  unfold f_X1_carryOut s_ord
  rw [if_neg (nI_pos (by omega)), hz, if_pos (nI_lt he (by omega)), z3, pk_mul, nI_1, z2, nI_add, rd_nI (by omega) (by omega), bnd_some, rd_nI (by omega) (by omega), bnd_some, rd_nI (by omega) (by omega), bnd_some, rd_nI (by omega) (by omega), bnd_some, o1, Nat.mul_comm e 3, n1]
  rcases P_ord_L o4 with q | q | q | q | q | q
  · rw [q] at n2 n3
    rw [q, if_pos (by rfl), if_pos rfl, bd2_eta, n2 (by decide), n3 (by decide)]
    exact C_vote hC h _ _ _
  · rw [q, if_neg (by decide), if_pos (by rfl), if_neg (by decide), if_pos rfl, bd2_eta]
    exact C_prepare hC h _
  · rw [q] at n2 n3
    rw [q, if_neg (by decide), if_neg (by decide), if_pos (by rfl), if_neg (by decide), if_neg (by decide), if_pos rfl, bd2_eta, n2 (by decide), n3 (by decide)]
    exact C_propose hC h _ _ _
  · rw [q] at n2
    rw [q, if_neg (by decide), if_neg (by decide), if_neg (by decide), if_pos (by rfl), if_neg (by decide), if_neg (by decide), if_neg (by decide), if_pos rfl, bd2_eta, n2 (by decide)]
    exact C_promise hC h _ _
  · rw [q, if_neg (by decide), if_neg (by decide), if_neg (by decide), if_neg (by decide), bnd_some, if_pos (by rfl), if_neg (by decide), if_neg (by decide), if_neg (by decide), if_neg (by decide), if_pos rfl, bd2_eta]
    exact C_turn hC h _ _
  · rw [q, if_neg (by decide), if_neg (by decide), if_neg (by decide), if_neg (by decide), bnd_some, if_neg (by decide), if_neg (by decide), if_neg (by decide), if_neg (by decide), if_neg (by decide), if_neg (by decide), bd2_eta]
    exact C_turn hC h _ _
def X_go (T : Nat → Nat) : Nat → Nat → Row → Option (Nat × Int32) × Row
  | 0, _, τ => (none, τ)
  | n + 1, e, τ => if f_X4_isError (s_ord T e τ).1 then (some (e, (s_ord T e τ).1), τ) else X_go T n (e + 1) (s_ord T e τ).2
theorem RK_go {T : Nat → Nat} : ∀ n e τ, RK τ → RK (X_go T n e τ).2 := by
  intro n
  induction n with
  | zero => intro e τ h; exact h
  | succ n ih =>
    intro e τ h
    rw [X_go]
    split
    · exact h
    · exact ih _ _ (RK_ord h)
theorem OS_fr {T : Nat → Nat} {g g' : Mem} {m : Nat} (h : OS T g m) (e0 : g' 90 = g 90) (e1 : g' 91 = g 91) (e2 : g' 92 = g 92) : OS T g' m := by
  intro k hk
  obtain ⟨o1, o2, ⟨n1, n2, n3⟩, o4⟩ := h k hk
  exact ⟨by rw [e0]; exact o1, by rw [e1]; exact o2, ⟨by rw [e2]; exact n1, by rw [e2]; exact n2, by rw [e2]; exact n3⟩, o4⟩
theorem lp_C_perf {T : Nat → Nat} {m : Nat} (hm : m ≤ 20) (K : Mem → Option (Int32 × Mem)) : ∀ n e N g τ, e + n = m → n < N → CR g 1 τ → RK τ → OS T g m → g 89 5 = nI m → ∃ g', Fr 1 g g' ∧ ((X_go T n e τ).1 = none → f_X4_perform_L35 K N (nI e) g = K g' ∧ CR g' 1 (X_go T n e τ).2) ∧ ∀ q, (X_go T n e τ).1 = some q → f_X4_perform_L35 K N (nI e) g = ((f_X4_noteRefusal (nI q.1) q.2 g').bind fun g10 => ((f_X0_bringBackDraft 1 g10).bind fun g11 => (some ((-4), g11)))) ∧ q.1 < m := by
  intro n
  induction n with
  | zero =>
    intro e N g τ he hN hC h hO hz
    obtain ⟨N, rfl⟩ : ∃ M, N = M + 1 := ⟨N - 1, by omega⟩
    refine ⟨g, Fr.rf, fun _ => ⟨?_, hC⟩, fun q hq => ?_⟩
    · rw [f_X4_perform_L35, hz, if_pos (nI_le (by omega) (by omega))]
    · exact absurd hq (by show ¬ (none = some q); exact fun z => nomatch z)
  | succ n ih =>
    intro e N g τ he hN hC h hO hz
    obtain ⟨N, rfl⟩ : ∃ M, N = M + 1 := ⟨N - 1, by omega⟩
    obtain ⟨g1, e1, hC1, f1⟩ := C_carry hC h.1 hO hm hz (e := e) (by omega)
    rw [f_X4_perform_L35, hz, if_neg (nI_ge (by omega) (by omega)), e1, bd2_some, X_go]
    cases hE : f_X4_isError (s_ord T e τ).1 with
    | true =>
      rw [if_pos rfl, if_pos rfl]
      refine ⟨g1, f1, fun z => ?_, fun q hq => ?_⟩
      · exact nomatch z
      · have := Option.some.inj hq
        subst this
        exact ⟨rfl, by show e < m; omega⟩
    | false =>
      rw [if_neg (by decide), if_neg (by decide), lt1, nI_1]
      obtain ⟨g', f2, k1, k2⟩ := ih (e + 1) N g1 _ (by omega) (by omega) hC1 (RK_ord h) (OS_fr hO (f1 90 (by omega)) (f1 91 (by omega)) (f1 92 (by omega))) (by rw [f1 89 (by omega)]; exact hz)
      exact ⟨g', Fr.tr f1 f2, k1, k2⟩
def o_perform : St → Int32 × St
  | (τ, hn, hist, kf, sn, tn, txt, rf) => if (P_run (tx tn txt) tn 20 0).1 = true then (match (X_go (tx tn txt) (P_run (tx tn txt) tn 20 0).2 0 τ).1 with
    | none => (nI (P_run (tx tn txt) tn 20 0).2, ((X_go (tx tn txt) (P_run (tx tn txt) tn 20 0).2 0 τ).2, min 4 (hn + 1), push τ hist, kf, sn, tn, txt, rf))
    | some q => (-4, (τ, hn, hist, kf, sn, tn, txt, some (q.1, q.2, st (tx tn txt) q.1)))) else (-100 - nI (P_run (tx tn txt) tn 20 0).2, (τ, hn, hist, kf, sn, tn, txt, rf))
theorem P_run_le {tn : Nat} {txt : Nat → Nat} : ∀ n e, st (tx tn txt) e ≤ tn → (P_run (tx tn txt) tn n e).1 = false → (P_run (tx tn txt) tn n e).2 ≤ tn := by
  intro n
  induction n with
  | zero => intro e h _; exact h
  | succ n ih =>
    intro e h hf
    have hle := P_ord_le (txt := txt) h
    rw [P_run] at hf ⊢
    by_cases q1 : (P_ord (tx tn txt) (st (tx tn txt) e)).1 = true
    · rw [if_pos q1] at hf ⊢
      by_cases q2 : (P_ord (tx tn txt) (st (tx tn txt) e)).2.1 = tn
      · rw [if_pos q2] at hf
        exact absurd hf (by show ¬ (true = false); decide)
      · rw [if_neg q2] at hf ⊢
        by_cases q3 : tx tn txt (P_ord (tx tn txt) (st (tx tn txt) e)).2.1 = 59
        · rw [if_pos q3] at hf ⊢
          have hin := tx_in (tn := tn) (txt := txt) (i := (P_ord (tx tn txt) (st (tx tn txt) e)).2.1) (by omega)
          exact ih (e + 1) (by show _ + 1 ≤ tn; omega) hf
        · rw [if_neg q3]
          exact hle
    · rw [if_neg q1]
      exact hle
theorem RC_fr {g g' : Mem} {S : St} (h : RC g S) (e : ∀ q, q < 89 → g' q = g q) : RC g' S := by
  obtain ⟨τ, hn, hist, kf, sn, tn, txt, rf⟩ := S
  obtain ⟨r1, ⟨nx, hx, r2, r3⟩, r4, r5, r6, r7, r8, r9⟩ := h
  have a2 : ∀ z, rowOf z = 27 + 12 * z := fun z => rfl
  exact ⟨CR_fr r1 (fun q _ _ => e q (by omega)), ⟨nx, hx, by rw [e 25 (by decide)]; exact r2, fun i hi => CR_fr (r3 i hi) (fun q _ h2 => e q (by rw [a2] at h2; omega))⟩, by rw [e 25 (by decide)]; exact r4, by rw [e 0 (by decide)]; exact r5, fun z => CR_fr (r6 z) (fun q _ _ => e q (by omega)), by rw [e 87 (by decide)]; exact r7, by rw [e 88 (by decide)]; exact r8, rfC_fr r9 (e 0 (by decide))⟩
