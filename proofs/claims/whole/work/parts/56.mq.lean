/-! the reference performs -/
theorem M_does {g g1 : Mem} {T : Nat → Nat} {m e : Nat} {τ : Row} (hM : MR g τ) (h : RI τ) (hr : f_X5_record g = some g1) (hM1 : MR g1 τ) (hO : OSM T g m) (hm : m ≤ 20) (he : e < m) : ∃ g', f_X5_does (nI e) g = some ((s_ord T e τ).1, g') ∧ ((s_ord T e τ).1 < 0 → g' = g) ∧ (¬ (s_ord T e τ).1 < 0 → MR g' (s_ord T e τ).2 ∧ F1 g1 g') := by
  obtain ⟨o1, o2, ⟨n1, n2, n3⟩, o4, o5⟩ := hO e he
  unfold f_X5_does s_ord
  rw [z5, pk_mul, nI_1, z2, z3, nI_add, nI_add, rd_nI (by omega) (by omega), bnd_some, rd_nI (by omega) (by omega), bnd_some, rd_nI (by omega) (by omega), bnd_some, rd_nI (by omega) (by omega), bnd_some, o1, n1]
  rcases P_ord_L o4 with q | q | q | q | q | q
  · rw [q] at n2 n3
    rw [q, if_pos (by rfl), if_pos rfl, bd2_eta, n2 (by decide), n3 (by decide)]
    exact M_vote _ _ _ g g1 τ hM h hr hM1
  · rw [q, if_neg (by decide), if_pos (by rfl), if_neg (by decide), if_pos rfl, bd2_eta]
    exact M_prepare _ g g1 τ hM h hr hM1
  · rw [q] at n2 n3
    rw [q, if_neg (by decide), if_neg (by decide), if_pos (by rfl), if_neg (by decide), if_neg (by decide), if_pos rfl, bd2_eta, n2 (by decide), n3 (by decide)]
    exact M_propose _ _ _ g g1 τ hM h hr hM1
  · rw [q] at n2
    rw [q, if_neg (by decide), if_neg (by decide), if_neg (by decide), if_pos (by rfl), if_neg (by decide), if_neg (by decide), if_neg (by decide), if_pos rfl, bd2_eta, n2 (by decide)]
    exact M_promise _ _ g g1 τ hM h hr hM1
  · rw [q, if_neg (by decide), if_neg (by decide), if_neg (by decide), if_neg (by decide), bnd_some, if_pos (by rfl), if_neg (by decide), if_neg (by decide), if_neg (by decide), if_neg (by decide), if_pos rfl, bd2_eta]
    exact M_turn _ _ g g1 τ hM h hr hM1
  · rw [q, if_neg (by decide), if_neg (by decide), if_neg (by decide), if_neg (by decide), bnd_some, if_neg (by decide), if_neg (by decide), if_neg (by decide), if_neg (by decide), if_neg (by decide), if_neg (by decide), bd2_eta]
    exact M_turn _ _ g g1 τ hM h hr hM1
theorem rec_quiet {g : Mem} (h : g 0 5 = 1) : f_X5_record g = some g := by
  unfold f_X5_record
  rw [if_neg (by rw [h]; decide)]
theorem isErr_iff (v : Int32) : f_X4_isError v = false ↔ (0 ≤ v ∨ v = -5) := by
  unfold f_X4_isError
  by_cases h1 : 0 ≤ v
  · rw [if_pos h1]; exact ⟨fun _ => Or.inl h1, fun _ => rfl⟩
  · rw [if_neg h1]
    by_cases h2 : v = -5
    · rw [if_pos h2]; exact ⟨fun _ => Or.inr h2, fun _ => rfl⟩
    · rw [if_neg h2]; exact ⟨fun z => absurd z (by decide), fun z => absurd z (fun z => z.elim h1 h2)⟩
theorem L36_do {m e N : Nat} {v : Int32} {g : Mem} (K : Int32 → Int32 → Mem → Option (Int32 × Mem)) (hm : m ≤ 20) (he : e < m) (h10 : g 0 10 = nI m) (hv : f_X4_isError v = false) : f_X5_perform_L36 K (N + 1) v (nI e) g = bd2 (f_X5_does (nI e) g) fun x8 g9 => (f_X5_perform_L36 K N x8 (nI (e + 1)) g9) := by
  rw [f_X5_perform_L36, h10, if_neg (nI_ge he (by omega))]
  simp only [lt1, nI_1]
  rcases (isErr_iff v).mp hv with h | h
  · rw [if_pos h]
  · by_cases h0 : 0 ≤ v
    · rw [if_pos h0]
    · rw [if_neg h0, if_pos h]
theorem L36_end {m e N : Nat} {v : Int32} {g : Mem} (K : Int32 → Int32 → Mem → Option (Int32 × Mem)) (hm : m ≤ 20) (he : m ≤ e) (he2 : e ≤ 20) (h10 : g 0 10 = nI m) : f_X5_perform_L36 K (N + 1) v (nI e) g = K v (nI e) g := by
  rw [f_X5_perform_L36, h10, if_pos (nI_le he (by omega))]
theorem L36_err {e N : Nat} {v : Int32} {g : Mem} (K : Int32 → Int32 → Mem → Option (Int32 × Mem)) (hv : f_X4_isError v = true) : f_X5_perform_L36 K (N + 1) v (nI e) g = K v (nI e) g := by
  have h1 : ¬ 0 ≤ v := fun z => by rw [(isErr_iff v).mpr (Or.inl z)] at hv; exact absurd hv (by decide)
  have h2 : ¬ v = -5 := fun z => by rw [(isErr_iff v).mpr (Or.inr z)] at hv; exact absurd hv (by decide)
  rw [f_X5_perform_L36]
  by_cases h : g 0 10 ≤ nI e
  · rw [if_pos h]
  · rw [if_neg h, if_neg h1, if_neg h2]
theorem lp_M_perf {T : Nat → Nat} {m : Nat} (hm : m ≤ 20) (K : Int32 → Int32 → Mem → Option (Int32 × Mem)) : ∀ n e N g τ v, e + n = m → n + 1 < N → f_X4_isError v = false → g 0 5 = 1 → MR g τ → RK τ → OSM T g m → g 0 10 = nI m → ∃ g' v', F1 g g' ∧ ((X_go T n e τ).1 = none → f_X5_perform_L36 K N v (nI e) g = K v' (nI m) g' ∧ f_X4_isError v' = false ∧ MR g' (X_go T n e τ).2) ∧ ∀ q, (X_go T n e τ).1 = some q → f_X5_perform_L36 K N v (nI e) g = K q.2 (nI (q.1 + 1)) g' ∧ f_X4_isError q.2 = true ∧ q.1 < m := by
  intro n
  induction n with
  | zero =>
    intro e N g τ v he hN hv h5 hM h hO h10
    obtain ⟨N, rfl⟩ : ∃ M, N = M + 1 := ⟨N - 1, by omega⟩
    have : e = m := by omega
    subst this
    refine ⟨g, v, F1.rf, fun _ => ⟨L36_end K hm (Nat.le_refl _) hm h10, hv, hM⟩, fun q hq => ?_⟩
    exact absurd hq (by show ¬ (none = some q); exact fun z => nomatch z)
  | succ n ih =>
    intro e N g τ v he hN hv h5 hM h hO h10
    obtain ⟨N, rfl⟩ : ∃ M, N = M + 1 := ⟨N - 1, by omega⟩
    obtain ⟨N, rfl⟩ : ∃ M, N = M + 1 := ⟨N - 1, by omega⟩
    obtain ⟨g1, e1, a1, a2⟩ := M_does hM h.1 (rec_quiet h5) hM hO hm (e := e) (by omega)
    have f1 : F1 g g1 := by
      by_cases hneg : (s_ord T e τ).1 < 0
      · rw [a1 hneg]; exact F1.rf
      · exact (a2 hneg).2
    have hM1 : MR g1 (s_ord T e τ).2 := by
      by_cases hneg : (s_ord T e τ).1 < 0
      · rw [a1 hneg, NP_ord h.1 hneg]; exact hM
      · exact (a2 hneg).1
    rw [L36_do K hm (by omega) h10 hv, e1, bd2_some, X_go]
    cases hE : f_X4_isError (s_ord T e τ).1 with
    | true =>
      rw [if_pos rfl, L36_err K hE]
      refine ⟨g1, v, f1, fun z => ?_, fun q hq => ?_⟩
      · exact nomatch z
      · have := Option.some.inj hq
        subst this
        exact ⟨rfl, hE, by show e < m; omega⟩
    | false =>
      rw [if_neg (by decide)]
      obtain ⟨g', v', f2, k1, k2⟩ := ih (e + 1) (N + 1) g1 _ (s_ord T e τ).1 (by omega) (by omega) hE (by rw [f1 0 (by decide)]; exact h5) hM1 (RK_ord h) (OSM_fr hO (fun k _ => by rw [f1 5 (by decide)])) (by rw [f1 0 (by decide)]; exact h10)
      exact ⟨g', v', F1.tr f1 f2, k1, k2⟩
/-- the row and what was before change places -/
theorem lp_swap (K : Mem → Option (Int32 × Mem)) : ∀ n j g, j ≤ 873 → 873 - j < n → ∃ g', f_X5_perform_L127 K n (nI j) g = K g' ∧ (∀ q, q ≠ 1 → q ≠ 6 → g' q = g q) ∧ (∀ k, k < j → g' 1 k = g 1 k ∧ g' 6 k = g 6 k) ∧ ∀ k, j ≤ k → k < 873 → g' 1 k = g 6 k ∧ g' 6 k = g 1 k := by
  intro n
  induction n with
  | zero => intro j g _ h; omega
  | succ n ih =>
    intro j g hj hn
    rw [f_X5_perform_L127]
    by_cases h6 : j = 873
    · subst h6
      rw [if_pos (by rw [z873]; exact nI_le (by omega) (by omega))]
      exact ⟨g, rfl, fun _ _ _ => rfl, fun _ _ => ⟨rfl, rfl⟩, fun k _ _ => by omega⟩
    · rw [if_neg (by rw [z873]; exact nI_ge (by omega) (by omega)), rd_nI (by omega) (by omega), bnd_some, rd_nI (by omega) (by omega), bnd_some, wr_nI (by omega) (by omega), bnd_some, wr_nI (by omega) (by omega), bnd_some, lt1, nI_1]
      obtain ⟨g', e, h1, h2, h3⟩ := ih (j + 1) (m_up (m_up g 1 j (g 6 j)) 6 j (g 1 j)) (by omega) (by omega)
      refine ⟨g', e, fun q a b => by rw [h1 q a b, mu_q b, mu_q a], fun k hk => ⟨?_, ?_⟩, fun k hk1 hk2 => ?_⟩
      · rw [(h2 k (by omega)).1, mu_o (by decide), mu_k (by omega)]
      · rw [(h2 k (by omega)).2, mu_k (by omega), mu_o (by decide)]
      · by_cases hk : k = j
        · subst hk
          rw [(h2 k (by omega)).1, (h2 k (by omega)).2, mu_eq, mu_o (by decide), mu_eq]
          exact ⟨rfl, rfl⟩
        · rw [(h3 k (by omega) hk2).1, (h3 k (by omega) hk2).2, mu_k hk, mu_o (by decide), mu_o (by decide), mu_k hk]
          exact ⟨rfl, rfl⟩
section MPERF
variable {g : Mem} {τ : Row} {hn : Nat} {hist : Nat → Row} {kf : Bool} {sn : Row} {tn : Nat} {txt : Nat → Nat} {rf : Option (Nat × Int32 × Nat)}
theorem RM_fr {g' : Mem} {τ' : Row} (hR : RM g (τ, hn, hist, kf, sn, tn, txt, rf)) (hM : MR g' τ') (e2 : g' 2 = g 2) (e3 : g' 3 = g 3) (e4 : g' 4 = g 4) (e0 : ∀ k, k ≠ 5 → k ≠ 8 → k ≠ 10 → g' 0 k = g 0 k) (e5 : g' 0 5 = 0) : RM g' (τ', hn, hist, kf, sn, tn, txt, rf) := by
  obtain ⟨r1, r2, r3, r4, r5, r6, r7, r8, r9⟩ := hR
  exact ⟨hM, by rw [e0 2 (by decide) (by decide) (by decide)]; exact r2, by rw [e2]; exact r3, by rw [e0 4 (by decide) (by decide) (by decide)]; exact r4, by rw [e3]; exact r5, e5, by rw [e0 6 (by decide) (by decide) (by decide)]; exact r7, by rw [e4]; exact r8, rfM_fr r9 (fun k hk => e0 k (by omega) (by omega) (by omega))⟩
theorem M_recordF (hR : RM g (τ, hn, hist, kf, sn, tn, txt, rf)) (hh : hn ≤ 4) : ∃ g', f_X5_record g = some g' ∧ (∀ q, q ≠ 2 → q ≠ 0 → g' q = g q) ∧ ∀ k, k ≠ 2 → g' 0 k = g 0 k := by
  obtain ⟨r1, r2, r3, r4, r5, r6, r7, r8, r9⟩ := hR
  unfold f_X5_record
  rw [if_pos r6, r2]
  by_cases h4 : hn = 4
  · subst h4
    rw [if_pos (by rfl)]
    obtain ⟨g1, e1, a1, _, a3⟩ := lp_shift (fun g13 => lt1 (m_up g13 0 2 ((g13 0 2) - 1)) fun g14 => (f_X5_record_J57 g14)) fuel0 0 g (by omega) (by have := fuel_gt; omega)
    have e2 : g1 0 2 = nI 4 := by rw [a1 0 (by decide)]; exact r2
    obtain ⟨g', e, b1, b2, b3, b4⟩ := M_recT (g := m_up g1 0 2 (nI 3)) (τ := τ) (h := 3) (by omega) (hist' := hist) (fun k hk => by rw [mu_o (by decide), a1 1 (by decide)]; exact r1 k hk) (by rw [mu_eq]) (fun i hi k hk => by
      rw [mu_o (by decide), a3 _ (by omega) (by omega), show 873 * (3 - 1 - i) + k + 873 = 873 * (4 - 1 - i) + k from by omega]
      exact r3 i (by omega) k hk)
    refine ⟨g', ?_, fun q q2 q0 => by rw [b1 q q2 q0, mu_q q0, a1 q q2], fun k hk => by rw [b2 k hk, mu_k hk, a1 0 (by decide)]⟩
    refine Eq.trans e1 ?_
    rw [lt1, e2, z1, pk_sub (by omega)]
    exact e
  · rw [if_neg (fun z => h4 (by rw [z4] at z; exact (nI_eq (by omega) (by omega)).mp z))]
    obtain ⟨g', e, b1, b2, b3, b4⟩ := M_recT (h := hn) (by omega) r1 r2 r3
    exact ⟨g', e, b1, b2⟩
theorem M_done {m : Nat} {τ' : Row} (hR : RM g (τ', hn, hist, kf, sn, tn, txt, rf)) (hh : hn ≤ 4) (h6 : ∀ k, k < 873 → g 6 k = nI (τ k)) (h10 : g 0 10 = nI m) : ∃ g', f_X5_perform_L127 (fun g26 => (f_X5_record  g26).bind fun g27 => ((f_X5_copies 6 1 g27).bind fun g28 => (some ((g28 0 10), g28)))) fuel0 0 g = some (nI m, g') ∧ RM g' (τ', min 4 (hn + 1), push τ hist, kf, sn, tn, txt, rf) := by
  obtain ⟨g1, e1, a1, _, a3⟩ := lp_swap (fun g26 => (f_X5_record  g26).bind fun g27 => ((f_X5_copies 6 1 g27).bind fun g28 => (some ((g28 0 10), g28)))) fuel0 0 g (by omega) (by have := fuel_gt; omega)
  have R1 : RM g1 (τ, hn, hist, kf, sn, tn, txt, rf) := RM_fr hR (fun k hk => by rw [(a3 k (by omega) hk).1]; exact h6 k hk) (a1 2 (by decide) (by decide)) (a1 3 (by decide) (by decide)) (a1 4 (by decide) (by decide)) (fun k _ _ _ => by rw [a1 0 (by decide) (by decide)]) (by rw [a1 0 (by decide) (by decide)]; exact hR.2.2.2.2.2.1)
  obtain ⟨g2, e2, R2⟩ := M_record R1 hh
  obtain ⟨g2', e2', c1, c2⟩ := M_recordF R1 hh
  have : g2' = g2 := Option.some.inj (e2'.symm.trans e2)
  subst this
  obtain ⟨g3, e3, d1, d3⟩ := M_copies g2' (o1 := 6) (o2 := 1) (by decide)
  refine ⟨g3, ?_, RM_row R2 (fun k hk => ?_) d1⟩
  · refine Eq.trans e1 ?_
    rw [e2, bnd_some, e3, bnd_some, d1 0 (by decide), c2 10 (by decide), a1 0 (by decide) (by decide), h10]
  · rw [d3 k hk, c1 6 (by decide) (by decide), (a3 k (by omega) hk).2]
    exact hR.1 k hk
theorem M_perform (hR : RM g (τ, hn, hist, kf, sn, tn, txt, rf)) (hI : SI (τ, hn, hist, kf, sn, tn, txt, rf)) : ∃ g', f_X5_perform g = some ((o_perform (τ, hn, hist, kf, sn, tn, txt, rf)).1, g') ∧ RM g' (o_perform (τ, hn, hist, kf, sn, tn, txt, rf)).2 := by
  obtain ⟨i1, i2, i3, i4, i5, i6⟩ := hI
  have hT : TM g tn txt := ⟨hR.2.2.2.2.2.2.1, i5, hR.2.2.2.2.2.2.2.1, i6⟩
  obtain ⟨g2, e2, f1, f2, k1, k2⟩ := M_read hT
  have hR2 : RM g2 (τ, hn, hist, kf, sn, tn, txt, rf) := RM_fr hR (fun k hk => by rw [f1 1 (by decide) (by decide)]; exact hR.1 k hk) (f1 2 (by decide) (by decide)) (f1 3 (by decide) (by decide)) (f1 4 (by decide) (by decide)) (fun k _ a b => f2 k a b) (by rw [f2 5 (by decide) (by decide)]; exact hR.2.2.2.2.2.1)
  unfold f_X5_perform
  rw [e2, bd2_some]
  cases hr : (P_run (tx tn txt) tn 20 0).1 with
  | false =>
    rw [o_perf_no hr, if_neg (c := false = true) (by decide), k1 hr]
    exact ⟨g2, rfl, hR2⟩
  | true =>
    obtain ⟨m20, h10, hO⟩ := k2 hr
    rw [if_pos (c := true = true) rfl]
    obtain ⟨g4, e4, c1, c3⟩ := M_copies g2 (o1 := 1) (o2 := 6) (by decide)
    rw [e4, bnd_some, lt1]
    generalize hm : (P_run (tx tn txt) tn 20 0).2 = m at m20 h10 hO
    have hM5 : MR (m_up g4 0 5 1) τ := fun k hk => by rw [mu_o (by decide), c1 1 (by decide)]; exact hR2.1 k hk
    have hO5 : OSM (tx tn txt) (m_up g4 0 5 1) m := OSM_fr hO (fun k _ => by rw [mu_o (by decide), c1 5 (by decide)])
    have h105 : (m_up g4 0 5 1) 0 10 = nI m := by rw [mu_k (by decide), c1 0 (by decide)]; exact h10
    obtain ⟨g6, v6, F6, p1, p2⟩ := lp_M_perf m20 (fun x15 x16 g17 => lt1 (m_up g17 0 5 0) fun g18 => ((if 0 ≤ x15 then f_X5_perform_L127 (fun g26 => (f_X5_record  g26).bind fun g27 => ((f_X5_copies 6 1 g27).bind fun g28 => (some ((g28 0 10), g28)))) fuel0 0 g18 else (if x15 = (-5) then f_X5_perform_L127 (fun g30 => (f_X5_record  g30).bind fun g31 => ((f_X5_copies 6 1 g31).bind fun g32 => (some ((g32 0 10), g32)))) fuel0 0 g18 else (f_X5_copies 6 1 g18).bind fun g33 => (lt1 (m_up g33 0 11 (x16 - 1)) fun g34 => (lt1 (m_up g34 0 12 x15) fun g35 => ((rd g35 5 155 ((5 * (g35 0 11)) + 4)).bind fun x36 => (lt1 (m_up g35 0 13 x36) fun g37 => (some ((-4), g37)))))))))) m 0 fuel0 _ τ 0 (by omega) (by have := fuel_gt; omega) (by decide) (mu_eq ..) hM5 i1 hO5 h105
    have fr : ∀ q, q ≠ 0 → q ≠ 1 → q ≠ 6 → g6 q = g2 q := fun q a b c => by rw [F6 q b, mu_q a, c1 q c]
    have fr0 : ∀ k, k ≠ 5 → g6 0 k = g2 0 k := fun k hk => by rw [F6 0 (by decide), mu_k hk, c1 0 (by decide)]
    have fr6 : ∀ k, k < 873 → g6 6 k = nI (τ k) := fun k hk => by rw [F6 6 (by decide), mu_o (by decide), c3 k hk]; exact hR2.1 k hk
    cases hX : (X_go (tx tn txt) m 0 τ).1 with
    | none =>
      obtain ⟨e6, hv, hM6⟩ := p1 hX
      have R18 : RM (m_up g6 0 5 0) ((X_go (tx tn txt) m 0 τ).2, hn, hist, kf, sn, tn, txt, rf) := RM_fr hR2 (fun k hk => by rw [mu_o (by decide)]; exact hM6 k hk) (by rw [mu_q (by decide)]; exact fr 2 (by decide) (by decide) (by decide)) (by rw [mu_q (by decide)]; exact fr 3 (by decide) (by decide) (by decide)) (by rw [mu_q (by decide)]; exact fr 4 (by decide) (by decide) (by decide)) (fun k a _ _ => by rw [mu_k a]; exact fr0 k a) (mu_eq ..)
      obtain ⟨g', e', R'⟩ := M_done R18 i2 (τ := τ) (m := m) (fun k hk => by rw [mu_o (by decide)]; exact fr6 k hk) (by rw [mu_k (by decide), fr0 10 (by decide)]; exact h10)
      rw [o_perf_ok hr (by rw [hm]; exact hX), hm]
      refine ⟨g', Eq.trans e6 ?_, R'⟩
      dsimp only
      rw [lt1]
      rcases (isErr_iff v6).mp hv with h | h
      · rw [if_pos h]; exact e'
      · by_cases h0 : 0 ≤ v6
        · rw [if_pos h0]; exact e'
        · rw [if_neg h0, if_pos h]; exact e'
    | some q =>
      obtain ⟨e6, hv, hq⟩ := p2 q hX
      have h1 : ¬ 0 ≤ q.2 := fun z => by rw [(isErr_iff q.2).mpr (Or.inl z)] at hv; exact absurd hv (by decide)
      have h2 : ¬ q.2 = -5 := fun z => by rw [(isErr_iff q.2).mpr (Or.inr z)] at hv; exact absurd hv (by decide)
      rw [o_perf_rf hr (q := q) (by rw [hm]; exact hX)]
      obtain ⟨g7, e7, d1, d3⟩ := M_copies (m_up g6 0 5 0) (o1 := 6) (o2 := 1) (by decide)
      have pl : g7 5 (5 * q.1 + 4) = nI (st (tx tn txt) q.1) := by
        rw [d1 5 (by decide), mu_o (by decide), fr 5 (by decide) (by decide) (by decide)]
        exact (hO q.1 hq).2.1
      refine ⟨m_up (m_up (m_up g7 0 11 (nI q.1)) 0 12 q.2) 0 13 (nI (st (tx tn txt) q.1)), Eq.trans e6 ?_, ?_⟩
      · dsimp only
        rw [lt1, if_neg h1, if_neg h2, e7, bnd_some, lt1, lt1, z1, pk_sub (by omega), show q.1 + 1 - 1 = q.1 from by omega, mu_k (show (11 : Nat) ≠ 12 by decide), mu_eq, z5, pk_mul, z4, nI_add, rd_nI (by omega) (by omega), bnd_some, mu_o (show (5 : Nat) ≠ 0 by decide), mu_o (show (5 : Nat) ≠ 0 by decide), pl, lt1]
      · have x0 : ∀ k, k ≠ 5 → k < 11 → (m_up (m_up (m_up g7 0 11 (nI q.1)) 0 12 q.2) 0 13 (nI (st (tx tn txt) q.1))) 0 k = g2 0 k := fun k a b => by rw [mu_k (by omega), mu_k (by omega), mu_k (by omega), d1 0 (by decide), mu_k a, fr0 k a]
        have x : ∀ p, p ≠ 0 → p ≠ 1 → p ≠ 6 → (m_up (m_up (m_up g7 0 11 (nI q.1)) 0 12 q.2) 0 13 (nI (st (tx tn txt) q.1))) p = g2 p := fun p a b c => by rw [mu_q a, mu_q a, mu_q a, d1 p b, mu_q a, fr p a b c]
        obtain ⟨r1, r2, r3, r4, r5, r6, r7, r8, r9⟩ := hR2
        refine ⟨fun k hk => ?_, by rw [x0 2 (by decide) (by decide)]; exact r2, by rw [x 2 (by decide) (by decide) (by decide)]; exact r3, by rw [x0 4 (by decide) (by decide)]; exact r4, by rw [x 3 (by decide) (by decide) (by decide)]; exact r5, ?_, by rw [x0 6 (by decide) (by decide)]; exact r7, by rw [x 4 (by decide) (by decide) (by decide)]; exact r8, ?_, by omega, ?_, ?_⟩
        · rw [mu_o (by decide), mu_o (by decide), mu_o (by decide), d3 k hk, mu_o (by decide)]
          exact fr6 k hk
        · rw [mu_k (by decide), mu_k (by decide), mu_k (by decide), d1 0 (by decide), mu_eq]
        · rw [mu_k (by decide), mu_k (by decide), mu_eq]
        · rw [mu_k (by decide), mu_eq]
        · rw [mu_eq]
end MPERF
