/-! an error leaves the row -/
def NP (τ : Row) (x : Int32 × Row) : Prop := x.1 < 0 → x.2 = τ
theorem NP_if {τ : Row} {c : Prop} [Decidable c] {a b : Int32 × Row} (h1 : c → NP τ a) (h2 : ¬ c → NP τ b) : NP τ (if c then a else b) := by
  by_cases h : c
  · rw [if_pos h]; exact h1 h
  · rw [if_neg h]; exact h2 h
theorem NP_rf {τ : Row} {x : Int32} : NP τ (x, τ) := fun _ => rfl
theorem NP_nI {τ ρ : Row} {x : Nat} (h : x < 2 ^ 31) : NP τ (nI x, ρ) := fun q => absurd q (ltN h)
theorem NP_turn {τ : Row} (a : Int32) (up : Bool) : NP τ (s_turn a up τ) := by
  unfold s_turn s_turnN
  exact NP_if (fun _ => NP_if (fun _ => NP_rf) (fun _ => NP_nI (Nat.lt_of_le_of_lt (pc_le _) (by decide)))) (fun _ => NP_rf)
theorem NP_second {τ : Row} (h : RI τ) (a : Int32) : NP τ (s_second a τ) := by
  have b := h.1 870 (by omega)
  unfold s_second
  exact NP_if (fun _ => NP_if (fun _ => NP_if (fun _ => NP_rf) (fun _ => NP_nI (by omega))) (fun _ => NP_rf)) (fun _ => NP_rf)
theorem NP_prepare {τ : Row} (a : Int32) : NP τ (s_prepare a τ) := by
  unfold s_prepare s_prepareN
  exact NP_if (fun _ => NP_if (fun q => NP_nI (by omega)) (fun _ => NP_rf)) (fun _ => NP_rf)
theorem NP_promise {τ : Row} (h : RI τ) (p a : Int32) : NP τ (s_promise p a τ) := by
  unfold s_promise
  refine NP_if (fun q => ?_) (fun _ => NP_rf)
  obtain ⟨q1, q2⟩ := Bool.and_eq_true_iff.mp q
  obtain ⟨p, hp, rfl⟩ := isP_of q1
  obtain ⟨a, ha, rfl⟩ := isA_of q2
  rw [nI_clamp (by omega), nI_clamp (by omega)]
  have b := h.1 (6 + a) (by omega)
  unfold s_promiseN
  exact NP_if (fun _ => NP_rf) (fun _ => NP_if (fun _ => NP_rf) (fun _ => NP_if (fun _ => NP_nI (by omega)) (fun _ => NP_nI (Nat.lt_of_le_of_lt (cntN_le _ 16) (by decide)))))
theorem NP_propose {τ : Row} (h : RI τ) (p s v : Int32) : NP τ (s_propose p s v τ) := by
  unfold s_propose
  refine NP_if (fun q => NP_if (fun q3 => ?_) (fun _ => NP_rf)) (fun _ => NP_rf)
  obtain ⟨q1, q2⟩ := Bool.and_eq_true_iff.mp q
  obtain ⟨p, hp, rfl⟩ := isP_of q1
  obtain ⟨s, hs1, hs2, rfl⟩ := isS_of q2
  obtain ⟨v, v1, v2, v3, rfl⟩ := isV_of q3
  rw [nI_clamp (by omega), nI_clamp (by omega), nI_clamp (by omega)]
  have b := bound_le h hp hs1 hs2
  unfold s_proposeN
  refine NP_if (fun _ => NP_nI ?_) (fun _ => NP_rf)
  split <;> omega
theorem NP_vote {τ : Row} (h : RI τ) (p s a : Int32) : NP τ (s_vote p s a τ) := by
  unfold s_vote
  refine NP_if (fun q => ?_) (fun _ => NP_rf)
  obtain ⟨q1, q2⟩ := Bool.and_eq_true_iff.mp q
  obtain ⟨q2, q3⟩ := Bool.and_eq_true_iff.mp q2
  obtain ⟨p, hp, rfl⟩ := isP_of q1
  obtain ⟨s, hs1, hs2, rfl⟩ := isS_of q2
  obtain ⟨a, ha, rfl⟩ := isA_of q3
  rw [nI_clamp (by omega), nI_clamp (by omega), nI_clamp (by omega)]
  have b := h.1 (6 + a) (by omega)
  unfold s_voteN
  exact NP_if (fun _ => NP_if (fun _ => NP_rf) (fun _ => NP_if (fun _ => NP_nI (by omega)) (fun _ => NP_nI (Nat.lt_of_le_of_lt (cntN_le _ 6) (by decide))))) (fun _ => NP_rf)
theorem allN_le (τ : Row) (s : Nat) (hs : s ≤ 16) : ∀ n, allN τ s n ≤ 16 * n := by
  intro n
  induction n with
  | zero => exact Nat.le_refl _
  | succ n ih =>
    rw [allN]
    have : votesN τ n s ≤ s := cntN_le _ s
    omega
theorem NP_trim {τ : Row} (s : Int32) : NP τ (s_trim s τ) := by
  unfold s_trim
  refine NP_if (fun q => ?_) (fun _ => NP_rf)
  obtain ⟨s, hs1, hs2, rfl⟩ := isS_of q
  rw [nI_clamp (by omega)]
  have := allN_le τ s hs2 6
  unfold s_trimN
  exact NP_if (fun _ => NP_rf) (fun _ => NP_if (fun _ => NP_rf) (fun _ => NP_nI (by omega)))
theorem NP_ord {T : Nat → Nat} {e : Nat} {τ : Row} (h : RI τ) : NP τ (s_ord T e τ) := by
  unfold s_ord
  exact NP_if (fun _ => NP_vote h _ _ _) (fun _ => NP_if (fun _ => NP_prepare _) (fun _ => NP_if (fun _ => NP_propose h _ _ _) (fun _ => NP_if (fun _ => NP_promise h _ _) (fun _ => NP_if (fun _ => NP_turn _ _) (fun _ => NP_turn _ _)))))
/-! positions go on -/
theorem P_dg_ge {T : Nat → Nat} {m i b : Nat} {k : Nat → Nat → PR} (h : ∀ v, (k v (i + 1)).1 = true → b ≤ (k v (i + 1)).2.1) : (P_dg T m i k).1 = true → b ≤ (P_dg T m i k).2.1 := by
  unfold P_dg
  by_cases hd : 48 ≤ T i ∧ T i < 48 + m
  · rw [if_pos hd]; exact h _
  · rw [if_neg hd]; exact fun q => absurd q (by show ¬ (false = true); decide)
theorem P_cm_ge {T : Nat → Nat} {i b : Nat} {k : Nat → PR} (h : (k (i + 1)).1 = true → b ≤ (k (i + 1)).2.1) : (P_cm T i k).1 = true → b ≤ (P_cm T i k).2.1 := by
  unfold P_cm
  by_cases hd : T i = 44
  · rw [if_pos hd]; exact h
  · rw [if_neg hd]; exact fun q => absurd q (by show ¬ (false = true); decide)
theorem P_nm_ge {T : Nat → Nat} {i b : Nat} {k : Nat → Nat → PR} (h : ∀ v j, i ≤ j → (k v j).1 = true → b ≤ (k v j).2.1) : (P_nm T i k).1 = true → b ≤ (P_nm T i k).2.1 := by
  unfold P_nm
  by_cases hd : nmL T i = 0
  · rw [if_pos hd]; exact fun q => absurd q (by show ¬ (false = true); decide)
  · rw [if_neg hd]; exact h _ _ (Nat.le_add_right _ _)
theorem P_ord_ge {T : Nat → Nat} {i : Nat} : (P_ord T i).1 = true → i + 2 ≤ (P_ord T i).2.1 := by
  unfold P_ord
  by_cases e1 : T i = 110
  · rw [if_pos e1]
    exact P_dg_ge (fun v _ => Nat.le_refl _)
  rw [if_neg e1]
  by_cases e2 : T i = 121
  · rw [if_pos e2]
    exact P_dg_ge (fun v => P_cm_ge (P_dg_ge (fun v _ => by show i + 2 ≤ i + 1 + 1 + 1 + 1; omega)))
  rw [if_neg e2]
  by_cases e3 : T i = 118
  · rw [if_pos e3]
    exact P_dg_ge (fun v => P_cm_ge (P_nm_ge (fun v j hj => P_cm_ge (P_nm_ge (fun v j2 hj2 _ => by show i + 2 ≤ j2; omega)))))
  rw [if_neg e3]
  by_cases e4 : T i = 97
  · rw [if_pos e4]
    exact P_dg_ge (fun v => P_cm_ge (P_nm_ge (fun v j hj => P_cm_ge (P_dg_ge (fun v _ => by show i + 2 ≤ j + 1 + 1; omega)))))
  rw [if_neg e4]
  by_cases e5 : T i = 100 ∨ T i = 117
  · rw [if_pos e5]
    exact P_dg_ge (fun v _ => Nat.le_refl _)
  · rw [if_neg e5]; exact fun q => absurd q (by show ¬ (false = true); decide)
theorem P_ord_end {T : Nat → Nat} {i : Nat} (h : T i = 0) : P_ord T i = p_no i := by
  unfold P_ord
  rw [h]
  rfl
theorem tx_hi {tn : Nat} {txt : Nat → Nat} {i : Nat} (h : tn ≤ i) : tx tn txt i = 0 := if_neg (by omega)
theorem tx_lo {tn : Nat} {txt : Nat → Nat} {i : Nat} (h : i < tn) : tx tn txt i = txt i := if_pos h
def OSM (T : Nat → Nat) (g : Mem) (m : Nat) : Prop := ∀ k, k < m → g 5 (5 * k) = nI (T (st T k)) ∧ g 5 (5 * k + 4) = nI (st T k) ∧ NM g k (wd (T (st T k))) (P_ord T (st T k)) ∧ (P_ord T (st T k)).1 = true ∧ st T k ≤ 60
theorem OSM_fr {T : Nat → Nat} {g g' : Mem} {m : Nat} (h : OSM T g m) (e : ∀ k, k < 5 * m → g' 5 k = g 5 k) : OSM T g' m := by
  intro k hk
  obtain ⟨o1, o2, ⟨n1, n2, n3⟩, o4⟩ := h k hk
  exact ⟨(e _ (by omega)).trans o1, (e _ (by omega)).trans o2, ⟨(e _ (by omega)).trans n1, fun z => (e _ (by omega)).trans (n2 z), fun z => (e _ (by omega)).trans (n3 z)⟩, o4⟩
theorem lp_M_read {tn : Nat} {txt : Nat → Nat} : ∀ n e N g, e + n = 20 → n + 2 < N → TM g tn txt → g 0 8 = nI (st (tx tn txt) e) → g 0 10 = nI e → OSM (tx tn txt) g e → st (tx tn txt) e ≤ tn → 3 * e ≤ st (tx tn txt) e → ∃ g', f_X5_isRead_L12 (fun g17 => some (true, g17)) N 1 g = some ((P_run (tx tn txt) tn n e).1, g') ∧ (∀ q, q ≠ 0 → q ≠ 5 → g' q = g q) ∧ (∀ k, k ≠ 8 → k ≠ 10 → g' 0 k = g 0 k) ∧ ((P_run (tx tn txt) tn n e).1 = false → g' 0 8 = nI (P_run (tx tn txt) tn n e).2) ∧ ((P_run (tx tn txt) tn n e).1 = true → (P_run (tx tn txt) tn n e).2 ≤ 20 ∧ g' 0 10 = nI (P_run (tx tn txt) tn n e).2 ∧ OSM (tx tn txt) g' (P_run (tx tn txt) tn n e).2) := by
  intro n
  induction n with
  | zero =>
    intro e N g he hN hT h8 h10 hO hst h3
    obtain ⟨N, rfl⟩ : ∃ M, N = M + 1 := ⟨N - 1, by omega⟩
    have h60 := hT.2.1
    obtain ⟨g5, e5, f1, f2, f3, f4, f5⟩ := M_ord hT (e := e) (by omega) hst h8 h10
    have hend : P_ord (tx tn txt) (st (tx tn txt) e) = p_no (st (tx tn txt) e) := P_ord_end (tx_hi (by omega))
    rw [hend] at e5 f4
    rw [f_X5_isRead_L12, if_neg (show ¬ (1 : Int32) = 0 by decide), e5, bd2_some, P_run]
    exact ⟨g5, rfl, f1, fun k a _ => f2 k a, fun _ => f4, fun q => absurd q (nf _)⟩
  | succ n ih =>
    intro e N g he hN hT h8 h10 hO hst h3
    obtain ⟨N, rfl⟩ : ∃ M, N = M + 1 := ⟨N - 1, by omega⟩
    have h60 := hT.2.1
    have hle := P_ord_le (txt := txt) hst
    obtain ⟨g5, e5, f1, f2, f3, f4, f5⟩ := M_ord hT (e := e) (by omega) hst h8 h10
    rw [f_X5_isRead_L12, if_neg (show ¬ (1 : Int32) = 0 by decide), e5, bd2_some, P_run]
    by_cases q1 : (P_ord (tx tn txt) (st (tx tn txt) e)).1 = true
    · obtain ⟨p1, p2, p3⟩ := f5 q1
      have hge := P_ord_ge q1
      have hT7 : TM (m_up g5 0 10 (nI (e + 1))) tn txt := TM_fr hT ((mu_k (by decide)).trans (f2 6 (by decide))) ((mu_q (by decide)).trans (f1 4 (by decide) (by decide)))
      have hO7 : OSM (tx tn txt) (m_up g5 0 10 (nI (e + 1))) (e + 1) := by
        intro k hk
        by_cases hk2 : k = e
        · subst hk2
          exact ⟨(mu_o (by decide)).trans p1, (mu_o (by decide)).trans p2, ⟨(mu_o (by decide)).trans p3.1, fun z => (mu_o (by decide)).trans (p3.2.1 z), fun z => (mu_o (by decide)).trans (p3.2.2 z)⟩, q1, by omega⟩
        · have := OSM_fr (m := e) (g' := m_up g5 0 10 (nI (e + 1))) hO (fun k hk => (mu_o (by decide)).trans (f3 k hk))
          exact this k (by omega)
      have h87 : (m_up g5 0 10 (nI (e + 1))) 0 8 = nI (P_ord (tx tn txt) (st (tx tn txt) e)).2.1 := (mu_k (by decide)).trans f4
      rw [if_pos q1, if_pos q1, f2 10 (by decide), h10, nI_1, lt1, hT7.1, h87]
      by_cases q2 : (P_ord (tx tn txt) (st (tx tn txt) e)).2.1 = tn
      · obtain ⟨N, rfl⟩ : ∃ M, N = M + 1 := ⟨N - 1, by omega⟩
        rw [if_pos (nI_le (by omega) (by omega)), if_pos q2, lt1, f_X5_isRead_L12, if_pos (c := (0 : Int32) = 0) rfl]
        refine ⟨_, rfl, fun q a b => by rw [mu_q a, mu_q a, f1 q a b], fun k a b => by rw [mu_k a, mu_k b, f2 k a], fun q => absurd q (by show ¬ (true = false); decide), fun _ => ⟨by show e + 1 ≤ 20; omega, (mu_k (by decide)).trans (mu_eq ..), OSM_fr hO7 (fun k _ => mu_o (by decide))⟩⟩
      · have hlt : (P_ord (tx tn txt) (st (tx tn txt) e)).2.1 < tn := by omega
        have hrd : rd (m_up g5 0 10 (nI (e + 1))) 4 60 (nI (P_ord (tx tn txt) (st (tx tn txt) e)).2.1) = some (nI (tx tn txt (P_ord (tx tn txt) (st (tx tn txt) e)).2.1)) := by
          rw [rd_nI (by omega) (by omega), hT7.2.2.1 _ hlt, tx_lo hlt]
        have hb := tx_lt hT.2.2.2 (P_ord (tx tn txt) (st (tx tn txt) e)).2.1
        rw [if_neg (nI_ge hlt (by omega)), if_neg q2, hrd, bnd_some]
        by_cases q3 : tx tn txt (P_ord (tx tn txt) (st (tx tn txt) e)).2.1 = 59
        · rw [if_pos (by rw [q3]; rfl), if_pos q3, lt1, nI_1]
          obtain ⟨g', e', k1, k2, k3⟩ := ih (e + 1) N (m_up (m_up g5 0 10 (nI (e + 1))) 0 8 (nI ((P_ord (tx tn txt) (st (tx tn txt) e)).2.1 + 1))) (by omega) (by omega) (TM_fr hT7 (mu_k (by decide)) (mu_q (by decide))) (mu_eq ..) ((mu_k (by decide)).trans (mu_eq ..)) (OSM_fr hO7 (fun k _ => mu_o (by decide))) (by show _ + 1 ≤ tn; omega) (by show 3 * (e + 1) ≤ _ + 1; omega)
          exact ⟨g', e', fun q a b => by rw [k1 q a b, mu_q a, mu_q a, f1 q a b], fun k a b => by rw [k2 k a b, mu_k a, mu_k b, f2 k a], k3⟩
        · rw [if_neg (fun z => q3 (by rw [z59] at z; exact (nI_eq (by omega) (by omega)).mp z)), if_neg q3]
          exact ⟨_, rfl, fun q a b => by rw [mu_q a, f1 q a b], fun k a b => by rw [mu_k b, f2 k a], fun _ => h87, fun q => absurd q (nf _)⟩
    · have hb : (P_ord (tx tn txt) (st (tx tn txt) e)).1 = false := by
        cases hh : (P_ord (tx tn txt) (st (tx tn txt) e)).1 with
        | false => rfl
        | true => exact absurd hh q1
      rw [hb, if_neg (c := false = true) (by decide), if_neg (c := false = true) (by decide)]
      exact ⟨g5, rfl, f1, fun k a _ => f2 k a, fun _ => f4, fun q => absurd q (nf _)⟩
theorem M_read {g : Mem} {tn : Nat} {txt : Nat → Nat} (hT : TM g tn txt) : ∃ g', f_X5_isRead g = some ((P_run (tx tn txt) tn 20 0).1, g') ∧ (∀ q, q ≠ 0 → q ≠ 5 → g' q = g q) ∧ (∀ k, k ≠ 8 → k ≠ 10 → g' 0 k = g 0 k) ∧ ((P_run (tx tn txt) tn 20 0).1 = false → g' 0 8 = nI (P_run (tx tn txt) tn 20 0).2) ∧ ((P_run (tx tn txt) tn 20 0).1 = true → (P_run (tx tn txt) tn 20 0).2 ≤ 20 ∧ g' 0 10 = nI (P_run (tx tn txt) tn 20 0).2 ∧ OSM (tx tn txt) g' (P_run (tx tn txt) tn 20 0).2) := by
  unfold f_X5_isRead
  rw [lt1, lt1]
  obtain ⟨g', e, h1, h2, h3⟩ := lp_M_read (tn := tn) (txt := txt) 20 0 fuel0 (m_up (m_up g 0 8 0) 0 10 0) (by omega) (by have := fuel_gt; omega) (TM_fr hT (by rw [mu_k (by decide), mu_k (by decide)]) (by rw [mu_q (by decide), mu_q (by decide)])) (by rw [mu_k (by decide), mu_eq]; rfl) (by rw [mu_eq]; rfl) (fun k hk => absurd hk (Nat.not_lt_zero k)) (Nat.zero_le _) (Nat.zero_le _)
  exact ⟨g', e, fun q a b => by rw [h1 q a b, mu_q a, mu_q a], fun k a b => by rw [h2 k a b, mu_k b, mu_k a], h3⟩
