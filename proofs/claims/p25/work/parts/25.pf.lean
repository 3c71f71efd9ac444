/-! rows stay in their bounds -/
theorem RI_rup {τ : Row} (h : RI τ) (k v : Nat) (h1 : k < 871 → v ≤ 999) (h2 : k < 6 → v ≤ 1) (h3 : 210 ≤ k → k < 213 → v < 64) (h4 : 12 ≤ k → k < 204 → k % 2 = 1 → v ≤ 163) (h5 : 213 ≤ k → k < 789 → k % 2 = 0 → v ≤ 163) (h6 : 789 ≤ k → k < 853 → v ≤ 163) (h7 : k = 870 → 1 ≤ v ∧ v ≤ 6) (h8 : k = 869 → v ≤ 16) : RI (rup τ k v) := by
  obtain ⟨b1, b2, b3, b4, b5, b6, b7, b8⟩ := h
  refine ⟨fun i hi => ?_, fun i hi => ?_, fun i hi => ?_, fun i hi => ?_, fun i hi => ?_, fun i hi hi2 => ?_, ?_, ?_⟩
  · have := b1 i hi; unfold rup; split <;> omega
  · have := b2 i hi; unfold rup; split <;> omega
  · have := b3 i hi; unfold rup; split <;> omega
  · have := b4 i hi; unfold rup; split <;> omega
  · have := b5 i hi; unfold rup; split <;> omega
  · have := b6 i hi hi2; unfold rup; split <;> omega
  · unfold rup; split <;> omega
  · unfold rup; split <;> omega
theorem prR_ne {τ : Row} {p b k : Nat} (h1 : k ≠ 204 + p) (h2 : k ≠ 210 + p) (h3 : ¬ (789 + 16 * p ≤ k ∧ k < 789 + 16 * p + 16)) (h4 : ¬ (213 + 192 * p ≤ k ∧ k < 213 + 192 * p + 192)) : prR τ p b k = τ k := by
  unfold prR; rw [if_neg h1, if_neg h2, if_neg h3, if_neg h4]
theorem RI_prR {τ : Row} (h : RI τ) {p b : Nat} (hp : p < 3) (hb : b ≤ 999) : RI (prR τ p b) := by
  obtain ⟨b1, b2, b3, b4, b5, b6, b7, b8⟩ := h
  refine ⟨fun i hi => ?_, fun i hi => ?_, fun i hi => ?_, fun i hi => ?_, fun i hi => ?_, fun i hi hi2 => ?_, ?_, ?_⟩
  · have := b1 i hi; unfold prR; repeat' split
    all_goals omega
  · have := b2 i hi; unfold prR; repeat' split
    all_goals omega
  · have := b3 i hi; unfold prR; repeat' split
    all_goals omega
  · have := b4 i hi; unfold prR; repeat' split
    all_goals omega
  · have := b5 i hi; unfold prR; repeat' split
    all_goals omega
  · have := b6 i hi hi2; unfold prR; repeat' split
    all_goals omega
  · unfold prR; repeat' split
    all_goals omega
  · unfold prR; repeat' split
    all_goals omega
theorem RI_telR {τ : Row} (h : RI τ) {p a : Nat} (hp : p < 3) (ha : a < 6) : RI (telR τ p a) := by
  obtain ⟨b1, b2, b3, b4, b5, b6, b7, b8⟩ := h
  refine ⟨fun i hi => ?_, fun i hi => ?_, fun i hi => ?_, fun i hi => ?_, fun i hi => ?_, fun i hi hi2 => ?_, ?_, ?_⟩
  · unfold telR; split
    · exact b1 _ (by omega)
    · exact b1 i hi
  · have := b2 i hi; unfold telR; split <;> omega
  · have := b3 i hi; unfold telR; split <;> omega
  · have := b4 i hi; unfold telR; split <;> omega
  · have := b5 i hi; unfold telR; split
    · have := b4 (16 * a + (i - 96 * p - 16 * a)) (by omega)
      rw [show 214 + 2 * i - 201 - 192 * p = 13 + 2 * (16 * a + (i - 96 * p - 16 * a)) from by omega]
      exact this
    · omega
  · have := b6 i hi hi2; unfold telR; split <;> omega
  · unfold telR; split <;> omega
  · unfold telR; split <;> omega
theorem RI_trR {τ : Row} (h : RI τ) {s : Nat} (hs : s ≤ 16) : RI (trR τ s) := by
  obtain ⟨b1, b2, b3, b4, b5, b6, b7, b8⟩ := h
  refine ⟨fun i hi => ?_, fun i hi => ?_, fun i hi => ?_, fun i hi => ?_, fun i hi => ?_, fun i hi hi2 => ?_, ?_, ?_⟩
  · have := b1 i hi; unfold trR; repeat' split
    all_goals omega
  · have := b2 i hi; unfold trR; repeat' split
    all_goals omega
  · have := b3 i hi; unfold trR; repeat' split
    all_goals omega
  · have := b4 i hi; unfold trR; repeat' split
    all_goals omega
  · have := b5 i hi; unfold trR; repeat' split
    all_goals omega
  · have := b6 i hi hi2; unfold trR; repeat' split
    all_goals omega
  · unfold trR; repeat' split
    all_goals omega
  · unfold trR; repeat' split
    all_goals omega
theorem RI_rfR {τ : Row} (h : RI τ) {p a c : Nat} (hp : p < 3) (ha : a < 6) (hc : c = 871 ∨ c = 872) : RI (rfR τ p a c) := by
  have h1 := h.1 (207 + p) (by omega)
  have h2 := h.1 (6 + a) (by omega)
  unfold rfR
  refine RI_rup (RI_rup h _ _ ?_ ?_ ?_ ?_ ?_ ?_ ?_ ?_) _ _ ?_ ?_ ?_ ?_ ?_ ?_ ?_ ?_
  all_goals omega
set_option maxRecDepth 100000 in
theorem add_lt : ∀ k, k < 64 → ∀ a, a < 6 → hs k a = false → k + 2 ^ a < 64 := by decide +kernel
set_option maxRecDepth 100000 in
theorem add_hs : ∀ k, k < 64 → ∀ a, a < 6 → hs k a = false → ∀ i, i < 6 → hs (k + 2 ^ a) i = (hs k i || i == a) := by decide +kernel
theorem RI_pmR {τ : Row} (h : RI τ) {p a : Nat} (hp : p < 3) (ha : a < 6) (hb : hs (τ (210 + p)) a = false) : RI (pmR τ p a) := by
  have h1 := h.1 (204 + p) (by omega)
  have h2 := add_lt _ (h.2.2.1 p hp) a ha hb
  unfold pmR
  refine RI_rup (RI_telR (RI_rup h _ _ ?_ ?_ ?_ ?_ ?_ ?_ ?_ ?_) hp ha) _ _ ?_ ?_ ?_ ?_ ?_ ?_ ?_ ?_
  all_goals omega
theorem bdN_le {τ : Row} (h : RI τ) {p s set : Nat} (hp : p < 3) (hs1 : 1 ≤ s) (hs2 : s ≤ 16) : ∀ n, n ≤ 6 → (bdN τ p s set n).2 ≤ 163 := by
  intro n
  induction n with
  | zero => intro _; exact Nat.zero_le _
  | succ n ih =>
    intro hn
    have h2 := ih (by omega)
    have h3 := h.2.2.2.2.1 (96 * p + 16 * n + s - 1) (by omega)
    rw [bdN]
    split
    · exact h3
    · exact h2
theorem bound_le {τ : Row} (h : RI τ) {p s : Nat} (hp : p < 3) (hs1 : 1 ≤ s) (hs2 : s ≤ 16) : bound τ p s ≤ 163 := bdN_le h hp hs1 hs2 6 (by omega)
theorem RI_vtR {τ : Row} (h : RI τ) {p s a : Nat} (hp : p < 3) (hs1 : 1 ≤ s) (hs2 : s ≤ 16) (ha : a < 6) : RI (vtR τ p s a) := by
  have h1 := h.1 (204 + p) (by omega)
  have h2 := h.2.2.2.2.2.1 (789 + (16 * p + s - 1)) (by omega) (by omega)
  unfold vtR
  refine RI_rup (RI_rup (RI_rup h _ _ ?_ ?_ ?_ ?_ ?_ ?_ ?_ ?_) _ _ ?_ ?_ ?_ ?_ ?_ ?_ ?_ ?_) _ _ ?_ ?_ ?_ ?_ ?_ ?_ ?_ ?_
  all_goals omega
/-! what an act makes of a row stays in the bounds -/
theorem RI_turn {τ : Row} (h : RI τ) (a : Int32) (up : Bool) : RI (s_turn a up τ).2 := by
  unfold s_turn
  cases hv : f_X4_isAcceptor a with
  | false => exact h
  | true =>
    obtain ⟨k, hk, rfl⟩ := isA_of hv
    rw [if_pos rfl, nI_clamp (by omega)]
    unfold s_turnN
    split
    · exact h
    · have h1 : (if up then 1 else 0) ≤ 1 := by cases up <;> decide
      refine RI_rup h _ _ ?_ ?_ ?_ ?_ ?_ ?_ ?_ ?_
      all_goals omega
theorem RI_second {τ : Row} (h : RI τ) (a : Int32) : RI (s_second a τ).2 := by
  unfold s_second
  cases hv : f_X4_isSize a with
  | false => exact h
  | true =>
    obtain ⟨k, hk1, hk, rfl⟩ := isK_of hv
    rw [if_pos rfl, nI_clamp (by omega)]
    repeat' split
    · exact h
    · refine RI_rup h _ _ ?_ ?_ ?_ ?_ ?_ ?_ ?_ ?_
      all_goals omega
    · exact h
theorem RI_prepare {τ : Row} (h : RI τ) (a : Int32) : RI (s_prepare a τ).2 := by
  unfold s_prepare
  cases hv : f_X4_isProposer a with
  | false => exact h
  | true =>
    obtain ⟨k, hk, rfl⟩ := isP_of hv
    rw [if_pos rfl, nI_clamp (by omega)]
    unfold s_prepareN
    split
    · exact RI_prR h hk (by assumption)
    · exact h
theorem RI_promise {τ : Row} (h : RI τ) (p a : Int32) : RI (s_promise p a τ).2 := by
  unfold s_promise
  split
  · rename_i hv
    rw [Bool.and_eq_true] at hv
    obtain ⟨k, hk, rfl⟩ := isP_of hv.1
    obtain ⟨j, hj, rfl⟩ := isA_of hv.2
    rw [nI_clamp (by omega), nI_clamp (by omega)]
    unfold s_promiseN
    repeat' split
    · exact h
    · exact h
    · exact RI_rfR h hk hj (Or.inl rfl)
    · rename_i q _
      exact RI_pmR h hk hj (by simpa using q)
  · exact h
theorem RI_propose {τ : Row} (h : RI τ) (p s v : Int32) : RI (s_propose p s v τ).2 := by
  unfold s_propose
  split
  · rename_i hv
    rw [Bool.and_eq_true] at hv
    obtain ⟨k, hk, rfl⟩ := isP_of hv.1
    obtain ⟨j, hj1, hj, rfl⟩ := isS_of hv.2
    split
    · rename_i hw
      obtain ⟨w, w1, w2, w3, rfl⟩ := isV_of hw
      rw [nI_clamp (by omega), nI_clamp (by omega), nI_clamp (by omega)]
      unfold s_proposeN
      split
      · have h1 := bound_le h hk hj1 hj
        have h2 : (if bound τ k j = 0 then w else bound τ k j) ≤ 163 := by split <;> omega
        generalize (if bound τ k j = 0 then w else bound τ k j) = z at h2
        refine RI_rup h _ _ ?_ ?_ ?_ ?_ ?_ ?_ ?_ ?_
        all_goals omega
      · exact h
    · exact h
  · exact h
theorem RI_vote {τ : Row} (h : RI τ) (p s a : Int32) : RI (s_vote p s a τ).2 := by
  unfold s_vote
  split
  · rename_i hv
    rw [Bool.and_eq_true, Bool.and_eq_true] at hv
    obtain ⟨k, hk, rfl⟩ := isP_of hv.1
    obtain ⟨j, hj1, hj, rfl⟩ := isS_of hv.2.1
    obtain ⟨i, hi, rfl⟩ := isA_of hv.2.2
    rw [nI_clamp (by omega), nI_clamp (by omega), nI_clamp (by omega)]
    have h1 := RI_vtR h hk hj1 hj hi
    have h2 := h.1 (204 + k) (by omega)
    have h3 := h.2.2.2.2.2.1 (789 + (16 * k + j - 1)) (by omega) (by omega)
    unfold s_voteN
    split
    · split
      · exact h
      · split
        · exact RI_rfR h hk hi (Or.inr rfl)
        · dsimp only
          split
          · refine RI_rup (RI_rup h1 _ _ ?_ ?_ ?_ ?_ ?_ ?_ ?_ ?_) _ _ ?_ ?_ ?_ ?_ ?_ ?_ ?_ ?_
            all_goals omega
          · exact h1
    · exact h
  · exact h
theorem RI_trim {τ : Row} (h : RI τ) (s : Int32) : RI (s_trim s τ).2 := by
  unfold s_trim
  split
  · rename_i hv
    obtain ⟨j, hj1, hj, rfl⟩ := isS_of hv
    rw [nI_clamp (by omega)]
    unfold s_trimN
    repeat' split
    · exact h
    · exact h
    · exact RI_trR h hj
  · exact h
