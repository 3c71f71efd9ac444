/-! two more things that hold of every row: a slot has a chosen value just where it has a ballot by which it was chosen; only a proposer with a ballot has offers -/
def RJ (τ : Row) : Prop := (∀ s, s < 16 → (τ (837 + s) = 0 ↔ τ (853 + s) = 0)) ∧ ∀ p i, p < 3 → i < 16 → τ (789 + (16 * p + i)) ≠ 0 → τ (204 + p) ≠ 0
def RK (τ : Row) : Prop := RI τ ∧ RJ τ
theorem RJ_same {τ τ' : Row} (h : RJ τ) (h1 : ∀ k, 789 ≤ k → k < 869 → τ' k = τ k) (h2 : ∀ p, p < 3 → τ' (204 + p) = τ (204 + p)) : RJ τ' := by
  refine ⟨fun s hs => ?_, fun p i hp hi h3 => ?_⟩
  · rw [h1 _ (by omega) (by omega), h1 _ (by omega) (by omega)]
    exact h.1 s hs
  · rw [h1 _ (by omega) (by omega)] at h3
    rw [h2 p hp]
    exact h.2 p i hp hi h3
theorem RJ_rup {τ : Row} (h : RJ τ) (k v : Nat) (hk : (k < 789 ∨ 869 ≤ k) ∧ (k < 204 ∨ 207 ≤ k)) : RJ (rup τ k v) :=
  RJ_same h (fun j h1 h2 => rup_ne (by omega)) (fun p hp => rup_ne (by omega))
theorem RK_turn {τ : Row} (h : RK τ) (a : Int32) (up : Bool) : RK (s_turn a up τ).2 := by
  refine ⟨RI_turn h.1 a up, ?_⟩
  unfold s_turn
  cases hv : f_X4_isAcceptor a with
  | false => exact h.2
  | true =>
    obtain ⟨k, hk, rfl⟩ := isA_of hv
    rw [if_pos rfl, nI_clamp (by omega)]
    unfold s_turnN
    split
    · exact h.2
    · exact RJ_rup h.2 _ _ (by omega)
theorem RK_second {τ : Row} (h : RK τ) (a : Int32) : RK (s_second a τ).2 := by
  refine ⟨RI_second h.1 a, ?_⟩
  unfold s_second
  repeat' split
  · exact h.2
  · exact RJ_rup h.2 _ _ (by omega)
  · exact h.2
  · exact h.2
theorem RK_prepare {τ : Row} (h : RK τ) (a : Int32) : RK (s_prepare a τ).2 := by
  refine ⟨RI_prepare h.1 a, ?_⟩
  unfold s_prepare
  cases hv : f_X4_isProposer a with
  | false => exact h.2
  | true =>
    obtain ⟨p, hp, rfl⟩ := isP_of hv
    rw [if_pos rfl, nI_clamp (by omega)]
    unfold s_prepareN
    split
    · refine ⟨fun s hs => ?_, fun q i hq hi h3 => ?_⟩
      · show prR τ p (nb τ p) _ = 0 ↔ prR τ p (nb τ p) _ = 0
        rw [prR_ne (by omega) (by omega) (by omega) (by omega), prR_ne (by omega) (by omega) (by omega) (by omega)]
        exact h.2.1 s hs
      · show prR τ p (nb τ p) _ ≠ 0
        change prR τ p (nb τ p) _ ≠ 0 at h3
        by_cases e : q = p
        · subst e
          exfalso
          apply h3
          unfold prR
          rw [if_neg (by omega), if_neg (by omega), if_pos (by omega)]
        · rw [prR_ne (by omega) (by omega) (by omega) (by omega)] at h3 ⊢
          exact h.2.2 q i hq hi h3
    · exact h.2
theorem RJ_rfR {τ : Row} (h : RJ τ) {p a c : Nat} (hp : p < 3) (hc : c = 871 ∨ c = 872) : RJ (rfR τ p a c) := RJ_rup (RJ_rup h _ _ (by omega)) _ _ (by omega)
theorem RK_promise {τ : Row} (h : RK τ) (p a : Int32) : RK (s_promise p a τ).2 := by
  refine ⟨RI_promise h.1 p a, ?_⟩
  unfold s_promise
  split
  · rename_i hv
    rw [Bool.and_eq_true] at hv
    obtain ⟨k, hk, rfl⟩ := isP_of hv.1
    obtain ⟨j, hj, rfl⟩ := isA_of hv.2
    rw [nI_clamp (by omega), nI_clamp (by omega)]
    unfold s_promiseN
    repeat' split
    · exact h.2
    · exact h.2
    · exact RJ_rfR h.2 hk (Or.inl rfl)
    · refine RJ_same h.2 (fun i h1 h2 => ?_) (fun q hq => ?_)
      · show pmR τ k j i = _
        unfold pmR
        rw [rup_ne (by omega), telR_ne (by omega), rup_ne (by omega)]
      · show pmR τ k j _ = _
        unfold pmR
        rw [rup_ne (by omega), telR_ne (by omega), rup_ne (by omega)]
  · exact h.2
theorem RK_propose {τ : Row} (h : RK τ) (p s v : Int32) : RK (s_propose p s v τ).2 := by
  refine ⟨RI_propose h.1 p s v, ?_⟩
  unfold s_propose
  split
  · rename_i hv
    rw [Bool.and_eq_true] at hv
    obtain ⟨k, hk, rfl⟩ := isP_of hv.1
    obtain ⟨j, hj1, hj, rfl⟩ := isS_of hv.2
    split
    · rw [nI_clamp (by omega), nI_clamp (by omega)]
      unfold s_proposeN
      split
      · rename_i hm
        unfold mayP at hm
        simp only [Bool.and_eq_true, decide_eq_true_eq] at hm
        refine ⟨fun t ht => ?_, fun q i hq hi h3 => ?_⟩
        · show rup τ _ _ _ = 0 ↔ rup τ _ _ _ = 0
          rw [rup_ne (by omega), rup_ne (by omega)]
          exact h.2.1 t ht
        · show rup τ _ _ _ ≠ 0
          rw [rup_ne (by omega)]
          by_cases e : 789 + (16 * q + i) = 789 + (16 * k + j - 1)
          · have : q = k := by omega
            subst this
            exact hm.1
          · change rup τ _ _ _ ≠ 0 at h3
            rw [rup_ne e] at h3
            exact h.2.2 q i hq hi h3
      · exact h.2
    · exact h.2
  · exact h.2
theorem RJ_vtR {τ : Row} (h : RJ τ) {p s a : Nat} (hs1 : 1 ≤ s) (hs2 : s ≤ 16) (ha : a < 6) : RJ (vtR τ p s a) := RJ_rup (RJ_rup (RJ_rup h _ _ (by omega)) _ _ (by omega)) _ _ (by omega)
theorem RK_vote {τ : Row} (h : RK τ) (p s a : Int32) : RK (s_vote p s a τ).2 := by
  refine ⟨RI_vote h.1 p s a, ?_⟩
  unfold s_vote
  split
  · rename_i hv
    rw [Bool.and_eq_true, Bool.and_eq_true] at hv
    obtain ⟨k, hk, rfl⟩ := isP_of hv.1
    obtain ⟨j, hj1, hj, rfl⟩ := isS_of hv.2.1
    obtain ⟨i, hi, rfl⟩ := isA_of hv.2.2
    rw [nI_clamp (by omega), nI_clamp (by omega), nI_clamp (by omega)]
    have hJ := RJ_vtR h.2 (p := k) hj1 hj hi
    unfold s_voteN
    split
    · rename_i hm
      unfold mayV at hm
      simp only [Bool.and_eq_true, decide_eq_true_eq] at hm
      have hb := h.2.2 k (j - 1) hk (by omega) (by rw [show 16 * k + (j - 1) = 16 * k + j - 1 from by omega]; exact hm.1)
      split
      · exact h.2
      · split
        · exact RJ_rfR h.2 hk (Or.inr rfl)
        · dsimp only
          split
          · refine ⟨fun t ht => ?_, fun q i2 hq hi2 h3 => ?_⟩
            · by_cases e : t = j - 1
              · subst e
                rw [rup_ne (by omega), rup_eq, rup_eq]
                exact ⟨fun z => absurd z hm.1, fun z => absurd z hb⟩
              · rw [rup_ne (by omega), rup_ne (by omega), rup_ne (by omega), rup_ne (by omega)]
                exact hJ.1 t ht
            · rw [rup_ne (by omega), rup_ne (by omega)] at h3 ⊢
              exact hJ.2 q i2 hq hi2 h3
          · exact hJ
    · exact h.2
  · exact h.2
theorem RK_trim {τ : Row} (h : RK τ) (s : Int32) : RK (s_trim s τ).2 := by
  refine ⟨RI_trim h.1 s, ?_⟩
  unfold s_trim
  split
  · rename_i hv
    obtain ⟨j, hj1, hj, rfl⟩ := isS_of hv
    rw [nI_clamp (by omega)]
    unfold s_trimN
    repeat' split
    · exact h.2
    · exact h.2
    · exact RJ_same h.2 (fun i h1 h2 => trR_ne (by omega) (by omega)) (fun q hq => trR_ne (by omega) (by omega))
  · exact h.2
