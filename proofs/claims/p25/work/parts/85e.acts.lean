/-! p25: the acts keep the invariant; what it says of what is told -/
theorem rup_at {τ : Row} {k v j : Nat} (h : j = k) : rup τ k v j = v := by rw [h, rup_eq]
theorem INV_rf {τ : Row} {p a c : Nat} (hI : INV τ) (hp : p < 3) (hc : c = 871 ∨ c = 872) : INV (rfR τ p a c) :=
  INV_same hI (fun k h1 h2 h3 => by unfold rfR; rw [rup_ne (by omega), rup_ne (by omega)])
theorem INV_turnN {τ : Row} (hI : INV τ) {a : Nat} (ha : a < 6) (up : Bool) : INV (s_turnN a up τ).2 := by
  unfold s_turnN
  split
  · exact hI
  · exact INV_same hI (fun k h1 h2 h3 => rup_ne (by omega))
theorem INV_prepN {τ : Row} (hI : INV τ) {p : Nat} (hp : p < 3) : INV (s_prepareN p τ).2 := by
  unfold s_prepareN
  have h1 := Nat.le_max_left (τ (204 + p)) (τ (207 + p))
  have h2 : τ (204 + p) < nb τ p ∧ nb τ p % 3 = (p + 1) % 3 := by
    unfold nb
    generalize max (τ (204 + p)) (τ (207 + p)) = m at h1
    omega
  split
  · exact INV_pr hI hp h2.1 h2.2
  · exact hI
theorem INV_promN {τ : Row} (hK : RK τ) (hI : INV τ) {p a : Nat} (hp : p < 3) (ha : a < 6) : INV (s_promiseN p a τ).2 := by
  unfold s_promiseN
  by_cases h0 : τ (204 + p) = 0 ∨ τ a ≠ 1
  · rw [if_pos h0]; exact hI
  · rw [if_neg h0]
    by_cases h1 : hs (τ (210 + p)) a = true
    · rw [if_pos h1]; exact hI
    · rw [if_neg h1]
      by_cases h2 : τ (204 + p) ≤ τ (6 + a)
      · rw [if_pos h2]; exact INV_rf hI hp (Or.inl rfl)
      · rw [if_neg h2]
        show INV (pmR τ p a)
        have hps := hK.1.2.2.1 p hp
        have e : (if hs (τ (210 + p)) a then τ (210 + p) else τ (210 + p) + 2 ^ a) = τ (210 + p) + 2 ^ a := if_neg h1
        have hlt := or_lt _ hps a ha
        rw [e] at hlt
        refine INV_pm hK hI hp ha (N := τ (210 + p) + 2 ^ a) (fun z => h0 (Or.inl z)) (by omega) ?_ hlt ?_ ?_ ?_ ?_
        · unfold pmR
          rw [rup_ne (by omega), telR_ne (by omega), rup_eq]
        · unfold pmR
          rw [rup_eq]
        · intro x hx
          have h3 := or_hs _ hps a ha x hx
          rw [e] at h3
          exact h3
        · intro j hj
          unfold pmR
          rw [rup_ne (by omega), rup_ne (by omega)]
          unfold telR
          rw [if_pos (by omega), if_pos (by omega), show 213 + 2 * (96 * p + 16 * a + j) - 201 - 192 * p = 12 + 2 * (16 * a + j) from by omega, show 214 + 2 * (96 * p + 16 * a + j) - 201 - 192 * p = 13 + 2 * (16 * a + j) from by omega, rup_ne (by omega), rup_ne (by omega)]
          exact ⟨rfl, rfl⟩
        · intro k h3 h4 h5
          unfold pmR
          rw [rup_ne h4, telR_ne h5, rup_ne h3]
theorem INV_propN {τ : Row} (hK : RK τ) (hI : INV τ) {p s v : Nat} (hp : p < 3) (hs1 : 1 ≤ s) (hs2 : s ≤ 16) (hv : v ≠ 0) : INV (s_proposeN p s v τ).2 := by
  obtain ⟨i, rfl⟩ : ∃ i, s = i + 1 := ⟨s - 1, by omega⟩
  unfold s_proposeN
  by_cases hm : mayP τ p (i + 1) = true
  · rw [if_pos hm]
    have h2 := hm
    unfold mayP at h2
    simp only [Bool.and_eq_true, decide_eq_true_eq] at h2
    obtain ⟨m1, m2, m3, m4, m5⟩ := h2
    refine INV_pp hK hI hp (i := i) (w := if bound τ p (i + 1) = 0 then v else bound τ p (i + 1)) (by omega) m1 (by omega) m3 m4 ?_ ?_ ?_ ?_ ?_
    · rw [show 789 + (16 * p + i) = 789 + (16 * p + (i + 1) - 1) from by omega]
      exact m5
    · split
      · exact hv
      · assumption
    · intro hb
      rw [if_neg hb]
    · exact rup_at (by omega)
    · intro k hk
      exact rup_ne (by omega)
  · rw [if_neg hm]; exact hI
theorem INV_voteN {τ : Row} (hK : RK τ) (hI : INV τ) {p s a : Nat} (hp : p < 3) (hs1 : 1 ≤ s) (hs2 : s ≤ 16) (ha : a < 6) : INV (s_voteN p s a τ).2 := by
  obtain ⟨i, rfl⟩ : ∃ i, s = i + 1 := ⟨s - 1, by omega⟩
  unfold s_voteN
  by_cases hm : mayV τ p (i + 1) a = true
  · rw [if_pos hm]
    have h2 := hm
    unfold mayV at h2
    simp only [Bool.and_eq_true, decide_eq_true_eq] at h2
    obtain ⟨m1, m2, m3, m4⟩ := h2
    have hof : τ (789 + (16 * p + i)) ≠ 0 := by
      rw [show 789 + (16 * p + i) = 789 + (16 * p + (i + 1) - 1) from by omega]
      exact m1
    by_cases h3 : τ (12 + 2 * (16 * a + (i + 1) - 1)) = τ (204 + p)
    · rw [if_pos h3]; exact hI
    · rw [if_neg h3]
      by_cases h4 : τ (204 + p) < τ (6 + a)
      · rw [if_pos h4]; exact INV_rf hI hp (Or.inr rfl)
      · rw [if_neg h4]
        have v6 : vtR τ p (i + 1) a (6 + a) = τ (204 + p) := by
          unfold vtR
          rw [rup_ne (by omega), rup_ne (by omega), rup_eq]
        have v12 : vtR τ p (i + 1) a (12 + 2 * (16 * a + i)) = τ (204 + p) := by
          unfold vtR
          rw [rup_ne (by omega), rup_at (by omega)]
        have v13 : vtR τ p (i + 1) a (13 + 2 * (16 * a + i)) = τ (789 + (16 * p + i)) := by
          unfold vtR
          rw [rup_at (by omega), show 16 * p + (i + 1) - 1 = 16 * p + i from by omega]
        have vo' : ∀ k, k ≠ 6 + a → k ≠ 12 + 2 * (16 * a + i) → k ≠ 13 + 2 * (16 * a + i) → vtR τ p (i + 1) a k = τ k := by
          intro k k1 k2 k3
          unfold vtR
          rw [rup_ne (by omega), rup_ne (by omega), rup_ne (by omega)]
        by_cases hch : τ (837 + (i + 1 - 1)) = 0 ∧ sec τ (i + 1) ≤ forN (vtR τ p (i + 1) a) (i + 1) (τ (204 + p))
        · rw [if_pos hch]
          show INV (rup (rup (vtR τ p (i + 1) a) (837 + (i + 1 - 1)) (τ (789 + (16 * p + (i + 1) - 1)))) (853 + (i + 1 - 1)) (τ (204 + p)))
          refine INV_vt hK hI hp (i := i) (by omega) ha hof (by omega) (by omega) ?_ ?_ ?_ (Or.inr ⟨hch.1, ?_, ?_, ?_⟩) ?_
          · rw [rup_ne (by omega), rup_ne (by omega)]; exact v6
          · rw [rup_ne (by omega), rup_ne (by omega)]; exact v12
          · rw [rup_ne (by omega), rup_ne (by omega)]; exact v13
          · rw [rup_ne (by omega), rup_at (by omega), show 16 * p + (i + 1) - 1 = 16 * p + i from by omega]
          · exact rup_at (by omega)
          · refine Nat.le_trans hch.2 ?_
            unfold forN
            rw [vo_vtR hs2 ha]
            refine cnt_mono 6 (fun x hx hq => ?_)
            rw [show 16 * x + (i + 1) - 1 = 16 * x + i from by omega] at hq
            rw [rup_ne (by omega), rup_ne (by omega)]
            exact hq
          · intro k k1 k2 k3 k4 k5
            rw [rup_ne (by omega), rup_ne (by omega)]
            exact vo' k k1 k2 k3
        · rw [if_neg hch]
          show INV (vtR τ p (i + 1) a)
          exact INV_vt hK hI hp (i := i) (by omega) ha hof (by omega) (by omega) v6 v12 v13 (Or.inl ⟨vo' _ (by omega) (by omega) (by omega), vo' _ (by omega) (by omega) (by omega)⟩) (fun k k1 k2 k3 _ _ => vo' k k1 k2 k3)
  · rw [if_neg hm]; exact hI
theorem INV_trimN {τ : Row} (hI : INV τ) {s : Nat} : INV (s_trimN s τ).2 := by
  unfold s_trimN
  by_cases h1 : pre τ < s
  · rw [if_pos h1]; exact hI
  · rw [if_neg h1]
    by_cases h2 : s ≤ τ 869
    · rw [if_pos h2]; exact hI
    · rw [if_neg h2]
      exact INV_tr hI (by omega) (by omega)
theorem INV_0 : INV r0 := by
  have z : ∀ k, 6 ≤ k → k ≠ 870 → r0 k = 0 := fun k h1 h2 => r0_z h1 h2
  refine ⟨fun _ _ _ => false, fun _ _ => 0, ?_, ?_, ?_, ?_, ?_, ?_⟩
  · intro a i b _ _ h
    exact absurd h Bool.false_ne_true
  · intro a i ha hi
    refine ⟨fun _ => z _ (by omega) (by omega), fun _ => ⟨fun h => absurd (z _ (by omega) (by omega)) h, fun b h => absurd h Bool.false_ne_true⟩⟩
  · intro p a hp ha h
    rw [z _ (by omega) (by omega), hs_0] at h
    cases h
  · refine ⟨fun p hp => ⟨fun _ => z _ (by omega) (by omega), fun h => absurd (z _ (by omega) (by omega)) h⟩, fun p i hp hi => ⟨z _ (by omega) (by omega), fun h => absurd (z _ (by omega) (by omega)) h⟩, fun i b _ h => absurd rfl h, ?_⟩
    rw [z _ (by omega) (by omega)]
    exact Nat.zero_le _
  · intro i b _ h
    exact absurd rfl h
  · intro i hi h
    exact absurd (z _ (by omega) (by omega)) h
/-- two ballots of a slot: what is chosen is proposed above it -/
theorem agree {τ : Row} {V : GV} {Pv : GP} (hK : RK τ) (h : IV τ V Pv) {i b' : Nat} (hi : i < 16) (hb : Pv i b' ≠ 0) (hc : τ (837 + i) ≠ 0) (hlt : τ (853 + i) < b') : Pv i b' = τ (837 + i) := by
  obtain ⟨hA, hB, hC, hD, hE, hF⟩ := h
  obtain ⟨f1, f2⟩ := hF i hi hc
  obtain ⟨e1, e2⟩ := hE i b' hi hb
  have hP0 : Pv i (τ (853 + i)) ≠ 0 := by rw [f1]; exact hc
  have hz := (hD.2.2.1 i _ hi hP0).1
  by_cases hne : Pv i (τ (853 + i)) = Pv i b'
  · rw [← hne, f1]
  · have hsf := e2 _ (by omega) hlt hne
    unfold SAFE at hsf
    have hd := cnt_disj (P := fun a => hs (vo τ (i + 1)) a && V a i (τ (853 + i))) (Q := fun a => hs (vo τ (i + 1)) a && (decide (τ (853 + i) < τ (6 + a)) && !V a i (τ (853 + i)))) (H := hs (vo τ (i + 1))) 6 (fun x _ q => (Bool.and_eq_true _ _ ▸ q).1) (fun x _ q => (Bool.and_eq_true _ _ ▸ q).1) (fun x _ q1 q2 => by
      simp only [Bool.and_eq_true, Bool.not_eq_true', decide_eq_true_eq] at q1 q2
      rw [q1.2] at q2
      exact absurd q2.2.2 (by decide))
    rw [← pc_cnt _ (vo_lt hK.1 (by omega))] at hd
    have hs2 : sec τ (i + 1) ≤ pc (vo τ (i + 1)) := Nat.min_le_right _ _
    unfold fir at hsf
    omega
/-- what the law asks of slots -/
theorem INV_slots {τ : Row} (hK : RK τ) (hI : INV τ) : (∀ a i, a < 6 → i < 16 → τ (12 + 2 * (16 * a + i)) ≠ 0 → τ (12 + 2 * (16 * a + i)) ≤ τ (6 + a) ∧ τ 869 ≤ i ∧ i + 1 ≤ pre τ + 3 ∧ (τ (837 + i) ≠ 0 → τ (853 + i) < τ (12 + 2 * (16 * a + i)) → τ (13 + 2 * (16 * a + i)) = τ (837 + i))) ∧ (∀ i, i < 16 → τ (837 + i) ≠ 0 → i + 1 ≤ pre τ + 3) ∧ τ 869 ≤ pre τ := by
  obtain ⟨V, Pv, hV⟩ := hI
  obtain ⟨hA, hB, hC, hD, hE, hF⟩ := id hV
  refine ⟨fun a i ha hi hn => ?_, fun i hi hn => ?_, hD.2.2.2⟩
  · obtain ⟨b1, b2⟩ := hB a i ha hi
    have htr : τ 869 ≤ i := Nat.le_of_not_lt (fun q => hn (b1 q))
    obtain ⟨v1, v2⟩ := (b2 htr).1 hn
    obtain ⟨-, a2, a3⟩ := hA a i _ ha hi v1
    refine ⟨a2, htr, (hE i _ hi a3).1, fun hc hlt => ?_⟩
    rw [v2]
    exact agree hK hV hi a3 hc hlt
  · obtain ⟨f1, -⟩ := hF i hi hn
    exact (hE i _ hi (by rw [f1]; exact hn)).1
/-- what the law asks of proposers -/
theorem INV_props {τ : Row} (hK : RK τ) (hI : INV τ) : (∀ p, p < 3 → (τ (204 + p) = 0 → τ (210 + p) = 0) ∧ (τ (204 + p) ≠ 0 → τ (204 + p) % 3 = (p + 1) % 3)) ∧ (∀ p a, p < 3 → a < 6 → hs (τ (210 + p)) a = true → τ (204 + p) ≤ τ (6 + a)) ∧ ∀ p i, p < 3 → i < 16 → τ (789 + (16 * p + i)) ≠ 0 → i + 1 ≤ pre τ + 3 ∧ lack τ p (i + 1) = 0 ∧ (τ (837 + i) ≠ 0 → τ (853 + i) < τ (204 + p) → τ (789 + (16 * p + i)) = τ (837 + i)) := by
  obtain ⟨V, Pv, hV⟩ := hI
  obtain ⟨hA, hB, hC, hD, hE, hF⟩ := id hV
  refine ⟨hD.1, fun p a hp ha h => (hC p a hp ha h).1, fun p i hp hi hn => ?_⟩
  obtain ⟨d1, d2⟩ := hD.2.1 p i hp hi
  refine ⟨ID_open hD hE hp hi hn, d2 hn, fun hc hlt => ?_⟩
  rw [d1] at hn ⊢
  exact agree hK hV hi hn hc hlt
