/-! p25: a promise keeps the invariant; a new ballot; trimming -/
theorem pc_and_mono {k j j' : Nat} (hk : k < 64) (hj : j < 64) (hj' : j' < 64) (h : ∀ x, x < 6 → hs j x = true → hs j' x = true) : pc (k &&& j) ≤ pc (k &&& j') := by
  rw [pc_cnt _ (and_lt k hk j hj), pc_cnt _ (and_lt k hk j' hj')]
  refine cnt_mono 6 (fun x hx hq => ?_)
  rw [and_hs k hk j hj x hx, Bool.and_eq_true] at hq
  rw [and_hs k hk j' hj' x hx, Bool.and_eq_true]
  exact ⟨hq.1, h x hx hq.2⟩
theorem INV_pm {τ τ' : Row} (hK : RK τ) (hI : INV τ) {p a N : Nat} (hp : p < 3) (ha : a < 6) (hb0 : τ (204 + p) ≠ 0) (hpm : τ (6 + a) < τ (204 + p)) (h6 : τ' (6 + a) = τ (204 + p)) (hN : N < 64) (h210 : τ' (210 + p) = N) (hhs : ∀ x, x < 6 → hs N x = (hs (τ (210 + p)) x || x == a)) (ht : ∀ j, j < 16 → τ' (213 + 2 * (96 * p + 16 * a + j)) = τ (12 + 2 * (16 * a + j)) ∧ τ' (214 + 2 * (96 * p + 16 * a + j)) = τ (13 + 2 * (16 * a + j)))
    (hoth : ∀ k, k ≠ 6 + a → k ≠ 210 + p → ¬ (213 + 2 * (96 * p + 16 * a) ≤ k ∧ k < 213 + 2 * (96 * p + 16 * a) + 32) → τ' k = τ k) : INV τ' := by
  obtain ⟨V, Pv, hA, hB, hC, hD, hE, hF⟩ := hI
  have hO : OP τ τ' := OP_same (hoth _ (by omega) (by omega) (by omega)) (fun k hk => hoth _ (by omega) (by omega) (by omega))
  have h69 : τ' 869 = τ 869 := hoth _ (by omega) (by omega) (by omega)
  have hpmm : ∀ x, x < 6 → τ (6 + x) ≤ τ' (6 + x) := by
    intro x hx
    by_cases e : x = a
    · subst e; rw [h6]; omega
    · rw [hoth (6 + x) (by omega) (by omega) (by omega)]; exact Nat.le_refl _
  have h4 : ∀ q, q < 3 → τ' (204 + q) = τ (204 + q) := fun q hq => hoth _ (by omega) (by omega) (by omega)
  refine ⟨V, Pv, fun x j b hx hj hv => ?_, fun x j hx hj => ?_, fun q x hq hx hv => ?_, ⟨fun q hq => ?_, fun q j hq hj => ?_, fun j b hj hb => ?_, ?_⟩, ?_, ?_⟩
  · obtain ⟨h1, h2, h3⟩ := hA x j b hx hj hv
    exact ⟨h1, Nat.le_trans h2 (hpmm x hx), h3⟩
  · rw [hoth (12 + 2 * (16 * x + j)) (by omega) (by omega) (by omega), hoth (13 + 2 * (16 * x + j)) (by omega) (by omega) (by omega), h69]
    exact hB x j hx hj
  · rw [h4 q hq, h69]
    by_cases e : q = p ∧ x = a
    · obtain ⟨rfl, rfl⟩ := e
      refine ⟨by rw [h6]; exact Nat.le_refl _, fun j hj htr => ?_⟩
      rw [(ht j hj).1, (ht j hj).2]
      obtain ⟨b1, b2⟩ := (hB x j hx hj).2 htr
      refine ⟨?_, b1, fun b hv _ => b2 b hv⟩
      by_cases ez : τ (12 + 2 * (16 * x + j)) = 0
      · rw [ez]; omega
      · have := (hA x j _ hx hj (b1 ez).1).2.1
        omega
    · have hv2 : hs (τ (210 + q)) x = true := by
        by_cases eq : q = p
        · subst eq
          rw [h210, hhs x hx] at hv
          rcases Bool.or_eq_true _ _ ▸ hv with h | h
          · exact h
          · exact absurd ⟨rfl, beq_iff_eq.mp h⟩ e
        · rw [hoth (210 + q) (by omega) (by omega) (by omega)] at hv
          exact hv
      obtain ⟨c1, c2⟩ := hC q x hq hx hv2
      refine ⟨Nat.le_trans c1 (hpmm x hx), fun j hj htr => ?_⟩
      rw [hoth (213 + 2 * (96 * q + 16 * x + j)) (by omega) (by omega) (by omega), hoth (214 + 2 * (96 * q + 16 * x + j)) (by omega) (by omega) (by omega)]
      exact c2 j hj htr
  · rw [h4 q hq]
    refine ⟨fun hz => ?_, (hD.1 q hq).2⟩
    by_cases eq : q = p
    · subst eq; exact absurd hz hb0
    · rw [hoth (210 + q) (by omega) (by omega) (by omega)]
      exact (hD.1 q hq).1 hz
  · rw [h4 q hq, hoth (789 + (16 * q + j)) (by omega) (by omega) (by omega)]
    obtain ⟨d1, d2⟩ := hD.2.1 q j hq hj
    refine ⟨d1, fun hn => ?_⟩
    have ho := ID_open hD hE hq hj hn
    have h0 := d2 hn
    by_cases eq : q = p
    · subst eq
      have hm : pc (vo τ (j + 1) &&& τ (210 + q)) ≤ pc (vo τ (j + 1) &&& N) := pc_and_mono (vo_lt hK.1 (by omega)) (hK.1.2.2.1 q hq) hN (fun x hx h => by rw [hhs x hx, h]; rfl)
      unfold lack at h0 ⊢
      rw [OP_fir hO hj ho, hO.2.2 j hj ho, h210]
      omega
    · rw [OP_lack hO hj ho (hoth (210 + q) (by omega) (by omega) (by omega))]
      exact h0
  · rw [h4 ((b + 2) % 3) (by omega)]
    exact hD.2.2.1 j b hj hb
  · rw [h69]
    exact Nat.le_trans hD.2.2.2 hO.2.1
  · exact IE_of hO (fun x j b hx hj h1 h2 => ⟨Nat.lt_of_lt_of_le h1 (hpmm x hx), h2⟩) hE
  · exact IF_of hO (fun j hj => ⟨hoth _ (by omega) (by omega) (by omega), hoth _ (by omega) (by omega) (by omega)⟩) hE hF
theorem INV_pr {τ : Row} (hI : INV τ) {p b : Nat} (hp : p < 3) (hb : τ (204 + p) < b) (hm : b % 3 = (p + 1) % 3) : INV (prR τ p b) := by
  obtain ⟨V, Pv, hA, hB, hC, hD, hE, hF⟩ := hI
  have hne : ∀ k, k ≠ 204 + p → k ≠ 210 + p → ¬ (789 + 16 * p ≤ k ∧ k < 789 + 16 * p + 16) → ¬ (213 + 192 * p ≤ k ∧ k < 213 + 192 * p + 192) → prR τ p b k = τ k := fun k h1 h2 h3 h4 => by unfold prR; rw [if_neg h1, if_neg h2, if_neg h3, if_neg h4]
  have hb4 : prR τ p b (204 + p) = b := by unfold prR; rw [if_pos rfl]
  have hb10 : prR τ p b (210 + p) = 0 := by unfold prR; rw [if_neg (by omega), if_pos rfl]
  have hb89 : ∀ i, i < 16 → prR τ p b (789 + (16 * p + i)) = 0 := fun i hi => by unfold prR; rw [if_neg (by omega), if_neg (by omega), if_pos (by omega)]
  have hO : OP τ (prR τ p b) := OP_same (hne _ (by omega) (by omega) (by omega) (by omega)) (fun k hk => hne _ (by omega) (by omega) (by omega) (by omega))
  have h69 : prR τ p b 869 = τ 869 := hne _ (by omega) (by omega) (by omega) (by omega)
  have h6 : ∀ x, x < 6 → prR τ p b (6 + x) = τ (6 + x) := fun x hx => hne _ (by omega) (by omega) (by omega) (by omega)
  refine ⟨V, Pv, fun x j b hx hj hv => ?_, fun x j hx hj => ?_, fun q x hq hx hv => ?_, ⟨fun q hq => ?_, fun q j hq hj => ?_, fun j c hj hc => ?_, ?_⟩, ?_, ?_⟩
  · rw [h6 x hx]
    exact hA x j b hx hj hv
  · rw [hne (12 + 2 * (16 * x + j)) (by omega) (by omega) (by omega) (by omega), hne (13 + 2 * (16 * x + j)) (by omega) (by omega) (by omega) (by omega), h69]
    exact hB x j hx hj
  · by_cases e : q = p
    · subst e
      rw [hb10, hs_0] at hv
      cases hv
    · rw [hne (210 + q) (by omega) (by omega) (by omega) (by omega)] at hv
      obtain ⟨c1, c2⟩ := hC q x hq hx hv
      rw [hne (204 + q) (by omega) (by omega) (by omega) (by omega), h6 x hx, h69]
      refine ⟨c1, fun j hj => ?_⟩
      rw [hne (213 + 2 * (96 * q + 16 * x + j)) (by omega) (by omega) (by omega) (by omega), hne (214 + 2 * (96 * q + 16 * x + j)) (by omega) (by omega) (by omega) (by omega)]
      exact c2 j hj
  · by_cases e : q = p
    · subst e
      rw [hb4]
      exact ⟨fun h => by omega, fun _ => hm⟩
    · rw [hne (204 + q) (by omega) (by omega) (by omega) (by omega), hne (210 + q) (by omega) (by omega) (by omega) (by omega)]
      exact hD.1 q hq
  · by_cases e : q = p
    · subst e
      rw [hb4, hb89 j hj]
      refine ⟨?_, fun h => absurd rfl h⟩
      by_cases hz : Pv j b = 0
      · exact hz.symm
      · have h1 := (hD.2.2.1 j b hj hz).2
        rw [show (b + 2) % 3 = q from by omega] at h1
        omega
    · rw [hne (204 + q) (by omega) (by omega) (by omega) (by omega), hne (789 + (16 * q + j)) (by omega) (by omega) (by omega) (by omega)]
      obtain ⟨d1, d2⟩ := hD.2.1 q j hq hj
      refine ⟨d1, fun hn => ?_⟩
      rw [OP_lack hO hj (ID_open hD hE hq hj hn) (hne (210 + q) (by omega) (by omega) (by omega) (by omega))]
      exact d2 hn
  · obtain ⟨d1, d2⟩ := hD.2.2.1 j c hj hc
    refine ⟨d1, ?_⟩
    by_cases e : (c + 2) % 3 = p
    · rw [e, hb4]
      rw [e] at d2
      omega
    · rw [hne (204 + (c + 2) % 3) (by omega) (by omega) (by omega) (by omega)]
      exact d2
  · rw [h69]
    exact Nat.le_trans hD.2.2.2 hO.2.1
  · exact IE_of hO (fun x j b hx hj h1 h2 => ⟨by rw [h6 x hx]; exact h1, h2⟩) hE
  · exact IF_of hO (fun j hj => ⟨hne _ (by omega) (by omega) (by omega) (by omega), hne _ (by omega) (by omega) (by omega) (by omega)⟩) hE hF
theorem INV_tr {τ : Row} (hI : INV τ) {s : Nat} (h1 : τ 869 < s) (h2 : s ≤ pre τ) : INV (trR τ s) := by
  obtain ⟨V, Pv, hA, hB, hC, hD, hE, hF⟩ := hI
  have hne : ∀ k, k ≠ 869 → ¬ (12 ≤ k ∧ k < 204 ∧ (k - 12) / 2 % 16 < s) → trR τ s k = τ k := fun k q1 q2 => trR_ne q1 q2
  have h69 : trR τ s 869 = s := by unfold trR; rw [if_pos rfl]
  have hO : OP τ (trR τ s) := OP_same (hne _ (by omega) (by omega)) (fun k hk => hne _ (by omega) (by omega))
  have h6 : ∀ x, x < 6 → trR τ s (6 + x) = τ (6 + x) := fun x hx => hne _ (by omega) (by omega)
  refine ⟨V, Pv, fun x j b hx hj hv => ?_, fun x j hx hj => ?_, fun q x hq hx hv => ?_, ⟨fun q hq => ?_, fun q j hq hj => ?_, fun j c hj hc => ?_, ?_⟩, ?_, ?_⟩
  · rw [h6 x hx]
    exact hA x j b hx hj hv
  · rw [h69]
    refine ⟨fun hlt => ?_, fun hle => ?_⟩
    · unfold trR
      rw [if_neg (by omega), if_pos ⟨by omega, by omega, by omega⟩]
    · rw [hne (12 + 2 * (16 * x + j)) (by omega) (by omega), hne (13 + 2 * (16 * x + j)) (by omega) (by omega)]
      exact (hB x j hx hj).2 (by omega)
  · rw [hne (210 + q) (by omega) (by omega)] at hv
    obtain ⟨c1, c2⟩ := hC q x hq hx hv
    rw [hne (204 + q) (by omega) (by omega), h6 x hx, h69]
    refine ⟨c1, fun j hj ht => ?_⟩
    rw [hne (213 + 2 * (96 * q + 16 * x + j)) (by omega) (by omega), hne (214 + 2 * (96 * q + 16 * x + j)) (by omega) (by omega)]
    exact c2 j hj (by omega)
  · rw [hne (204 + q) (by omega) (by omega), hne (210 + q) (by omega) (by omega)]
    exact hD.1 q hq
  · rw [hne (204 + q) (by omega) (by omega), hne (789 + (16 * q + j)) (by omega) (by omega)]
    obtain ⟨d1, d2⟩ := hD.2.1 q j hq hj
    refine ⟨d1, fun hn => ?_⟩
    rw [OP_lack hO hj (ID_open hD hE hq hj hn) (hne (210 + q) (by omega) (by omega))]
    exact d2 hn
  · rw [hne (204 + (c + 2) % 3) (by omega) (by omega)]
    exact hD.2.2.1 j c hj hc
  · rw [h69]
    exact Nat.le_trans h2 hO.2.1
  · exact IE_of hO (fun x j b hx hj h1 h2 => ⟨by rw [h6 x hx]; exact h1, h2⟩) hE
  · exact IF_of hO (fun j hj => ⟨hne _ (by omega) (by omega), hne _ (by omega) (by omega)⟩) hE hF
