/-! p25: a vote keeps the invariant -/
theorem INV_vt {τ τ' : Row} (hK : RK τ) (hI : INV τ) {p i a : Nat} (hp : p < 3) (hi : i < 16) (ha : a < 6) (hof : τ (789 + (16 * p + i)) ≠ 0) (htr : τ 869 ≤ i) (hpm : τ (6 + a) ≤ τ (204 + p)) (h6 : τ' (6 + a) = τ (204 + p)) (h12 : τ' (12 + 2 * (16 * a + i)) = τ (204 + p)) (h13 : τ' (13 + 2 * (16 * a + i)) = τ (789 + (16 * p + i)))
    (hch : (τ' (837 + i) = τ (837 + i) ∧ τ' (853 + i) = τ (853 + i)) ∨ (τ (837 + i) = 0 ∧ τ' (837 + i) = τ (789 + (16 * p + i)) ∧ τ' (853 + i) = τ (204 + p) ∧ sec τ (i + 1) ≤ cntN (fun x => hs (vo τ (i + 1)) x && decide (τ' (12 + 2 * (16 * x + i)) = τ (204 + p))) 6))
    (hoth : ∀ k, k ≠ 6 + a → k ≠ 12 + 2 * (16 * a + i) → k ≠ 13 + 2 * (16 * a + i) → k ≠ 837 + i → k ≠ 853 + i → τ' k = τ k) : INV τ' := by
  obtain ⟨V, Pv, hA, hB, hC, hD, hE, hF⟩ := hI
  have hb0 : τ (204 + p) ≠ 0 := hK.2.2 p i hp hi hof
  have hP := (hD.2.1 p i hp hi).1
  have hPn : Pv i (τ (204 + p)) ≠ 0 := by rw [← hP]; exact hof
  have hop := (hE i _ hi hPn).1
  obtain ⟨β, hβ⟩ : ∃ β, β = τ (204 + p) := ⟨_, rfl⟩
  rw [← hβ] at hb0 hPn hpm h6 h12 hch hP
  have hO : OP τ τ' := by
    rcases hch with ⟨c1, c2⟩ | ⟨c1, c2, c3, c4⟩
    · refine OP_same (hoth _ (by omega) (by omega) (by omega) (by omega) (by omega)) (fun k hk => ?_)
      by_cases e : k = i
      · subst e; exact c1
      · exact hoth _ (by omega) (by omega) (by omega) (by omega) (by omega)
    · exact OP_choose (hoth _ (by omega) (by omega) (by omega) (by omega) (by omega)) c1 (by rw [c2]; exact hof) (fun k hk e => hoth _ (by omega) (by omega) (by omega) (by omega) (by omega))
  have h69 : τ' 869 = τ 869 := hoth _ (by omega) (by omega) (by omega) (by omega) (by omega)
  have hpmm : ∀ x, x < 6 → τ (6 + x) ≤ τ' (6 + x) := by
    intro x hx
    by_cases e : x = a
    · subst e; rw [h6]; exact hpm
    · rw [hoth (6 + x) (by omega) (by omega) (by omega) (by omega) (by omega)]; exact Nat.le_refl _
  have hpa : ∀ x, x < 6 → x ≠ a → τ' (6 + x) = τ (6 + x) := fun x hx e => hoth (6 + x) (by omega) (by omega) (by omega) (by omega) (by omega)
  have hvb : ∀ x j, x < 6 → j < 16 → ¬ (x = a ∧ j = i) → τ' (12 + 2 * (16 * x + j)) = τ (12 + 2 * (16 * x + j)) ∧ τ' (13 + 2 * (16 * x + j)) = τ (13 + 2 * (16 * x + j)) := fun x j hx hj e => ⟨hoth _ (by omega) (by omega) (by omega) (by omega) (by omega), hoth _ (by omega) (by omega) (by omega) (by omega) (by omega)⟩
  obtain ⟨V', hV'⟩ : ∃ V' : GV, V' = fun x j b => V x j b || decide (x = a ∧ j = i ∧ b = β) := ⟨_, rfl⟩
  have hVt : ∀ x j b, V' x j b = true ↔ V x j b = true ∨ (x = a ∧ j = i ∧ b = β) := by
    intro x j b
    rw [hV']
    simp only [Bool.or_eq_true, decide_eq_true_eq]
  have hVf : ∀ x j b, V' x j b = false ↔ V x j b = false ∧ ¬ (x = a ∧ j = i ∧ b = β) := by
    intro x j b
    rw [hV']
    simp only [Bool.or_eq_false_iff, decide_eq_false_iff_not]
  refine ⟨V', Pv, fun x j b hx hj hv => ?_, fun x j hx hj => ?_, fun q x hq hx hv => ?_, ⟨fun q hq => ?_, fun q j hq hj => ?_, fun j b hj hb => ?_, ?_⟩, ?_, ?_⟩
  · rcases (hVt x j b).mp hv with h | ⟨rfl, rfl, rfl⟩
    · obtain ⟨h1, h2, h3⟩ := hA x j b hx hj h
      exact ⟨h1, Nat.le_trans h2 (hpmm x hx), h3⟩
    · exact ⟨by omega, by omega, hPn⟩
  · rw [h69]
    by_cases e : x = a ∧ j = i
    · obtain ⟨rfl, rfl⟩ := e
      refine ⟨fun h => by omega, fun _ => ⟨fun _ => ?_, fun b hb => ?_⟩⟩
      · rw [h12, h13]
        exact ⟨(hVt _ _ _).mpr (Or.inr ⟨rfl, rfl, rfl⟩), hP⟩
      · rw [h12]
        rcases (hVt _ _ b).mp hb with h | ⟨_, _, rfl⟩
        · have := (hA _ _ b ha hi h).2.1
          omega
        · exact Nat.le_refl _
    · obtain ⟨b1, b2⟩ := hB x j hx hj
      obtain ⟨e1, e2⟩ := hvb x j hx hj e
      rw [e1, e2]
      refine ⟨b1, fun ht => ⟨fun hn => ?_, fun b hb => ?_⟩⟩
      · obtain ⟨v1, v2⟩ := (b2 ht).1 hn
        exact ⟨(hVt _ _ _).mpr (Or.inl v1), v2⟩
      · rcases (hVt _ _ b).mp hb with h | ⟨h1, h2, _⟩
        · exact (b2 ht).2 b h
        · exact absurd ⟨h1, h2⟩ e
  · rw [hoth (210 + q) (by omega) (by omega) (by omega) (by omega) (by omega)] at hv
    obtain ⟨c1, c2⟩ := hC q x hq hx hv
    rw [hoth (204 + q) (by omega) (by omega) (by omega) (by omega) (by omega), h69]
    refine ⟨Nat.le_trans c1 (hpmm x hx), fun j hj ht => ?_⟩
    rw [hoth (213 + 2 * (96 * q + 16 * x + j)) (by omega) (by omega) (by omega) (by omega) (by omega), hoth (214 + 2 * (96 * q + 16 * x + j)) (by omega) (by omega) (by omega) (by omega) (by omega)]
    obtain ⟨d1, d2, d3⟩ := c2 j hj ht
    refine ⟨d1, fun hn => ?_, fun b hb hlt => ?_⟩
    · obtain ⟨v1, v2⟩ := d2 hn
      exact ⟨(hVt _ _ _).mpr (Or.inl v1), v2⟩
    · rcases (hVt _ _ b).mp hb with h | ⟨rfl, rfl, rfl⟩
      · exact d3 b h hlt
      · omega
  · rw [hoth (204 + q) (by omega) (by omega) (by omega) (by omega) (by omega), hoth (210 + q) (by omega) (by omega) (by omega) (by omega) (by omega)]
    exact hD.1 q hq
  · rw [hoth (204 + q) (by omega) (by omega) (by omega) (by omega) (by omega), hoth (789 + (16 * q + j)) (by omega) (by omega) (by omega) (by omega) (by omega)]
    obtain ⟨d1, d2⟩ := hD.2.1 q j hq hj
    refine ⟨d1, fun hn => ?_⟩
    rw [OP_lack hO hj (ID_open hD hE hq hj hn) (hoth (210 + q) (by omega) (by omega) (by omega) (by omega) (by omega))]
    exact d2 hn
  · rw [hoth (204 + (b + 2) % 3) (by omega) (by omega) (by omega) (by omega) (by omega)]
    exact hD.2.2.1 j b hj hb
  · rw [h69]
    exact Nat.le_trans hD.2.2.2 hO.2.1
  · refine IE_of hO (fun x j b hx hj h1 h2 => ⟨Nat.lt_of_lt_of_le h1 (hpmm x hx), (hVf x j b).mpr ⟨h2, ?_⟩⟩) hE
    rintro ⟨rfl, rfl, rfl⟩
    omega
  · intro j hj hn
    have hmono : ∀ {n w : Nat}, n ≤ cntN (fun x => hs (vo τ (j + 1)) x && V x j w) 6 → n ≤ cntN (fun x => hs (vo τ (j + 1)) x && V' x j w) 6 := by
      intro n w h
      refine Nat.le_trans h (cnt_mono 6 (fun x hx hq => ?_))
      simp only [Bool.and_eq_true] at hq ⊢
      exact ⟨hq.1, (hVt _ _ _).mpr (Or.inl hq.2)⟩
    have old : τ' (837 + j) = τ (837 + j) → τ' (853 + j) = τ (853 + j) → Pv j (τ' (853 + j)) = τ' (837 + j) ∧ sec τ' (j + 1) ≤ cntN (fun a => hs (vo τ' (j + 1)) a && V' a j (τ' (853 + j))) 6 := by
      intro e1 e2
      rw [e1] at hn
      obtain ⟨h1, h2⟩ := hF j hj hn
      have ho := (hE j _ hj (by rw [h1]; exact hn)).1
      rw [e1, e2, OP_sec hO hj ho, hO.2.2 j hj ho]
      exact ⟨h1, hmono h2⟩
    by_cases e : j = i
    · subst e
      rcases hch with ⟨c1, c2⟩ | ⟨c1, c2, c3, c4⟩
      · exact old c1 c2
      · rw [c2, c3, OP_sec hO hj hop, hO.2.2 j hj hop]
        refine ⟨hP.symm, Nat.le_trans c4 (cnt_mono 6 (fun x hx hq => ?_))⟩
        simp only [Bool.and_eq_true, decide_eq_true_eq] at hq ⊢
        refine ⟨hq.1, ?_⟩
        by_cases ex : x = a
        · exact (hVt _ _ _).mpr (Or.inr ⟨ex, rfl, rfl⟩)
        · have h3 := hq.2
          rw [(hvb x j hx hj (fun q => ex q.1)).1] at h3
          have h4 := ((hB x j hx hj).2 htr).1 (by rw [h3]; exact hb0)
          rw [h3] at h4
          exact (hVt _ _ _).mpr (Or.inl h4.1)
    · exact old (hoth _ (by omega) (by omega) (by omega) (by omega) (by omega)) (hoth _ (by omega) (by omega) (by omega) (by omega) (by omega))
