/-! p25: a proposal keeps the invariant -/
theorem bdN_sp (τ : Row) (p i Q : Nat) : ∀ n, (∀ x, x < n → hs Q x = true → τ (213 + 2 * (96 * p + 16 * x + i)) ≤ (bdN τ p (i + 1) Q n).1) ∧ ((bdN τ p (i + 1) Q n).1 = 0 ∧ (bdN τ p (i + 1) Q n).2 = 0 ∨ ∃ x, x < n ∧ hs Q x = true ∧ (bdN τ p (i + 1) Q n).1 = τ (213 + 2 * (96 * p + 16 * x + i)) ∧ τ (213 + 2 * (96 * p + 16 * x + i)) ≠ 0 ∧ (bdN τ p (i + 1) Q n).2 = τ (214 + 2 * (96 * p + 16 * x + i))) := by
  intro n
  induction n with
  | zero => exact ⟨fun x hx => absurd hx (Nat.not_lt_zero x), Or.inl ⟨rfl, rfl⟩⟩
  | succ n ih =>
    obtain ⟨h1, h2⟩ := ih
    rw [bdN, show 96 * p + 16 * n + (i + 1) - 1 = 96 * p + 16 * n + i from by omega]
    by_cases c : hs Q n = true ∧ (bdN τ p (i + 1) Q n).1 < τ (213 + 2 * (96 * p + 16 * n + i))
    · rw [if_pos c]
      refine ⟨fun x hx hq => ?_, Or.inr ⟨n, by omega, c.1, rfl, by omega, rfl⟩⟩
      rcases Nat.eq_or_lt_of_le (Nat.le_of_lt_succ hx) with e | e
      · rw [e]; exact Nat.le_refl _
      · exact Nat.le_trans (h1 x e hq) (Nat.le_of_lt c.2)
    · rw [if_neg c]
      refine ⟨fun x hx hq => ?_, ?_⟩
      · rcases Nat.eq_or_lt_of_le (Nat.le_of_lt_succ hx) with e | e
        · rw [e] at hq ⊢
          exact Nat.le_of_not_lt (fun hl => c ⟨hq, hl⟩)
        · exact h1 x e hq
      · rcases h2 with h | ⟨x, hx, hr⟩
        · exact Or.inl h
        · exact Or.inr ⟨x, by omega, hr⟩
theorem INV_pp {τ τ' : Row} (hK : RK τ) (hI : INV τ) {p i w : Nat} (hp : p < 3) (hi : i < 16) (hb0 : τ (204 + p) ≠ 0) (htr : τ 869 ≤ i) (hop : i + 1 ≤ pre τ + 3) (hlk : lack τ p (i + 1) = 0) (hz : τ (789 + (16 * p + i)) = 0) (hw0 : w ≠ 0) (hw : bound τ p (i + 1) ≠ 0 → w = bound τ p (i + 1)) (h' : τ' (789 + (16 * p + i)) = w) (hoth : ∀ k, k ≠ 789 + (16 * p + i) → τ' k = τ k) : INV τ' := by
  obtain ⟨V, Pv, hA, hB, hC, hD, hE, hF⟩ := hI
  obtain ⟨β, hβ⟩ : ∃ β, β = τ (204 + p) := ⟨_, rfl⟩
  have hP := (hD.2.1 p i hp hi).1
  rw [hz, ← hβ] at hP
  rw [← hβ] at hb0
  have hmod : β % 3 = (p + 1) % 3 := by
    rw [hβ] at hb0 ⊢
    exact (hD.1 p hp).2 hb0
  have hO : OP τ τ' := OP_same (hoth _ (by omega)) (fun k hk => hoth _ (by omega))
  obtain ⟨P', hP'⟩ : ∃ P' : GP, P' = fun j b => if j = i ∧ b = β then w else Pv j b := ⟨_, rfl⟩
  have hPe : P' i β = w := by rw [hP']; exact if_pos ⟨rfl, rfl⟩
  have hPn : ∀ j b, ¬ (j = i ∧ b = β) → P' j b = Pv j b := fun j b h => by rw [hP']; exact if_neg h
  have hPz : ∀ j b, Pv j b ≠ 0 → P' j b = Pv j b := fun j b h => hPn j b (fun ⟨h1, h2⟩ => h (by rw [h1, h2]; exact hP.symm))
  have h4 : ∀ q, q < 3 → τ' (204 + q) = τ (204 + q) := fun q hq => hoth _ (by omega)
  have h69 : τ' 869 = τ 869 := hoth _ (by omega)
  have hlk' : ∀ q j, q < 3 → j < 16 → j + 1 ≤ pre τ + 3 → lack τ q (j + 1) = 0 → lack τ' q (j + 1) = 0 := fun q j hq hj ho h => by
    rw [OP_lack hO hj ho (hoth (210 + q) (by omega))]
    exact h
  refine ⟨V, P', fun x j b hx hj hv => ?_, fun x j hx hj => ?_, fun q x hq hx hv => ?_, ⟨fun q hq => ?_, fun q j hq hj => ?_, fun j b hj hb => ?_, ?_⟩, ?_, ?_⟩
  · obtain ⟨h1, h2, h3⟩ := hA x j b hx hj hv
    rw [hoth (6 + x) (by omega), hPz j b h3]
    exact ⟨h1, h2, h3⟩
  · rw [hoth (12 + 2 * (16 * x + j)) (by omega), hoth (13 + 2 * (16 * x + j)) (by omega), h69]
    obtain ⟨b1, b2⟩ := hB x j hx hj
    refine ⟨b1, fun ht => ⟨fun hn => ?_, (b2 ht).2⟩⟩
    obtain ⟨v1, v2⟩ := (b2 ht).1 hn
    rw [hPz _ _ (hA x j _ hx hj v1).2.2]
    exact ⟨v1, v2⟩
  · rw [hoth (210 + q) (by omega)] at hv
    obtain ⟨c1, c2⟩ := hC q x hq hx hv
    rw [h4 q hq, hoth (6 + x) (by omega), h69]
    refine ⟨c1, fun j hj ht => ?_⟩
    rw [hoth (213 + 2 * (96 * q + 16 * x + j)) (by omega), hoth (214 + 2 * (96 * q + 16 * x + j)) (by omega)]
    obtain ⟨d1, d2, d3⟩ := c2 j hj ht
    refine ⟨d1, fun hn => ?_, d3⟩
    obtain ⟨v1, v2⟩ := d2 hn
    rw [hPz _ _ (hA x j _ hx hj v1).2.2]
    exact ⟨v1, v2⟩
  · rw [h4 q hq, hoth (210 + q) (by omega)]
    exact hD.1 q hq
  · rw [h4 q hq]
    by_cases e : q = p ∧ j = i
    · obtain ⟨rfl, rfl⟩ := e
      rw [h', ← hβ, hPe]
      exact ⟨rfl, fun _ => hlk' q j hq hj hop hlk⟩
    · rw [hoth (789 + (16 * q + j)) (by omega)]
      obtain ⟨d1, d2⟩ := hD.2.1 q j hq hj
      refine ⟨?_, fun hn => hlk' q j hq hj (ID_open hD hE hq hj hn) (d2 hn)⟩
      have hne2 : ¬ (j = i ∧ τ (204 + q) = β) := by
        rintro ⟨w1, w2⟩
        have h3 := (hD.1 q hq).2 (fun z => hb0 (by rw [← w2, z]))
        rw [w2] at h3
        exact e ⟨by omega, w1⟩
      rw [hPn j _ hne2]
      exact d1
  · rw [h4 ((b + 2) % 3) (by omega)]
    by_cases e : j = i ∧ b = β
    · obtain ⟨rfl, rfl⟩ := e
      rw [show (b + 2) % 3 = p from by omega, ← hβ]
      exact ⟨hb0, Nat.le_refl _⟩
    · rw [hPn j b e] at hb
      exact hD.2.2.1 j b hj hb
  · rw [h69]
    exact Nat.le_trans hD.2.2.2 hO.2.1
  · -- what a ballot may propose
    have key : ∀ b, 0 < b → b < β → Pv i b ≠ w → SAFE τ V i b := by
      intro b hb0 hb1 hb2
      obtain ⟨Q, hQ⟩ : ∃ Q, Q = vo τ (i + 1) &&& τ (210 + p) := ⟨_, rfl⟩
      have hv := vo_lt hK.1 (s := i + 1) (by omega)
      have hps := hK.1.2.2.1 p hp
      obtain ⟨m1, m2⟩ := bdN_sp τ p i Q 6
      have hbd : bound τ p (i + 1) = (bdN τ p (i + 1) Q 6).2 := by rw [hQ]; rfl
      have hqs : ∀ x, x < 6 → hs Q x = (hs (vo τ (i + 1)) x && hs (τ (210 + p)) x) := fun x hx => by rw [hQ]; exact and_hs _ hv _ hps x hx
      have hcard : fir τ (i + 1) ≤ cntN (hs Q) 6 := by
        unfold lack at hlk
        rw [← hQ, pc_cnt Q (by rw [hQ]; exact and_lt _ hv _ hps)] at hlk
        omega
      -- if none of the tellers has voted in b
      have all : (∀ x, x < 6 → hs Q x = true → V x i b = false) → SAFE τ V i b := by
        intro hall
        unfold SAFE
        refine Nat.le_trans hcard (cnt_mono 6 (fun x hx hq => ?_))
        have h3 := hq
        rw [hqs x hx, Bool.and_eq_true] at h3
        simp only [Bool.and_eq_true, decide_eq_true_eq, Bool.not_eq_true']
        have := (hC p x hp hx h3.2).1
        exact ⟨h3.1, by omega, hall x hx hq⟩
      have tell : ∀ x, x < 6 → hs Q x = true → V x i b = true → b ≤ (bdN τ p (i + 1) Q 6).1 := by
        intro x hx hq hvx
        have h3 := hq
        rw [hqs x hx, Bool.and_eq_true] at h3
        exact Nat.le_trans (((hC p x hp hx h3.2).2 i hi htr).2.2 b hvx (by omega)) (m1 x hx hq)
      by_cases hlt : (bdN τ p (i + 1) Q 6).1 < b
      · refine all (fun x hx hq => ?_)
        cases hvx : V x i b with
        | false => rfl
        | true =>
          have := tell x hx hq hvx
          omega
      · rcases m2 with ⟨z1, _⟩ | ⟨x, hx, hq, e1, e2, e3⟩
        · omega
        · have h3 := hq
          rw [hqs x hx, Bool.and_eq_true] at h3
          obtain ⟨v1, v2⟩ := ((hC p x hp hx h3.2).2 i hi htr).2.1 e2
          rw [← e1] at v1 v2
          have hPB := (hA x i _ hx hi v1).2.2
          rw [← e3, ← hbd] at v2
          have hwB : w = bound τ p (i + 1) := hw (by rw [v2]; exact hPB)
          rw [hwB, v2] at hb2
          have hlt2 : b < (bdN τ p (i + 1) Q 6).1 := by
            rcases Nat.eq_or_lt_of_le (Nat.le_of_not_lt hlt) with e | e
            · exact absurd (by rw [e]) hb2
            · exact e
          exact (hE i _ hi hPB).2 b hb0 hlt2 hb2
    have sf : ∀ j b, j < 16 → j + 1 ≤ pre τ + 3 → SAFE τ V j b → SAFE τ' V j b := fun j b hj ho h => SAFE_mono hO hj ho (fun x hx h1 h2 => ⟨by rw [hoth (6 + x) (by omega)]; exact h1, h2⟩) h
    intro j b' hj hb'
    by_cases e : j = i ∧ b' = β
    · obtain ⟨rfl, rfl⟩ := e
      refine ⟨Nat.le_trans hop (by have := hO.2.1; omega), fun b g0 g1 g2 => sf j b hj hop (key b g0 g1 ?_)⟩
      rw [hPe, hPn j b (fun q => by omega)] at g2
      exact g2
    · rw [hPn j b' e] at hb'
      obtain ⟨h1, h2⟩ := hE j b' hj hb'
      refine ⟨Nat.le_trans h1 (by have := hO.2.1; omega), fun b g0 g1 g2 => sf j b hj h1 (h2 b g0 g1 ?_)⟩
      rw [hPn j b' e] at g2
      by_cases e2 : j = i ∧ b = β
      · obtain ⟨rfl, rfl⟩ := e2
        rw [← hP]
        exact fun q => hb' q.symm
      · rw [hPn j b e2] at g2
        exact g2
  · intro j hj hn
    rw [hoth (837 + j) (by omega)] at hn
    obtain ⟨h1, h2⟩ := hF j hj hn
    have hn2 : Pv j (τ (853 + j)) ≠ 0 := by rw [h1]; exact hn
    have ho := (hE j _ hj hn2).1
    rw [hoth (837 + j) (by omega), hoth (853 + j) (by omega), OP_sec hO hj ho, hO.2.2 j hj ho, hPz _ _ hn2]
    exact ⟨h1, h2⟩
