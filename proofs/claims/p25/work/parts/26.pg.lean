/-! the class's acts: prepare, promise, propose, vote, trim -/
theorem rup_comm (τ : Row) {i j x y : Nat} (h : i ≠ j) : rup (rup τ i x) j y = rup (rup τ j y) i x := by
  funext k
  unfold rup
  by_cases h1 : k = j
  · rw [if_pos h1, if_neg (by omega), if_pos h1]
  · rw [if_neg h1]
    by_cases h2 : k = i
    · rw [if_pos h2, if_pos h2]
    · rw [if_neg h2, if_neg h2, if_neg h1]
theorem C_nextBallot {g : Mem} {o : Nat} {τ : Row} (hC : CR g o τ) (h : RI τ) {p : Nat} (hp : p < 3) : f_X2_nextBallot o (nI p) g = some (nI (nb τ p)) := by
  unfold f_X2_nextBallot
  obtain ⟨c0, c1, c2, c3, c4, a1, a2, a3, a4, a5, a6, a7, a8, a10, a11⟩ := hC
  have h1 := h.1 (204 + p) (by omega)
  have h2 := h.1 (207 + p) (by omega)
  rw [rd_nI hp (by omega), bnd_some, rd_nI hp (by omega), bnd_some, a4 p hp, a5 p hp, imax_nI (by omega) (by omega), lt1, z3, nI_add, z1, pk_sub (by omega), pk_sub (by omega), pk_div (by omega) (by omega) (by omega), lt1, pk_mul, nI_add, nI_add]
  unfold nb
  rw [show max (τ (204 + p)) (τ (207 + p)) + 3 - 1 - p = max (τ (204 + p)) (τ (207 + p)) + 2 - p from by omega]
theorem CR_prep {g : Mem} {o : Nat} {τ : Row} (hC : CR g o τ) {p b : Nat} (hp : p < 3) : CR (ofr (m_up (m_up g (o + 4) p (nI b)) (o + 6) p 0) o p 0) o (prR τ p b) := by
  obtain ⟨c0, c1, c2, c3, c4, a1, a2, a3, a4, a5, a6, a7, a8, a10, a11⟩ := hC
  have hof : ∀ q k, q ≠ o + 7 → ofr (m_up (m_up g (o + 4) p (nI b)) (o + 6) p 0) o p 0 q k = m_up (m_up g (o + 4) p (nI b)) (o + 6) p 0 q k := fun q k hq => by unfold ofr; rw [if_neg (fun z => hq z.1)]
  have pu : ∀ i, i < 6 → prR τ p b i = τ i := fun i hi => prR_ne (by omega) (by omega) (by omega) (by omega)
  refine ⟨?_, ?_, ?_, ?_, ?_, ?_, ?_, ?_, ?_, ?_, ?_, ?_, ?_, ?_, ?_⟩
  · rw [hof _ _ (by omega), mu_o (by omega), mu_o (by omega), c0]
    unfold upm
    rw [pu 0 (by omega), pu 1 (by omega), pu 2 (by omega), pu 3 (by omega), pu 4 (by omega), pu 5 (by omega)]
  · rw [hof _ _ (by omega), mu_o (by omega), mu_o (by omega), c1, prR_ne (by omega) (by omega) (by omega) (by omega)]
  · rw [hof _ _ (by omega), mu_o (by omega), mu_o (by omega), c2, prR_ne (by omega) (by omega) (by omega) (by omega)]
  · rw [hof _ _ (by omega), mu_o (by omega), mu_o (by omega), c3, prR_ne (by omega) (by omega) (by omega) (by omega)]
  · rw [hof _ _ (by omega), mu_o (by omega), mu_o (by omega), c4, prR_ne (by omega) (by omega) (by omega) (by omega)]
  · intro k hk
    rw [hof _ _ (by omega), mu_o (by omega), mu_o (by omega), a1 k hk, prR_ne (by omega) (by omega) (by omega) (by omega)]
  · intro k hk
    rw [hof _ _ (by omega), mu_o (by omega), mu_o (by omega), a2 k hk, prR_ne (by omega) (by omega) (by omega) (by omega)]
  · intro k hk
    rw [hof _ _ (by omega), mu_o (by omega), mu_o (by omega), a3 k hk, prR_ne (by omega) (by omega) (by omega) (by omega)]
  · intro k hk
    rw [hof _ _ (by omega), mu_o (by omega)]
    by_cases e : k = p
    · subst e
      rw [mu_eq]
      unfold prR
      rw [if_pos rfl]
    · rw [mu_k e, a4 k hk, prR_ne (by omega) (by omega) (by omega) (by omega)]
  · intro k hk
    rw [hof _ _ (by omega), mu_o (by omega), mu_o (by omega), a5 k hk, prR_ne (by omega) (by omega) (by omega) (by omega)]
  · intro k hk
    rw [hof _ _ (by omega)]
    by_cases e : k = p
    · subst e
      rw [mu_eq]
      unfold prR
      rw [if_neg (by omega), if_pos rfl]
      rfl
    · rw [mu_k e, mu_o (by omega), a6 k hk, prR_ne (by omega) (by omega) (by omega) (by omega)]
  · intro k hk
    unfold ofr
    by_cases e : 16 * p + 0 ≤ k ∧ k < 16 * p + 16
    · rw [if_pos ⟨rfl, e⟩]
      unfold prR
      rw [if_neg (by omega), if_neg (by omega), if_pos (by omega)]
      rfl
    · rw [if_neg (fun z => e z.2), mu_o (by omega), mu_o (by omega), a7 k hk, prR_ne (by omega) (by omega) (by omega) (by omega)]
  · intro p' a s hp' ha hs' hb
    by_cases e : p' = p
    · subst e
      have : prR τ p' b (210 + p') = 0 := by unfold prR; rw [if_neg (by omega), if_pos rfl]
      rw [this, hs_0] at hb
      cases hb
    · rw [prR_ne (by omega) (by omega) (by omega) (by omega)] at hb
      obtain ⟨e1, e2⟩ := a8 p' a s hp' ha hs' hb
      rw [hof _ _ (by omega), mu_o (by omega), mu_o (by omega), hof _ _ (by omega), mu_o (by omega), mu_o (by omega), prR_ne (by omega) (by omega) (by omega) (by omega), prR_ne (by omega) (by omega) (by omega) (by omega)]
      exact ⟨e1, e2⟩
  · intro k hk
    rw [hof _ _ (by omega), mu_o (by omega), mu_o (by omega), a10 k hk, prR_ne (by omega) (by omega) (by omega) (by omega)]
  · intro k hk
    rw [hof _ _ (by omega), mu_o (by omega), mu_o (by omega), a11 k hk, prR_ne (by omega) (by omega) (by omega) (by omega)]
theorem Fr_ofr {o p lo : Nat} {g : Mem} : Fr o g (ofr g o p lo) := fun q hq => by
  funext k
  unfold ofr
  rw [if_neg (fun z => by omega)]
theorem C_prepare {g : Mem} {o : Nat} {τ : Row} (hC : CR g o τ) (h : RI τ) (a : Int32) : ∃ g', f_X2_startBallot o a g = some ((s_prepare a τ).1, g') ∧ CR g' o (s_prepare a τ).2 ∧ Fr o g g' := by
  unfold f_X2_startBallot s_prepare
  cases hv : f_X4_isProposer a with
  | false => exact ⟨g, rfl, hC, Fr.rf⟩
  | true =>
    obtain ⟨p, hp, rfl⟩ := isP_of hv
    rw [if_pos rfl, if_pos rfl, nI_clamp (by omega), C_nextBallot hC h hp, bnd_some]
    unfold s_prepareN
    have h1 := h.1 (204 + p) (by omega)
    have h2 := h.1 (207 + p) (by omega)
    have hb : nb τ p < 2 ^ 31 := by unfold nb; omega
    by_cases e : nb τ p ≤ 999
    · rw [if_pos (by rw [z999]; exact nI_le e (by omega)), if_pos e, wr_nI hp (by omega), bnd_some, wr_nI hp (by omega), bnd_some]
      have key := lp_C_offers (o := o) (fun g9 => some (nI (nb τ p), g9)) (v := nI (nb τ p)) hp fuel0 0 (m_up (m_up g (o + 4) p (nI (nb τ p))) (o + 6) p 0) (by omega) (by have := fuel_gt; omega)
      exact ⟨_, key, CR_prep hC hp, Fr.tr (Fr.tr (Fr.up (by omega)) (Fr.up (by omega))) Fr_ofr⟩
    · rw [if_neg (by rw [z999]; exact nI_ge (by omega) hb), if_neg e]
      exact ⟨g, rfl, hC, Fr.rf⟩
theorem C_refuse {g : Mem} {o : Nat} {τ : Row} (hC : CR g o τ) (h : RI τ) {p a : Nat} (hp : p < 3) (ha : a < 6) : f_X2_refuse o (nI p) (nI a) g = some (nI (100 + τ (6 + a)), m_up g (o + 5) p (nI (max (τ (207 + p)) (τ (6 + a))))) := by
  unfold f_X2_refuse
  obtain ⟨c0, c1, c2, c3, c4, a1, a2, a3, a4, a5, a6, a7, a8, a10, a11⟩ := hC
  have h1 := h.1 (6 + a) (by omega)
  have h2 := h.1 (207 + p) (by omega)
  rw [rd_nI hp (by omega), bnd_some, rd_nI ha (by omega), bnd_some, a5 p hp, a1 a ha, imax_nI (by omega) (by omega), wr_nI hp (by omega), bnd_some, rd_nI ha (by omega), bnd_some, mu_o (by omega), a1 a ha, z100, nI_add]
theorem telR_ne {τ : Row} {p a k : Nat} (h : ¬ (213 + 2 * (96 * p + 16 * a) ≤ k ∧ k < 213 + 2 * (96 * p + 16 * a) + 32)) : telR τ p a k = τ k := if_neg h
theorem CR_prom {g : Mem} {o : Nat} {τ : Row} (hC : CR g o τ) {p a : Nat} (hp : p < 3) (ha : a < 6) (hk64 : τ (210 + p) < 64) (hno : hs (τ (210 + p)) a = false) : CR (tel (m_up g (o + 6) p (nI (τ (210 + p) + 2 ^ a))) o p a 0) o (rup (telR τ p a) (210 + p) (τ (210 + p) + 2 ^ a)) := by
  obtain ⟨c0, c1, c2, c3, c4, a1, a2, a3, a4, a5, a6, a7, a8, a10, a11⟩ := hC
  have hof : ∀ q k, q ≠ o + 8 → q ≠ o + 9 → tel (m_up g (o + 6) p (nI (τ (210 + p) + 2 ^ a))) o p a 0 q k = m_up g (o + 6) p (nI (τ (210 + p) + 2 ^ a)) q k := fun q k hq hq2 => by unfold tel; rw [if_neg (fun z => hq z.1), if_neg (fun z => hq2 z.1)]
  refine ⟨?_, ?_, ?_, ?_, ?_, ?_, ?_, ?_, ?_, ?_, ?_, ?_, ?_, ?_, ?_⟩
  · rw [hof _ _ (by omega) (by omega), mu_o (by omega), c0]
    unfold upm
    rw [rup_ne (by omega), rup_ne (by omega), rup_ne (by omega), rup_ne (by omega), rup_ne (by omega), rup_ne (by omega), telR_ne (by omega), telR_ne (by omega), telR_ne (by omega), telR_ne (by omega), telR_ne (by omega), telR_ne (by omega)]
  · rw [hof _ _ (by omega) (by omega), mu_o (by omega), c1, rup_ne (by omega), telR_ne (by omega)]
  · rw [hof _ _ (by omega) (by omega), mu_o (by omega), c2, rup_ne (by omega), telR_ne (by omega)]
  · rw [hof _ _ (by omega) (by omega), mu_o (by omega), c3, rup_ne (by omega), telR_ne (by omega)]
  · rw [hof _ _ (by omega) (by omega), mu_o (by omega), c4, rup_ne (by omega), telR_ne (by omega)]
  · intro k hk
    rw [hof _ _ (by omega) (by omega), mu_o (by omega), a1 k hk, rup_ne (by omega), telR_ne (by omega)]
  · intro k hk
    rw [hof _ _ (by omega) (by omega), mu_o (by omega), a2 k hk, rup_ne (by omega), telR_ne (by omega)]
  · intro k hk
    rw [hof _ _ (by omega) (by omega), mu_o (by omega), a3 k hk, rup_ne (by omega), telR_ne (by omega)]
  · intro k hk
    rw [hof _ _ (by omega) (by omega), mu_o (by omega), a4 k hk, rup_ne (by omega), telR_ne (by omega)]
  · intro k hk
    rw [hof _ _ (by omega) (by omega), mu_o (by omega), a5 k hk, rup_ne (by omega), telR_ne (by omega)]
  · intro k hk
    rw [hof _ _ (by omega) (by omega)]
    by_cases e : k = p
    · subst e
      rw [mu_eq, rup_eq]
    · rw [mu_k e, a6 k hk, rup_ne (by omega), telR_ne (by omega)]
  · intro k hk
    rw [hof _ _ (by omega) (by omega), mu_o (by omega), a7 k hk, rup_ne (by omega), telR_ne (by omega)]
  · intro p' b s hp' hb hs' hbit
    rw [rup_ne (by omega), rup_ne (by omega)]
    by_cases e : p' = p ∧ b = a
    · obtain ⟨rfl, rfl⟩ := e
      have i1 : 96 * p' + 16 * b + 0 ≤ 96 * p' + 16 * b + s ∧ 96 * p' + 16 * b + s < 96 * p' + 16 * b + 16 := by omega
      have v1 := a2 (16 * b + s) (by omega)
      have v2 := a3 (16 * b + s) (by omega)
      have t1 : telR τ p' b (213 + 2 * (96 * p' + 16 * b + s)) = τ (12 + 2 * (16 * b + s)) := by
        unfold telR
        rw [if_pos (by omega)]
        exact congrArg τ (by omega)
      have t2 : telR τ p' b (214 + 2 * (96 * p' + 16 * b + s)) = τ (13 + 2 * (16 * b + s)) := by
        unfold telR
        rw [if_pos (by omega)]
        exact congrArg τ (by omega)
      rw [t1, t2]
      unfold tel
      refine ⟨?_, ?_⟩
      · rw [if_pos ⟨rfl, i1⟩, mu_o (by omega), show 96 * p' + 16 * b + s - 96 * p' = 16 * b + s from by omega, v1]
      · rw [if_neg (fun z => absurd z.1 (by omega)), if_pos ⟨rfl, i1⟩, mu_o (by omega), show 96 * p' + 16 * b + s - 96 * p' = 16 * b + s from by omega, v2]
    · have hbit2 : hs (τ (210 + p')) b = true := by
        by_cases e1 : p' = p
        · subst e1
          rw [rup_eq, add_hs _ hk64 a ha hno b hb] at hbit
          simp only [Bool.or_eq_true, beq_iff_eq] at hbit
          rcases hbit with hbit | hbit
          · exact hbit
          · exact absurd ⟨rfl, hbit⟩ e
        · rw [rup_ne (by omega), telR_ne (by omega)] at hbit
          exact hbit
      obtain ⟨e1, e2⟩ := a8 p' b s hp' hb hs' hbit2
      have hr : ¬ (96 * p + 16 * a + 0 ≤ 96 * p' + 16 * b + s ∧ 96 * p' + 16 * b + s < 96 * p + 16 * a + 16) := by
        intro z
        apply e
        omega
      rw [telR_ne (by omega), telR_ne (by omega)]
      unfold tel
      refine ⟨?_, ?_⟩
      · rw [if_neg (fun z => hr z.2), if_neg (fun z => absurd z.1 (by omega)), mu_o (by omega)]
        exact e1
      · rw [if_neg (fun z => absurd z.1 (by omega)), if_neg (fun z => hr z.2), mu_o (by omega)]
        exact e2
  · intro k hk
    rw [hof _ _ (by omega) (by omega), mu_o (by omega), a10 k hk, rup_ne (by omega), telR_ne (by omega)]
  · intro k hk
    rw [hof _ _ (by omega) (by omega), mu_o (by omega), a11 k hk, rup_ne (by omega), telR_ne (by omega)]
theorem Fr_tel {o p a lo : Nat} {g : Mem} : Fr o g (tel g o p a lo) := fun q hq => by
  funext k
  unfold tel
  rw [if_neg (fun z => by omega), if_neg (fun z => by omega)]
theorem C_promise {g : Mem} {o : Nat} {τ : Row} (hC : CR g o τ) (h : RI τ) (a1 a2 : Int32) : ∃ g', f_X2_askPromise o a1 a2 g = some ((s_promise a1 a2 τ).1, g') ∧ CR g' o (s_promise a1 a2 τ).2 ∧ Fr o g g' := by
  unfold f_X2_askPromise s_promise
  cases hv : f_X4_isProposer a1 with
  | false => exact ⟨g, rfl, hC, Fr.rf⟩
  | true =>
    cases hw : f_X4_isAcceptor a2 with
    | false => exact ⟨g, rfl, hC, Fr.rf⟩
    | true =>
      obtain ⟨p, hp, rfl⟩ := isP_of hv
      obtain ⟨a, ha, rfl⟩ := isA_of hw
      have b1 := h.1 (204 + p) (by omega)
      have b2 := h.1 (6 + a) (by omega)
      have b3 := h.2.2.1 p hp
      have hC0 := hC
      obtain ⟨c0, c1, c2, c3, c4, a1, a2, a3, a4, a5, a6, a7, a8, a10, a11⟩ := hC
      rw [if_pos rfl, if_pos rfl, if_pos (c := (true && true) = true) rfl, nI_clamp (by omega), nI_clamp (by omega), rd_nI hp (by omega), bnd_some, a4 p hp]
      unfold s_promiseN
      by_cases e1 : τ (204 + p) = 0
      · rw [if_pos (by rw [e1]; rfl), if_pos (Or.inl e1)]
        exact ⟨g, rfl, hC0, Fr.rf⟩
      · rw [if_neg (fun z => e1 ((nI_z (by omega)).mp z)), c0, has_nI _ (upm_lt h) _ ha, hs_upm h ha]
        by_cases e2 : τ a = 1
        · rw [decide_eq_true e2, if_pos rfl, if_neg (fun z => z.elim e1 (fun q => q e2)), rd_nI hp (by omega), bnd_some, a6 p hp, has_nI _ b3 _ ha]
          cases e3 : hs (τ (210 + p)) a with
          | true =>
            rw [if_pos rfl, if_pos rfl]
            exact ⟨g, rfl, hC0, Fr.rf⟩
          | false =>
            rw [if_neg (by decide), if_neg (by decide), rd_nI ha (by omega), bnd_some, bnd_some, a1 a ha]
            by_cases e4 : τ (204 + p) ≤ τ (6 + a)
            · rw [if_neg (nI_nlt e4 (by omega)), if_pos e4, lt1, c3, nI_1]
              have hC1 := CR_f3 hC0 (τ 871 + 1)
              have hI1 : RI (rup τ 871 (τ 871 + 1)) := by
                refine RI_rup h _ _ ?_ ?_ ?_ ?_ ?_ ?_ ?_ ?_
                all_goals omega
              rw [C_refuse hC1 hI1 hp ha, bd2_some, rup_ne (by omega), rup_ne (by omega)]
              refine ⟨_, rfl, ?_, Fr.tr Fr.up0 (Fr.up (by omega))⟩
              unfold rfR
              rw [rup_comm _ (by omega)]
              exact CR_5 hC1 hp _
            · rw [if_pos (nI_lt (by omega) (by omega)), if_neg e4, bnd_some, wr_nI ha (by omega), bnd_some, rd_nI hp (by omega), bnd_some, wr_nI hp (by omega), bnd_some, mu_o (by omega), a6 p hp, or_nI _ b3 _ ha, e3, if_neg (by decide), C_tell hp ha, bnd_some]
              have hC1 := CR_1 hC0 ha (τ (204 + p))
              have hC2 := CR_prom hC1 hp ha (by rw [rup_ne (by omega)]; exact b3) (by rw [rup_ne (by omega)]; exact e3)
              rw [rup_ne (τ := τ) (k := 6 + a) (j := 210 + p) (by omega)] at hC2
              have hI2 := RI_pmR h hp ha e3
              have hv := C_votesOf hC2 hI2 ha (t := 16) (by omega)
              rw [z16, hv, bnd_some]
              refine ⟨_, ?_, hC2, Fr.tr (Fr.tr (Fr.up (by omega)) (Fr.up (by omega))) Fr_tel⟩
              refine congrArg some (Prod.ext (congrArg nI (cntN_congr 16 (fun j hj => ?_))) rfl)
              rw [rup_ne (by omega), telR_ne (by omega), rup_ne (by omega)]
        · rw [decide_eq_false e2, if_neg (by decide), if_pos (Or.inr e2)]
          exact ⟨g, rfl, hC0, Fr.rf⟩
