/-! the reference's acts: promise, propose, vote, trim -/
def NG (F : Option (Int32 × Mem)) (x : Int32 × Row) (g g1 : Mem) : Prop := ∃ g', F = some (x.1, g') ∧ (x.1 < 0 → g' = g) ∧ (¬ x.1 < 0 → MR g' x.2 ∧ F1 g1 g')
theorem NG_4 {τ : Row} {g g1 : Mem} : NG (some (-4, g)) (-4, τ) g g1 := ⟨g, rfl, fun _ => rfl, fun q => absurd (show (-4 : Int32) < 0 by decide) q⟩
theorem NG_5 {τ : Row} {g g1 : Mem} : NG (some (-5, g)) (-5, τ) g g1 := ⟨g, rfl, fun _ => rfl, fun q => absurd (show (-5 : Int32) < 0 by decide) q⟩
theorem NG_ok {ρ : Row} {g g1 g' : Mem} {x : Nat} (hx : x < 2 ^ 31) (m : MR g' ρ) (f : F1 g1 g') : NG (some (nI x, g')) (nI x, ρ) g g1 := ⟨g', rfl, fun q => absurd q (ltN hx), fun _ => ⟨m, f⟩⟩
theorem M_refuses {g : Mem} {τ : Row} (hM : MR g τ) (h : RI τ) {p a c : Nat} (hp : p < 3) (ha : a < 6) (hc : c = 871 ∨ c = 872) : ∃ g', f_X5_refuses (nI p) (nI a) (nI c) g = some (nI (100 + τ (6 + a)), g') ∧ MR g' (rfR τ p a c) ∧ F1 g g' := by
  unfold f_X5_refuses
  have b1 := h.1 (207 + p) (by omega)
  have b2 := h.1 (6 + a) (by omega)
  rw [z6, z207, nI_add, nI_add, M_rd hM (by omega), bnd_some, M_rd hM (by omega), bnd_some]
  have e1 : (if nI (τ (6 + a)) ≤ nI (τ (207 + p)) then (some (nI (τ (207 + p)))).bind fun x4 => (f_X5_refuses_J50 (nI c) (nI (τ (6 + a))) x4 (nI (207 + p)) g) else f_X5_refuses_J50 (nI c) (nI (τ (6 + a))) (nI (τ (6 + a))) (nI (207 + p)) g) = f_X5_refuses_J50 (nI c) (nI (τ (6 + a))) (nI (max (τ (207 + p)) (τ (6 + a)))) (nI (207 + p)) g := by
    by_cases e : τ (6 + a) ≤ τ (207 + p)
    · rw [if_pos (nI_le e (by omega)), bnd_some, Nat.max_eq_left e]
    · rw [if_neg (nI_ge (by omega) (by omega)), Nat.max_eq_right (by omega)]
  rw [e1]
  unfold f_X5_refuses_J50
  have h1 := MR_up hM (207 + p) (max (τ (207 + p)) (τ (6 + a)))
  rw [M_wr (by omega), bnd_some, M_rd h1 (by omega), bnd_some, nI_1, M_wr (by omega), bnd_some, z100, nI_add, rup_ne (by omega)]
  exact ⟨_, rfl, by
    have h2 := MR_up h1 c (τ c + 1)
    exact h2, F1.tr F1.up F1.up⟩
def telS (ρ : Row) (p a lo : Nat) : Row := fun k => if 213 + 2 * (96 * p + 16 * a) + 2 * lo ≤ k ∧ k < 213 + 2 * (96 * p + 16 * a) + 32 then ρ (k - 201 - 192 * p) else ρ k
theorem telS_step (ρ : Row) {p a j : Nat} (hp : p < 3) (ha : a < 6) (hj : j < 16) : telS (rup (rup ρ (213 + 2 * (96 * p + 16 * a + (j + 1) - 1)) (ρ (12 + 2 * (16 * a + (j + 1) - 1)))) (213 + 2 * (96 * p + 16 * a + (j + 1) - 1) + 1) (ρ (12 + 2 * (16 * a + (j + 1) - 1) + 1))) p a (j + 1) = telS ρ p a j := by
  funext k
  unfold telS
  by_cases h1 : 213 + 2 * (96 * p + 16 * a) + 2 * (j + 1) ≤ k ∧ k < 213 + 2 * (96 * p + 16 * a) + 32
  · rw [if_pos h1, if_pos (by omega), rup_ne (by omega), rup_ne (by omega)]
  · rw [if_neg h1]
    by_cases h2 : k = 213 + 2 * (96 * p + 16 * a + (j + 1) - 1) + 1
    · rw [h2, rup_eq, if_pos (by omega), show 213 + 2 * (96 * p + 16 * a + (j + 1) - 1) + 1 - 201 - 192 * p = 12 + 2 * (16 * a + (j + 1) - 1) + 1 from by omega]
    · by_cases h3 : k = 213 + 2 * (96 * p + 16 * a + (j + 1) - 1)
      · rw [h3, rup_ne (by omega), rup_eq, if_pos (by omega), show 213 + 2 * (96 * p + 16 * a + (j + 1) - 1) - 201 - 192 * p = 12 + 2 * (16 * a + (j + 1) - 1) from by omega]
      · rw [rup_ne h2, rup_ne h3, if_neg (by omega)]
theorem telS_16 (ρ : Row) (p a : Nat) : telS ρ p a 16 = ρ := by
  funext k
  unfold telS
  rw [if_neg (by omega)]
theorem telS_0 (ρ : Row) (p a : Nat) : telS ρ p a 0 = telR ρ p a := rfl
theorem lp_M_tell (K : Int32 → Mem → Option (Int32 × Mem)) {p a : Nat} (hp : p < 3) (ha : a < 6) : ∀ n j g ρ, j ≤ 16 → 16 - j < n → MR g ρ → (∀ i, i < 16 → ρ (12 + 2 * (16 * a + i)) < 2 ^ 31) → ∃ g', f_X5_promise_L124 K (nI p) (nI a) n (nI (votesN ρ a j)) (nI (j + 1)) g = K (nI (votesN ρ a 16)) g' ∧ MR g' (telS ρ p a j) ∧ F1 g g' := by
  intro n
  induction n with
  | zero => intro j g ρ _ h; omega
  | succ n ih =>
    intro j g ρ hj hn hM hB
    rw [f_X5_promise_L124]
    by_cases h6 : j = 16
    · subst h6
      rw [if_pos (by rw [z16]; exact nI_lt (by omega) (by omega)), telS_16]
      exact ⟨g, rfl, hM, F1.rf⟩
    · have hb := hB j (by omega)
      have e0 : 16 * a + (j + 1) - 1 = 16 * a + j := by omega
      have h1 := MR_up hM (213 + 2 * (96 * p + 16 * a + (j + 1) - 1)) (ρ (12 + 2 * (16 * a + (j + 1) - 1)))
      have h2 := MR_up h1 (213 + 2 * (96 * p + 16 * a + (j + 1) - 1) + 1) (ρ (12 + 2 * (16 * a + (j + 1) - 1) + 1))
      have hv : ∀ t, t ≤ 16 → votesN (rup (rup ρ (213 + 2 * (96 * p + 16 * a + (j + 1) - 1)) (ρ (12 + 2 * (16 * a + (j + 1) - 1)))) (213 + 2 * (96 * p + 16 * a + (j + 1) - 1) + 1) (ρ (12 + 2 * (16 * a + (j + 1) - 1) + 1))) a t = votesN ρ a t := fun t ht => cntN_congr t (fun i hi => by rw [rup_ne (by omega), rup_ne (by omega)])
      obtain ⟨g', e, m, f⟩ := ih (j + 1) _ _ (by omega) (by omega) h2 (fun i hi => by rw [rup_ne (by omega), rup_ne (by omega)]; exact hB i hi)
      rw [hv _ (by omega), hv _ (by omega)] at e
      rw [telS_step ρ hp ha (by omega)] at m
      refine ⟨g', ?_, m, F1.tr (F1.tr F1.up F1.up) f⟩
      rw [if_neg (by rw [z16]; exact nI_nlt (by omega) (by omega)), voteAt_nI (by omega), toldAt_nI (by omega), lt1, lt1, M_rd hM (by omega), bnd_some, M_wr (by omega), bnd_some, nI_1, M_rd h1 (by omega), bnd_some, nI_1, rup_ne (by omega), M_wr (by omega), bnd_some, M_rd h2 (by omega), bnd_some, rup_ne (by omega), rup_ne (by omega), lt1, lt1, lt1, lt1, nI_1, nI_1, add0, ← e]
      rw [show votesN ρ a (j + 1) = votesN ρ a j + (if decide (ρ (12 + 2 * (16 * a + j)) ≠ 0) = true then 1 else 0) from rfl]
      by_cases h3 : ρ (12 + 2 * (16 * a + j)) = 0
      · rw [if_pos (by rw [e0, h3]; decide), if_neg (by simp [h3])]
        rfl
      · rw [if_neg (by rw [e0, z0]; exact nI_ge (by omega) hb), if_pos (by simp [h3])]
theorem telR_rup (ρ : Row) {p a v : Nat} (hp : p < 3) (ha : a < 6) : telR (rup ρ (210 + p) v) p a = rup (telR ρ p a) (210 + p) v := by
  funext k
  unfold telR
  by_cases h1 : 213 + 2 * (96 * p + 16 * a) ≤ k ∧ k < 213 + 2 * (96 * p + 16 * a) + 32
  · rw [if_pos h1, rup_ne (by omega), rup_ne (by omega), if_pos h1]
  · rw [if_neg h1]
    by_cases h2 : k = 210 + p
    · rw [h2, rup_eq, rup_eq]
    · rw [rup_ne h2, rup_ne h2, if_neg h1]
theorem M_promise (a1 a2 : Int32) : MAct (f_X5_promise a1 a2) (s_promise a1 a2) := by
  intro g g1 τ hM h hr hM1
  unfold f_X5_promise s_promise
  rw [noP_eq, noA_eq]
  cases hv : f_X4_isProposer a1 with
  | false => exact ⟨g, rfl, fun _ => rfl, fun q => absurd (show (-1 : Int32) < 0 by decide) q⟩
  | true =>
    cases hw : f_X4_isAcceptor a2 with
    | false => exact ⟨g, rfl, fun _ => rfl, fun q => absurd (show (-1 : Int32) < 0 by decide) q⟩
    | true =>
      obtain ⟨p, hp, rfl⟩ := isP_of hv
      obtain ⟨a, ha, rfl⟩ := isA_of hw
      have b1 := h.1 (204 + p) (by omega)
      have b2 := h.1 (6 + a) (by omega)
      have b3 := h.2.2.1 p hp
      have b4 := h.2.1 a ha
      rw [if_neg (by decide), if_neg (by decide), if_pos (c := (true && true) = true) rfl, nI_clamp (by omega), nI_clamp (by omega), z204, nI_add, M_rd hM (by omega), bnd_some]
      unfold s_promiseN
      by_cases e1 : τ (204 + p) = 0
      · rw [if_pos (by rw [e1]; rfl), if_pos (Or.inl e1)]
        exact NG_4
      · rw [if_neg (fun z => e1 ((nI_z (by omega)).mp z)), Int32.zero_add, M_rd hM (by omega), bnd_some]
        by_cases e2 : τ a = 0
        · rw [if_pos (by rw [e2]; rfl), if_pos (Or.inr (by omega))]
          exact NG_4
        · rw [if_neg (fun z => e2 ((nI_z (by omega)).mp z)), if_neg (fun z => by omega), z210, nI_add, M_rd hM (by omega), bnd_some, isIn_nI _ b3 _ ha]
          cases e3 : hs (τ (210 + p)) a with
          | true =>
            rw [if_pos rfl, if_pos rfl]
            exact NG_5
          | false =>
            rw [if_neg (by decide), if_neg (by decide), hr, bnd_some, z6, nI_add, M_rd hM1 (by omega), bnd_some]
            by_cases e4 : τ (204 + p) ≤ τ (6 + a)
            · rw [if_neg (nI_nlt e4 (by omega)), if_pos e4]
              obtain ⟨g', e, m, f⟩ := M_refuses hM1 h hp ha (c := 871) (Or.inl rfl)
              rw [show (871 : Int32) = nI 871 from rfl, e, bd2_some]
              exact NG_ok (by omega) m f
            · have h1 := MR_up hM1 (6 + a) (τ (204 + p))
              have h2 := MR_up h1 (210 + p) (τ (210 + p) + 2 ^ a)
              rw [if_pos (nI_lt (by omega) (by omega)), if_neg e4, M_wr (by omega), bnd_some, M_rd h1 (by omega), bnd_some, rup_ne (by omega), or_nI _ b3 _ ha, e3, if_neg (by decide), M_wr (by omega), bnd_some]
              obtain ⟨g', e, m, f⟩ := lp_M_tell (fun x28 g29 => some (x28, g29)) hp ha fuel0 0 _ _ (by omega) (by have := fuel_gt; omega) h2 (fun i hi => by
                rw [rup_ne (by omega), rup_ne (by omega)]
                have := h.1 (12 + 2 * (16 * a + i)) (by omega)
                omega)
              rw [telS_0, telR_rup _ hp ha] at m
              have hc : votesN (rup (rup τ (6 + a) (τ (204 + p))) (210 + p) (τ (210 + p) + 2 ^ a)) a 16 = votesN τ a 16 := cntN_congr 16 (fun i hi => by rw [rup_ne (by omega), rup_ne (by omega)])
              have hle : votesN τ a 16 ≤ 16 := cntN_le _ 16
              rw [hc] at e
              refine Eq.mp (congrArg (fun z => NG z _ g g1) e.symm) ?_
              exact NG_ok (by omega) m (F1.tr (F1.tr F1.up F1.up) f)
