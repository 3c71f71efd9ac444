/-! p25: ballots(): prepare and promise -/
/-- an event comes to true; the state is the same, or one act further -/
def EV (S : St) (r : Option (Bool × Mem)) : Prop := ∃ g' S', r = some (true, g') ∧ RC g' S' ∧ SV S' ∧ (S' = S ∨ ∃ ρ, S' = acted ρ S)
theorem EV_of {S S' : St} {g' : Mem} {x : Int32 × Row} (r1 : RC g' S') (v1 : SV S') (h : x.1 < 0 ∧ S' = S ∨ ¬ x.1 < 0 ∧ S' = acted x.2 S) : EV S (some (true, g')) :=
  ⟨g', S', rfl, r1, v1, h.elim (fun q => Or.inl q.2) (fun q => Or.inr ⟨_, q.2⟩)⟩
theorem nI_ne_neg {n : Nat} {v : Int32} (h : n < 2 ^ 31) (hv : v < 0) : ¬ nI n = v := fun q => nI_pos h (by rw [q]; exact hv)
theorem cnt_zero {P : Nat → Bool} : ∀ n, (∀ i, i < n → P i = false) → cntN P n = 0 := by
  intro n
  induction n with
  | zero => intro _; rfl
  | succ n ih =>
    intro h
    show cntN P n + (if P n then 1 else 0) = 0
    rw [ih (fun i hi => h i (by omega)), h n (by omega), if_neg (by decide)]
section BALL
variable {g : Mem} {τ : Row} {hn : Nat} {hist : Nat → Row} {kf : Bool} {sn : Row} {tn : Nat} {txt : Nat → Nat} {rf : Option (Nat × Int32 × Nat)}
theorem nb_sp (τ : Row) {p : Nat} (hp : p < 3) : τ (204 + p) < nb τ p ∧ τ (207 + p) < nb τ p ∧ nb τ p % 3 = (p + 1) % 3 ∧ (nb τ p ≤ 3 ∨ nb τ p ≤ τ (204 + p) + 3 ∨ nb τ p ≤ τ (207 + p) + 3) := by
  have h1 := Nat.le_max_left (τ (204 + p)) (τ (207 + p))
  have h2 := Nat.le_max_right (τ (204 + p)) (τ (207 + p))
  have h3 : max (τ (204 + p)) (τ (207 + p)) = τ (204 + p) ∨ max (τ (204 + p)) (τ (207 + p)) = τ (207 + p) := by
    rcases Nat.le_total (τ (204 + p)) (τ (207 + p)) with q | q
    · exact Or.inr (Nat.max_eq_right q)
    · exact Or.inl (Nat.max_eq_left q)
  unfold nb
  generalize max (τ (204 + p)) (τ (207 + p)) = m at h1 h2 h3
  omega
theorem EV_prepare (hR : RC g (τ, hn, hist, kf, sn, tn, txt, rf)) (hS : SV (τ, hn, hist, kf, sn, tn, txt, rf)) {p a : Nat} (hp : p < 3) (ha : a < 6) (a5 a6 : Int32) : EV (τ, hn, hist, kf, sn, tn, txt, rf) (f_L_ballots 0 (nI p) (nI a) a5 a6 g) := by
  have hK : RK τ := hS.1.1
  obtain ⟨g1, ⟨τ1, hn1, hist1, kf1, sn1, tn1, txt1, rf1⟩, e1, r1, v1, et, eS⟩ := A_prepare hR hS hp
  have hI1 : RI τ1 := v1.1.1.1
  obtain ⟨n1, n2, n3, n4⟩ := nb_sp τ hp
  have b1 := hK.1.1 (204 + p) (by omega)
  have b2 := hK.1.1 (207 + p) (by omega)
  have fin := EV_of r1 v1 eS
  unfold f_L_ballots
  rw [R_p0 hR.1 hK.1 hp, bnd_some, R_a1 hR.1 hK.1 ha, bnd_some, R_p2 hR.1 hK.1 hp, bnd_some, R_a0 hR.1 hK.1 ha, bnd_some, if_pos rfl, R_p1 hR.1 hK.1 hp, bnd_some, e1, bd2_some]
  unfold s_prepareN at et ⊢
  by_cases hq : nb τ p ≤ 999
  · rw [if_pos hq] at et ⊢
    have et : τ1 = prR τ p (nb τ p) := et
    dsimp only
    have k : f_L_ballots_J117 (nI p) g1 = some (true, g1) := by
      rw [f_L_ballots_J117, R_p2 r1.1 hI1 hp, bnd_some, R_p3 r1.1 hI1 hp, bnd_some, et]
      have z1 : prR τ p (nb τ p) (210 + p) = 0 := by unfold prR; rw [if_neg (by omega), if_pos rfl]
      have z2 : cntN (fun j => decide (prR τ p (nb τ p) (789 + (16 * p + j)) ≠ 0)) 16 = 0 := cnt_zero 16 (fun j hj => decide_eq_false (fun q => q (by unfold prR; rw [if_neg (by omega), if_neg (by omega), if_pos (by omega)])))
      rw [z1, z2, nI_0, if_pos rfl, if_pos rfl]
    rw [if_neg (nI_ne_neg (by omega) (by decide)), if_neg (nI_ge n1 (by omega)), if_neg (nI_ge n2 (by omega)), z3, nI_1, pk_rem (by omega) (by omega) (by omega), pk_rem (by omega) (by omega) (by omega), if_pos (by rw [n3]), k]
    by_cases c1 : nb τ p ≤ 3
    · rw [if_pos (nI_le c1 (by omega))]
      exact fin
    · rw [if_neg (nI_ge (by omega) (by omega)), pk_sub (by omega)]
      by_cases c2 : nb τ p - 3 ≤ τ (204 + p)
      · rw [if_pos (nI_le c2 (by omega))]
        exact fin
      · rw [if_neg (nI_ge (by omega) (by omega)), if_neg (nI_nlt (by omega) (by omega))]
        exact fin
  · rw [if_neg hq]
    dsimp only
    rw [if_pos rfl]
    exact fin
theorem EV_promise (hR : RC g (τ, hn, hist, kf, sn, tn, txt, rf)) (hS : SV (τ, hn, hist, kf, sn, tn, txt, rf)) {p a k : Nat} (hp : p < 3) (ha : a < 6) (hk0 : k ≠ 0) (hk : k < 4) (a5 a6 : Int32) : EV (τ, hn, hist, kf, sn, tn, txt, rf) (f_L_ballots (nI k) (nI p) (nI a) a5 a6 g) := by
  have hK : RK τ := hS.1.1
  obtain ⟨g1, ⟨τ1, hn1, hist1, kf1, sn1, tn1, txt1, rf1⟩, e1, r1, v1, et, eS⟩ := A_promise hR hS hp ha
  have hI1 : RI τ1 := v1.1.1.1
  have b1 := hK.1.1 (204 + p) (by omega)
  have b2 := hK.1.1 (6 + a) (by omega)
  have b3 := hK.1.2.1 a ha
  have hps := hK.1.2.2.1 p hp
  have fin := EV_of r1 v1 eS
  have h1 := r1.2.2.1
  have h2 := r1.2.2.2.2.2.1
  unfold f_L_ballots
  rw [R_p0 hR.1 hK.1 hp, bnd_some, R_a1 hR.1 hK.1 ha, bnd_some, R_p2 hR.1 hK.1 hp, bnd_some, R_a0 hR.1 hK.1 ha, bnd_some, if_neg (nI_ne0 (by omega) (by omega)), if_neg (by rw [z4]; exact nI_ge (by omega) (by omega)), R_a2 hR.1 hK.1 ha, bnd_some, R_c6 hR.1 hK.1 hR.2.2.1 hR.2.2.2.2.2.1, bnd_some, e1, bd2_some, shr_bit _ hps a ha]
  unfold s_promiseN at et ⊢
  have hup : decide (nI (τ a) = 1) = decide (τ a = 1) := decide_eq_decide.mpr (by rw [z1, nI_eq (by omega) (by omega)])
  rw [hup]
  by_cases c0 : τ (204 + p) = 0
  · have hc : τ (204 + p) = 0 ∨ τ a ≠ 1 := Or.inl c0
    rw [if_pos hc] at et ⊢
    dsimp only
    rw [if_pos (by rw [c0]; rfl), f_L_ballots_J180, decide_eq_true rfl]
    exact fin
  · rw [if_neg (nI_ne0 (by omega) (by omega))]
    by_cases c1 : τ a = 1
    · have hc : ¬ (τ (204 + p) = 0 ∨ τ a ≠ 1) := fun q => q.elim c0 (fun q => q c1)
      rw [if_neg hc] at et ⊢
      rw [if_pos (decide_eq_true c1)]
      by_cases c2 : hs (τ (210 + p)) a = true
      · rw [if_pos c2] at et ⊢
        dsimp only
        rw [if_pos (by rw [c2]; rfl), decide_eq_true rfl]
        exact fin
      · rw [if_neg c2] at et ⊢
        rw [if_neg (by rw [bI_one]; exact c2)]
        by_cases c3 : τ (204 + p) ≤ τ (6 + a)
        · rw [if_pos c3] at et ⊢
          have et : τ1 = rfR τ p a 871 := et
          dsimp only
          have q1 : τ1 871 = τ 871 + 1 := by rw [et]; unfold rfR; rw [rup_eq]
          have q2 : τ (6 + a) ≤ τ1 (207 + p) := by
            rw [et]; unfold rfR
            rw [rup_ne (by omega), rup_eq]
            exact Nat.le_max_right _ _
          have q3 : τ1 (210 + p) = τ (210 + p) := by rw [et]; unfold rfR; rw [rup_ne (by omega), rup_ne (by omega)]
          have q4 := hI1.1 (207 + p) (by omega)
          rw [if_pos (nI_le c3 (by omega)), if_pos (by rw [z100, nI_add]), R_c6 r1.1 hI1 h1 h2, bnd_some, q1, nI_1, if_pos rfl, R_p1 r1.1 hI1 hp, bnd_some, if_neg (nI_nlt q2 (by omega)), R_p2 r1.1 hI1 hp, bnd_some, q3, if_pos rfl]
          exact fin
        · rw [if_neg c3] at et ⊢
          have et : τ1 = pmR τ p a := et
          dsimp only
          have q1 : τ1 (6 + a) = τ (204 + p) := by rw [et]; unfold pmR; rw [rup_ne (by omega), telR_ne (by omega), rup_eq]
          have q2 : τ1 (210 + p) = τ (210 + p) + 2 ^ a := by rw [et]; unfold pmR; rw [rup_eq]
          have q3 : nI (τ (210 + p)) ||| ((1 : Int32) <<< (nI a &&& 31)) = nI (τ (210 + p) + 2 ^ a) := by rw [or_nI _ hps a ha, if_neg c2]
          rw [if_neg (nI_ge (by omega) (by omega)), if_pos rfl, R_a1 r1.1 hI1 ha, bnd_some, q1, if_pos rfl, R_p2 r1.1 hI1 hp, bnd_some, q2, if_pos q3.symm]
          exact fin
    · have hc : τ (204 + p) = 0 ∨ τ a ≠ 1 := Or.inr c1
      rw [if_pos hc] at et ⊢
      dsimp only
      rw [if_neg (by rw [decide_eq_true_eq]; exact c1), f_L_ballots_J180, decide_eq_true rfl]
      exact fin
end BALL
