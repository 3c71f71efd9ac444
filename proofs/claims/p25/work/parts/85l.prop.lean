/-! p25: ballots(): propose -/
section BALL
variable {g : Mem} {τ : Row} {hn : Nat} {hist : Nat → Row} {kf : Bool} {sn : Row} {tn : Nat} {txt : Nat → Nat} {rf : Option (Nat × Int32 × Nat)}
theorem EV_propose' (hR : RC g (τ, hn, hist, kf, sn, tn, txt, rf)) (hS : SV (τ, hn, hist, kf, sn, tn, txt, rf)) {p i w : Nat} (hp : p < 3) (hi : i < 16) (hw1 : 1 ≤ w) (hw2 : w ≤ 99 ∨ 101 ≤ w ∧ w ≤ 163) : EV (τ, hn, hist, kf, sn, tn, txt, rf) (f_L_ballots_J355 (nI p) (nI (i + 1)) (nI (τ (204 + p))) (nI w) g) := by
  have hK : RK τ := hS.1.1
  obtain ⟨g1, ⟨τ1, hn1, hist1, kf1, sn1, tn1, txt1, rf1⟩, e1, r1, v1, et, eS⟩ := A_propose hR hS (s := i + 1) hp (by omega) (by omega) hw1 hw2
  have hI1 : RI τ1 := v1.1.1.1
  obtain ⟨g2, S2, e2, r2, v2, -, eS2⟩ := A_propose0 r1 v1 (s := i + 1) hp (by omega) (by omega)
  have hS2 : S2 = (τ1, hn1, hist1, kf1, sn1, tn1, txt1, rf1) := eS2.elim (fun q => q.2) (fun q => absurd (show (-2 : Int32) < 0 by decide) q.1)
  rw [hS2] at r2 v2
  have fin := EV_of r2 v2 eS
  have k472 : f_L_ballots_J472 (nI p) (nI (i + 1)) g1 = some (true, g2) := by
    rw [f_L_ballots_J472, e2, bd2_some]
    dsimp only
    rw [if_pos rfl]
  have b1 := hK.1.1 (204 + p) (by omega)
  have b2 := hK.1.2.2.2.2.2.1 (789 + (16 * p + i)) (by omega) (by omega)
  have b3 := hK.1.2.2.2.2.2.2.2
  have b4 := bound_lt hK.1 hp hi
  have b5 := fir_le (p := p) τ (i + 1)
  have hz : 789 + (16 * p + i) = 789 + (16 * p + (i + 1) - 1) := by omega
  -- what the answer is, by the rule
  have hmay : mayP τ p (i + 1) = true ↔ τ (204 + p) ≠ 0 ∧ τ 869 < i + 1 ∧ i + 1 ≤ pre τ + 3 ∧ lack τ p (i + 1) = 0 ∧ τ (789 + (16 * p + i)) = 0 := by
    unfold mayP
    simp only [Bool.and_eq_true, decide_eq_true_eq]
    rw [hz]
  have no : ∀ v11, mayP τ p (i + 1) ≠ true → EV (τ, hn, hist, kf, sn, tn, txt, rf) (f_L_ballots_J413 (nI p) (nI (i + 1)) (nI w) v11 g) := by
    intro v11 hm
    unfold s_proposeN at e1 et eS
    rw [if_neg hm] at e1
    rw [f_L_ballots_J413, f_L_ballots_J414, e1, bd2_some, if_pos rfl, f_L_ballots_J451, if_pos rfl, if_pos rfl, k472]
    exact fin
  rw [f_L_ballots_J355, R_d1 hR.1 hK.1 hp hi, bnd_some]
  by_cases c1 : τ (204 + p) = 0
  · rw [if_pos (by rw [c1]; decide)]
    exact no _ (fun q => (hmay.mp q).1 c1)
  · rw [if_neg (nI_nle (by omega) (by omega)), R_c2 hR.1 hK.1 hR.2.2.1 hR.2.2.2.2.2.1, bnd_some]
    by_cases c2 : i + 1 ≤ τ 869
    · rw [if_pos (nI_le c2 (by omega))]
      exact no _ (fun q => absurd (hmay.mp q).2.1 (by omega))
    · rw [if_neg (nI_ge (by omega) (by omega))]
      by_cases c3 : i + 1 ≤ pre τ + 3
      · rw [if_pos c3, if_neg (nI_pos (by omega)), R_d2 hR.1 hK.1 hp hi, bnd_some, if_pos c3]
        by_cases c4 : lack τ p (i + 1) = 0
        · rw [if_pos (by rw [c4]; rfl), R_d0 hR.1 hK.1 hp hi, bnd_some]
          by_cases c5 : τ (789 + (16 * p + i)) = 0
          · rw [if_neg (fun q => (orN_ge0 (by omega)).mp q c5)]
            have hm : mayP τ p (i + 1) = true := hmay.mpr ⟨c1, by omega, c3, c4, c5⟩
            unfold s_proposeN at e1 et eS
            rw [if_pos hm] at e1 et
            have et : τ1 = rup τ (789 + (16 * p + (i + 1) - 1)) (if bound τ p (i + 1) = 0 then w else bound τ p (i + 1)) := et
            have q1 : τ1 (789 + (16 * p + i)) = (if bound τ p (i + 1) = 0 then w else bound τ p (i + 1)) := by rw [et]; exact rup_at (by omega)
            have q2 : (if bound τ p (i + 1) = 0 then w else bound τ p (i + 1)) ≠ 0 := by
              split
              · omega
              · assumption
            have k451 : f_L_ballots_J451 (nI p) (nI (i + 1)) 1 (nI (if bound τ p (i + 1) = 0 then w else bound τ p (i + 1))) (nI (if bound τ p (i + 1) = 0 then w else bound τ p (i + 1))) (nI (if bound τ p (i + 1) = 0 then w else bound τ p (i + 1))) g1 = some (true, g2) := by
              rw [f_L_ballots_J451, if_pos rfl, if_neg (by decide), R_d0 r1.1 hI1 hp hi, bnd_some, q1, orN_p q2, if_pos rfl, k472]
            rw [f_L_ballots_J414, e1, bd2_some, if_neg (by decide)]
            by_cases c6 : bound τ p (i + 1) = 0
            · rw [if_pos (by rw [c6]; decide)]
              rw [if_pos c6] at k451
              dsimp only
              rw [if_pos c6, k451]
              exact fin
            · rw [if_neg (nI_nle (by omega) (by omega))]
              rw [if_neg c6] at k451
              dsimp only
              rw [if_neg c6, k451]
              exact fin
          · rw [if_pos ((orN_ge0 (by omega)).mpr c5)]
            exact no _ (fun q => c5 (hmay.mp q).2.2.2.2)
        · rw [if_neg (nI_ne0 (by omega) (by omega))]
          exact no _ (fun q => c4 (hmay.mp q).2.2.2.1)
      · rw [if_neg c3, if_pos (by decide)]
        exact no _ (fun q => c3 (hmay.mp q).2.2.1)
theorem EV_propose (hR : RC g (τ, hn, hist, kf, sn, tn, txt, rf)) (hS : SV (τ, hn, hist, kf, sn, tn, txt, rf)) {p a i k : Nat} (hp : p < 3) (ha : a < 6) (hi : i < 16) (hk0 : 4 ≤ k) (hk : k < 6) (a6 : Int32) : EV (τ, hn, hist, kf, sn, tn, txt, rf) (f_L_ballots (nI k) (nI p) (nI a) (nI (i + 1)) a6 g) := by
  have hK : RK τ := hS.1.1
  unfold f_L_ballots
  rw [R_p0 hR.1 hK.1 hp, bnd_some, R_a1 hR.1 hK.1 ha, bnd_some, R_p2 hR.1 hK.1 hp, bnd_some, R_a0 hR.1 hK.1 ha, bnd_some, if_neg (nI_ne0 (by omega) (by omega)), if_pos (by rw [z4]; exact nI_le (by omega) (by omega)), if_neg (by rw [z6]; exact nI_ge (by omega) (by omega))]
  by_cases c : (a6 &&& 7) = 0
  · obtain ⟨r, hr, er⟩ := R_low (a6 >>> (3 &&& 31)) (n := 63) (by decide) (by decide)
    rw [if_pos c, show (63 : Int32) = nI 63 from rfl, er, bnd_some, z101, nI_add]
    exact EV_propose' hR hS hp hi (by omega) (by omega)
  · obtain ⟨r, hr, er⟩ := R_low (a6 >>> (3 &&& 31)) (n := 99) (by decide) (by decide)
    rw [if_neg c, show (99 : Int32) = nI 99 from rfl, er, bnd_some, z1, nI_add]
    exact EV_propose' hR hS hp hi (by omega) (by omega)
end BALL
