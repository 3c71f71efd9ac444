/-! p25: ballots(): vote -/
theorem orN_eq {x b : Nat} (hb : b ≠ 0) (hx : x < 2 ^ 31) (hb2 : b < 2 ^ 31) : orN x = nI b ↔ x = b := by
  by_cases e : x = 0
  · rw [orN_z e]
    exact ⟨fun q => absurd q.symm (nI_ne_neg hb2 (by decide)), fun q => by omega⟩
  · rw [orN_p e, nI_eq hx hb2]
section BALL
variable {g : Mem} {τ : Row} {hn : Nat} {hist : Nat → Row} {kf : Bool} {sn : Row} {tn : Nat} {txt : Nat → Nat} {rf : Option (Nat × Int32 × Nat)}
theorem lp_due {g1 : Mem} {τ1 : Row} (hC : CR g1 1 τ1) (h : RI τ1) (K : Int32 → Option (Bool × Mem)) (v3 v10 v14 v15 v16 : Int32) {V i b : Nat} (hV : V < 64) (hi : i < 16) (hb : b ≠ 0) (hb2 : b < 2 ^ 31) : ∀ n x, x ≤ 6 → 6 - x < n → f_L_ballots_L682 K v3 (nI (i + 1)) (nI b) v10 (nI V) v14 v15 v16 g1 n (nI (cntN (fun x => hs V x && decide (τ1 (12 + 2 * (16 * x + i)) = b)) x)) (nI x) = K (nI (cntN (fun x => hs V x && decide (τ1 (12 + 2 * (16 * x + i)) = b)) 6)) := by
  intro n
  induction n with
  | zero => intro x _ h; exact absurd h (Nat.not_lt_zero _)
  | succ n ih =>
    intro x hx hn
    rw [f_L_ballots_L682]
    by_cases e : x = 6
    · subst e
      rw [if_pos (by decide)]
    · have hx6 : x < 6 := by omega
      have hv := h.1 (12 + 2 * (16 * x + i)) (by omega)
      have step : ∀ c : Bool, (hs V x && decide (τ1 (12 + 2 * (16 * x + i)) = b)) = c → f_L_ballots_J721 K (f_L_ballots_L682 K v3 (nI (i + 1)) (nI b) v10 (nI V) v14 v15 v16 g1 n) v3 (nI (i + 1)) (nI b) v10 (nI V) v14 v15 v16 (nI x) (bI c) (nI (cntN (fun x => hs V x && decide (τ1 (12 + 2 * (16 * x + i)) = b)) x)) g1 = K (nI (cntN (fun x => hs V x && decide (τ1 (12 + 2 * (16 * x + i)) = b)) 6)) := by
        intro c hc
        rw [f_L_ballots_J721, ← hc, cntS (fun x => hs V x && decide (τ1 (12 + 2 * (16 * x + i)) = b)) x, lt1, nI_1, lt1]
        exact ih (x + 1) (by omega) (by omega)
      rw [if_neg (by rw [z6]; exact nI_ge (by omega) (by omega)), shr_bit _ hV x hx6]
      cases hh : hs V x with
      | false =>
        rw [if_neg (by decide), f_L_ballots_J720]
        exact step false (by rw [hh]; rfl)
      | true =>
        rw [if_pos (by decide), R_v0 hC h hx6 hi, bnd_some]
        by_cases q : τ1 (12 + 2 * (16 * x + i)) = b
        · rw [if_pos ((orN_eq hb (by omega) hb2).mpr q)]
          exact step true (by rw [hh, decide_eq_true q]; rfl)
        · rw [if_neg (fun z => q ((orN_eq hb (by omega) hb2).mp z)), f_L_ballots_J720]
          exact step false (by rw [hh, decide_eq_false q]; rfl)
theorem EV_voteY (hR : RC g (τ, hn, hist, kf, sn, tn, txt, rf)) (hS : SV (τ, hn, hist, kf, sn, tn, txt, rf)) {p a i : Nat} (hp : p < 3) (ha : a < 6) (hi : i < 16) (hm : mayV τ p (i + 1) a = true) : EV (τ, hn, hist, kf, sn, tn, txt, rf) (f_L_ballots_J551 (nI p) (nI a) (nI (i + 1)) (nI (τ (204 + p))) (nI (τ (6 + a))) (nI (τ (789 + (16 * p + i)))) (nI (vo τ (i + 1))) 1 g) := by
  have hK : RK τ := hS.1.1
  obtain ⟨g1, ⟨τ1, hn1, hist1, kf1, sn1, tn1, txt1, rf1⟩, e1, r1, v1, et, eS⟩ := A_vote hR hS (s := i + 1) hp (by omega) (by omega) ha
  have hI1 : RI τ1 := v1.1.1.1
  have fin := EV_of r1 v1 eS
  have h2 := hm
  unfold mayV at h2
  simp only [Bool.and_eq_true, decide_eq_true_eq] at h2
  obtain ⟨m1, m2, m3, m4⟩ := h2
  rw [show 789 + (16 * p + (i + 1) - 1) = 789 + (16 * p + i) from by omega] at m1
  have hb0 : τ (204 + p) ≠ 0 := hK.2.2 p i hp hi m1
  have op := ((INV_props hK hS.2.1).2.2 p i hp hi m1).1
  have b1 := hK.1.1 (204 + p) (by omega)
  have b2 := hK.1.1 (6 + a) (by omega)
  have b3 := hK.1.1 (12 + 2 * (16 * a + i)) (by omega)
  have b4 := hK.1.2.2.2.2.2.1 (789 + (16 * p + i)) (by omega) (by omega)
  have hc := r_cv hK.1 hi
  have hvo := vo_lt hK.1 (s := i + 1) (by omega)
  rw [f_L_ballots_J551, R_v0 hR.1 hK.1 ha hi, bnd_some, R_s0 hR.1 hK.1 hi, bnd_some, R_s4 hR.1 hK.1 hi, bnd_some, e1, bd2_some, if_neg (by decide), if_pos op]
  unfold s_voteN at et ⊢
  rw [if_pos hm] at et ⊢
  rw [show 16 * a + (i + 1) - 1 = 16 * a + i from by omega, show 16 * p + (i + 1) - 1 = 16 * p + i from by omega, show i + 1 - 1 = i from by omega] at et ⊢
  by_cases c1 : τ (12 + 2 * (16 * a + i)) = τ (204 + p)
  · rw [if_pos c1] at et ⊢
    dsimp only
    rw [if_pos ((orN_eq hb0 (by omega) (by omega)).mpr c1), decide_eq_true rfl]
    exact fin
  · rw [if_neg c1] at et ⊢
    rw [if_neg (fun z => c1 ((orN_eq hb0 (by omega) (by omega)).mp z))]
    by_cases c2 : τ (204 + p) < τ (6 + a)
    · rw [if_pos c2] at et ⊢
      have et : τ1 = rfR τ p a 872 := et
      dsimp only
      have q1 : τ1 (12 + 2 * (16 * a + i)) = τ (12 + 2 * (16 * a + i)) := by rw [et]; unfold rfR; rw [rup_ne (by omega), rup_ne (by omega)]
      have q2 : τ (6 + a) ≤ τ1 (207 + p) := by
        rw [et]; unfold rfR
        rw [rup_ne (by omega), rup_eq]
        exact Nat.le_max_right _ _
      have q4 := hI1.1 (207 + p) (by omega)
      rw [if_neg (nI_ge c2 (by omega)), if_pos (by rw [z100, nI_add]), R_v0 r1.1 hI1 ha hi, bnd_some, q1, if_pos rfl, R_p1 r1.1 hI1 hp, bnd_some, if_neg (nI_nlt q2 (by omega))]
      exact fin
    · rw [if_neg c2] at et ⊢
      dsimp only
      have v6 : vtR τ p (i + 1) a (6 + a) = τ (204 + p) := by
        unfold vtR
        rw [rup_ne (by omega), rup_ne (by omega), rup_eq]
      have v12 : vtR τ p (i + 1) a (12 + 2 * (16 * a + i)) = τ (204 + p) := by
        unfold vtR
        rw [rup_ne (by omega), rup_at (by omega)]
      have v13 : vtR τ p (i + 1) a (13 + 2 * (16 * a + i)) = τ (789 + (16 * p + i)) := by
        unfold vtR
        rw [rup_at (by omega), show 16 * p + (i + 1) - 1 = 16 * p + i from by omega]
      have v37 : vtR τ p (i + 1) a (837 + i) = τ (837 + i) := by
        unfold vtR
        rw [rup_ne (by omega), rup_ne (by omega), rup_ne (by omega)]
      obtain ⟨D, hD⟩ : ∃ D, D = forN (vtR τ p (i + 1) a) (i + 1) (τ (204 + p)) := ⟨_, rfl⟩
      rw [← hD] at et ⊢
      have low : ∀ k, k < 837 → τ1 k = vtR τ p (i + 1) a k := by
        intro k hk
        by_cases q : τ (837 + i) = 0 ∧ sec τ (i + 1) ≤ D
        · rw [if_pos q] at et
          have et : τ1 = rup (rup (vtR τ p (i + 1) a) (837 + i) (τ (789 + (16 * p + i)))) (853 + i) (τ (204 + p)) := et
          rw [et, rup_ne (by omega), rup_ne (by omega)]
        · rw [if_neg q] at et
          have et : τ1 = vtR τ p (i + 1) a := et
          rw [et]
      have hcv : τ1 (837 + i) = if τ (837 + i) = 0 ∧ sec τ (i + 1) ≤ D then τ (789 + (16 * p + i)) else τ (837 + i) := by
        by_cases q : τ (837 + i) = 0 ∧ sec τ (i + 1) ≤ D
        · rw [if_pos q] at et ⊢
          have et : τ1 = rup (rup (vtR τ p (i + 1) a) (837 + i) (τ (789 + (16 * p + i)))) (853 + i) (τ (204 + p)) := et
          rw [et, rup_ne (by omega), rup_eq]
        · rw [if_neg q] at et ⊢
          have et : τ1 = vtR τ p (i + 1) a := et
          rw [et, v37]
      have hdue : cntN (fun x => hs (vo τ (i + 1)) x && decide (τ1 (12 + 2 * (16 * x + i)) = τ (204 + p))) 6 = D := by
        rw [hD]
        unfold forN
        rw [vo_vtR (by omega) ha]
        refine cntN_congr 6 (fun x hx => ?_)
        rw [low _ (by omega), show 16 * x + (i + 1) - 1 = 16 * x + i from by omega]
      have hDl : D ≤ 6 := by rw [← hdue]; exact cntN_le _ 6
      have hsl : sec τ (i + 1) ≤ 6 := Nat.le_trans (Nat.min_le_right _ _) (pc_le _)
      rw [if_pos (nI_le (by omega) (by omega))]
      have lp := fun K => lp_due r1.1 hI1 K (nI a) (nI (τ (789 + (16 * p + i)))) (orN (τ (837 + i))) (nI (sec τ (i + 1))) (nI D) hvo hi hb0 (by omega) fuel0 0 (by omega) (by have := fuel_gt; omega)
      refine Eq.subst (motive := fun r => EV (τ, hn, hist, kf, sn, tn, txt, rf) r) (lp _).symm ?_
      rw [hdue, if_pos rfl, R_v0 r1.1 hI1 ha hi, bnd_some, low _ (by omega), v12, orN_p hb0, if_pos rfl, R_v1 r1.1 hI1 ha hi, bnd_some, low _ (by omega), v12, if_neg hb0, low _ (by omega), v13, if_pos rfl, R_a1 r1.1 hI1 ha, bnd_some, low _ (by omega), v6, if_pos rfl, R_s0 r1.1 hI1 hi, bnd_some, hcv]
      have J : ∀ x, f_L_ballots_J805 x x g1 = some (true, g1) := fun x => by rw [f_L_ballots_J805, if_pos rfl]
      by_cases c3 : τ (837 + i) = 0
      · rw [if_pos ((orN_le0 (by omega)).mpr c3)]
        by_cases c4 : sec τ (i + 1) ≤ D
        · rw [if_neg (nI_nlt c4 (by omega)), if_pos ⟨c3, c4⟩, orN_p m1, J]
          exact fin
        · rw [if_pos (nI_lt (by omega) (by omega)), if_neg (fun q => c4 q.2), orN_z c3, J]
          exact fin
      · rw [if_neg (fun q => c3 ((orN_le0 (by omega)).mp q)), if_neg (fun q => c3 q.1), J]
        exact fin
theorem EV_vote (hR : RC g (τ, hn, hist, kf, sn, tn, txt, rf)) (hS : SV (τ, hn, hist, kf, sn, tn, txt, rf)) {p a i k : Nat} (hp : p < 3) (ha : a < 6) (hi : i < 16) (hk0 : 6 ≤ k) (hk : k < 2 ^ 31) (a6 : Int32) : EV (τ, hn, hist, kf, sn, tn, txt, rf) (f_L_ballots (nI k) (nI p) (nI a) (nI (i + 1)) a6 g) := by
  have hK : RK τ := hS.1.1
  have b1 := hK.1.1 (204 + p) (by omega)
  have b3 := hK.1.2.1 a ha
  have b4 := hK.1.2.2.2.2.2.1 (789 + (16 * p + i)) (by omega) (by omega)
  have ht := hK.1.2.2.2.2.2.2.2
  have hvo := vo_lt hK.1 (s := i + 1) (by omega)
  have hmay : mayV τ p (i + 1) a = true ↔ τ (789 + (16 * p + i)) ≠ 0 ∧ τ 869 < i + 1 ∧ τ a = 1 ∧ hs (vo τ (i + 1)) a = true := by
    unfold mayV
    simp only [Bool.and_eq_true, decide_eq_true_eq]
    rw [show 789 + (16 * p + (i + 1) - 1) = 789 + (16 * p + i) from by omega]
  have no : ∀ v6 v7 v10 v11, mayV τ p (i + 1) a ≠ true → EV (τ, hn, hist, kf, sn, tn, txt, rf) (f_L_ballots_J550 (nI p) (nI a) (nI (i + 1)) v6 v7 v10 v11 g) := by
    intro v6 v7 v10 v11 hm
    obtain ⟨g1, S1, e1, r1, v1, et, eS⟩ := A_vote hR hS (s := i + 1) hp (by omega) (by omega) ha
    have fin := EV_of r1 v1 eS
    rw [f_L_ballots_J550, f_L_ballots_J551, R_v0 hR.1 hK.1 ha hi, bnd_some, R_s0 hR.1 hK.1 hi, bnd_some, R_s4 hR.1 hK.1 hi, bnd_some, e1, bd2_some, if_pos rfl]
    unfold s_voteN
    rw [if_neg hm]
    dsimp only
    rw [decide_eq_true rfl]
    exact fin
  have hup : decide (nI (τ a) = 1) = decide (τ a = 1) := decide_eq_decide.mpr (by rw [z1, nI_eq (by omega) (by omega)])
  unfold f_L_ballots
  rw [R_p0 hR.1 hK.1 hp, bnd_some, R_a1 hR.1 hK.1 ha, bnd_some, R_p2 hR.1 hK.1 hp, bnd_some, R_a0 hR.1 hK.1 ha, bnd_some, if_neg (nI_ne0 (by omega) (by omega)), if_pos (by rw [z4]; exact nI_le (by omega) (by omega)), if_pos (by rw [z6]; exact nI_le (by omega) (by omega)), R_d0 hR.1 hK.1 hp hi, bnd_some, R_s2 hR.1 hK.1 hi, bnd_some, hup]
  by_cases c1 : τ (789 + (16 * p + i)) = 0
  · rw [if_pos ((orN_le0 (by omega)).mpr c1)]
    exact no _ _ _ _ (fun q => (hmay.mp q).1 c1)
  · have op := ((INV_props hK hS.2.1).2.2 p i hp hi c1).1
    rw [if_neg (fun q => c1 ((orN_le0 (by omega)).mp q)), R_c2 hR.1 hK.1 hR.2.2.1 hR.2.2.2.2.2.1, bnd_some, if_pos op]
    by_cases c2 : i + 1 ≤ τ 869
    · rw [if_pos (nI_le c2 (by omega))]
      exact no _ _ _ _ (fun q => absurd (hmay.mp q).2.1 (by omega))
    · rw [if_neg (nI_ge (by omega) (by omega))]
      by_cases c3 : τ a = 1
      · rw [if_pos (decide_eq_true c3), shr_bit _ hvo a ha]
        by_cases c4 : hs (vo τ (i + 1)) a = true
        · have hvz : vo τ (i + 1) ≠ 0 := fun z => by
            rw [z, hs_0] at c4
            cases c4
          rw [if_neg (nI_nle (by omega) (by omega)), if_pos (by rw [c4]; rfl), orN_p c1]
          exact EV_voteY hR hS hp ha hi (hmay.mpr ⟨c1, by omega, c3, c4⟩)
        · have hz : ¬ bI (hs (vo τ (i + 1)) a) = 1 := by rw [bI_one]; exact c4
          rw [if_neg hz]
          split
          · exact no _ _ _ _ (fun q => c4 (hmay.mp q).2.2.2)
          · exact no _ _ _ _ (fun q => c4 (hmay.mp q).2.2.2)
      · rw [if_neg (by rw [decide_eq_true_eq]; exact c3)]
        exact no _ _ _ _ (fun q => c3 (hmay.mp q).2.2.1)
/-- ballots() comes to true -/
theorem EV_ballots (hR : RC g (τ, hn, hist, kf, sn, tn, txt, rf)) (hS : SV (τ, hn, hist, kf, sn, tn, txt, rf)) {p a i k : Nat} (hp : p < 3) (ha : a < 6) (hi : i < 16) (hk : k < 10) (a6 : Int32) : EV (τ, hn, hist, kf, sn, tn, txt, rf) (f_L_ballots (nI k) (nI p) (nI a) (nI (i + 1)) a6 g) := by
  by_cases c0 : k = 0
  · subst c0
    exact EV_prepare hR hS hp ha _ _
  · by_cases c1 : k < 4
    · exact EV_promise hR hS hp ha c0 c1 _ _
    · by_cases c2 : k < 6
      · exact EV_propose hR hS hp ha hi (by omega) c2 _
      · exact EV_vote hR hS hp ha hi (by omega) (by omega) _
end BALL
