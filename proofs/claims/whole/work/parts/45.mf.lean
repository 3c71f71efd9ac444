theorem M_vote (a1 a2 a3 : Int32) : MAct (f_X5_vote a1 a2 a3) (s_vote a1 a2 a3) := by
  intro g g1 τ hM h hr hM1
  unfold f_X5_vote s_vote
  rw [noP_eq, noS_eq, noA_eq]
  cases hv : f_X4_isProposer a1 with
  | false => exact ⟨g, rfl, fun _ => rfl, fun q => absurd (show (-1 : Int32) < 0 by decide) q⟩
  | true =>
    cases hw : f_X4_isSlot a2 with
    | false => exact ⟨g, rfl, fun _ => rfl, fun q => absurd (show (-1 : Int32) < 0 by decide) q⟩
    | true =>
      cases hx : f_X4_isAcceptor a3 with
      | false => exact ⟨g, rfl, fun _ => rfl, fun q => absurd (show (-1 : Int32) < 0 by decide) q⟩
      | true =>
        obtain ⟨p, hp, rfl⟩ := isP_of hv
        obtain ⟨s, hs1, hs2, rfl⟩ := isS_of hw
        obtain ⟨a, ha, rfl⟩ := isA_of hx
        have b1 := h.1 (204 + p) (by omega)
        have b2 := h.1 (6 + a) (by omega)
        have b3 := h.1 (12 + 2 * (16 * a + s - 1)) (by omega)
        have b4 := h.1 (789 + (16 * p + s - 1)) (by omega)
        have b5 := h.1 (837 + (s - 1)) (by omega)
        have b6 := h.2.1 a ha
        rw [if_neg (by decide), if_neg (by decide), if_neg (by decide), if_pos (c := (true && (true && true)) = true) rfl, nI_clamp (by omega), nI_clamp (by omega), nI_clamp (by omega), propAt_nI hs1, M_rd hM (by omega), bnd_some]
        have bad : mayV τ p s a = false → NG (some (-4, g)) (s_voteN p s a τ) g g1 := fun hm => by
          unfold s_voteN
          rw [hm, if_neg (by decide)]
          exact NG_4
        by_cases q1 : τ (789 + (16 * p + s - 1)) = 0
        · rw [if_pos (by rw [q1]; rfl)]
          exact bad (by unfold mayV; rw [decide_eq_false (fun z => z q1)]; rfl)
        rw [if_neg (fun z => q1 ((nI_z (by omega)).mp z)), M_isTrimmed hM h hs2, bnd_some]
        by_cases q2 : s ≤ τ 869
        · rw [decide_eq_true q2, if_pos rfl]
          exact bad (by unfold mayV; rw [decide_eq_false (show ¬ τ 869 < s by omega)]; simp)
        rw [decide_eq_false q2, if_neg (by decide), Int32.zero_add, M_rd hM (by omega), bnd_some]
        by_cases q3 : τ a = 0
        · rw [if_pos (by rw [q3]; rfl)]
          exact bad (by unfold mayV; rw [decide_eq_false (show ¬ τ a = 1 by omega)]; simp)
        rw [if_neg (fun z => q3 ((nI_z (by omega)).mp z)), M_voters hM h hs2, bnd_some, isIn_nI _ (vo_lt h hs2) _ ha]
        cases q4 : hs (vo τ s) a with
        | false =>
          rw [if_neg (by decide)]
          exact bad (by unfold mayV; rw [q4]; simp)
        | true =>
          have hm : mayV τ p s a = true := by
            unfold mayV
            rw [decide_eq_true q1, decide_eq_true (show τ 869 < s by omega), decide_eq_true (show τ a = 1 by omega), q4]
            rfl
          unfold s_voteN
          rw [hm, if_pos rfl, if_pos rfl, z204, nI_add, M_rd hM (by omega), bnd_some, lt1, voteAt_nI hs1, M_rd hM (by omega), bnd_some]
          by_cases e1 : τ (12 + 2 * (16 * a + s - 1)) = τ (204 + p)
          · rw [if_pos (by rw [e1]), if_pos e1]
            exact NG_5
          · rw [if_neg (fun z => e1 ((nI_eq (by omega) (by omega)).mp z)), if_neg e1, hr, bnd_some, z6, nI_add, M_rd hM1 (by omega), bnd_some]
            by_cases e2 : τ (204 + p) < τ (6 + a)
            · rw [if_neg (nI_ge e2 (by omega)), if_pos e2]
              obtain ⟨g', e, m, f⟩ := M_refuses hM1 h hp ha (c := 872) (Or.inr rfl)
              rw [show (872 : Int32) = nI 872 from rfl, e, bd2_some]
              exact NG_ok (by omega) m f
            · have h1 := MR_up hM1 (6 + a) (τ (204 + p))
              have h2 := MR_up h1 (12 + 2 * (16 * a + s - 1)) (τ (204 + p))
              have h3 := MR_up h2 (12 + 2 * (16 * a + s - 1) + 1) (τ (789 + (16 * p + s - 1)))
              have hI3 := RI_vtR h hp hs1 hs2 ha
              rw [if_pos (nI_le (by omega) (by omega)), if_neg e2, M_wr (by omega), bnd_some, M_wr (by omega), bnd_some, nI_1, M_wr (by omega), bnd_some]
              rw [show 12 + 2 * (16 * a + s - 1) + 1 = 13 + 2 * (16 * a + s - 1) from by omega] at h3 ⊢
              change MR _ (vtR τ p s a) at h3
              have f3 : F1 g1 (m_up (m_up (m_up g1 1 (6 + a) (nI (τ (204 + p)))) 1 (12 + 2 * (16 * a + s - 1)) (nI (τ (204 + p)))) 1 (13 + 2 * (16 * a + s - 1)) (nI (τ (789 + (16 * p + s - 1))))) := F1.tr (F1.tr F1.up F1.up) F1.up
              generalize m_up (m_up (m_up g1 1 (6 + a) (nI (τ (204 + p)))) 1 (12 + 2 * (16 * a + s - 1)) (nI (τ (204 + p)))) 1 (13 + 2 * (16 * a + s - 1)) (nI (τ (789 + (16 * p + s - 1)))) = g3 at h3 f3 ⊢
              have key := lp_M_for h3 hI3 (fun x33 => (f_X5_secondSize (nI s) g3).bind fun x34 => ((if x33 < x34 then some (x33, g3) else (f_X5_chosen (nI s) g3).bind fun x36 => ((if x36 = 0 then (wr g3 1 873 ((837 + nI s) - 1) (nI (τ (789 + (16 * p + s - 1))))).bind fun g38 => ((wr g38 1 873 ((853 + nI s) - 1) (nI (τ (204 + p)))).bind fun g39 => (some (x33, g39))) else some (x33, g3)))))) (v := nI (τ (789 + (16 * p + s - 1)))) hs1 hs2 (b := τ (204 + p)) (by omega) (fun i => hs (vo (vtR τ p s a) s) i && decide (vtR τ p s a (12 + 2 * (16 * i + s - 1)) = τ (204 + p))) (fun _ _ => rfl) fuel0 0 (by omega) (by have := fuel_gt; omega)
              refine Eq.mp (congrArg (fun z => NG z _ g g1) key.symm) ?_
              change NG ((f_X5_secondSize (nI s) g3).bind fun x34 => ((if nI (forN (vtR τ p s a) s (τ (204 + p))) < x34 then some (nI (forN (vtR τ p s a) s (τ (204 + p))), g3) else (f_X5_chosen (nI s) g3).bind fun x36 => ((if x36 = 0 then (wr g3 1 873 ((837 + nI s) - 1) (nI (τ (789 + (16 * p + s - 1))))).bind fun g38 => ((wr g38 1 873 ((853 + nI s) - 1) (nI (τ (204 + p)))).bind fun g39 => (some (nI (forN (vtR τ p s a) s (τ (204 + p))), g39))) else some (nI (forN (vtR τ p s a) s (τ (204 + p))), g3)))))) _ g g1
              have hf6 : forN (vtR τ p s a) s (τ (204 + p)) ≤ 6 := cntN_le _ 6
              have e837 : vtR τ p s a (837 + (s - 1)) = τ (837 + (s - 1)) := by
                unfold vtR
                rw [rup_ne (by omega), rup_ne (by omega), rup_ne (by omega)]
              have e870 : vtR τ p s a 870 = τ 870 := by
                unfold vtR
                rw [rup_ne (by omega), rup_ne (by omega), rup_ne (by omega)]
              have b870 := h.1 870 (by omega)
              have hsec : sec (vtR τ p s a) s = sec τ s := by unfold sec; rw [vo_vtR hs2 ha, e870]
              have hs6 : sec τ s ≤ 6 := by have := pc_le (vo τ s); have := sec_le τ s; omega
              have ec := M_chosen h3 (i := s - 1) (by omega)
              rw [show s - 1 + 1 = s from by omega, e837] at ec
              rw [M_second h3 hI3 hs2, bnd_some, hsec]
              by_cases e4 : sec τ s ≤ forN (vtR τ p s a) s (τ (204 + p))
              · rw [if_neg (nI_nlt e4 (by omega)), ec, bnd_some]
                by_cases e3 : τ (837 + (s - 1)) = 0
                · have m1 := MR_up h3 (837 + (s - 1)) (τ (789 + (16 * p + s - 1)))
                  have m2 := MR_up m1 (853 + (s - 1)) (τ (204 + p))
                  rw [if_pos (by rw [e3]; rfl), if_pos ⟨e3, e4⟩, z837, z853, nI_add, nI_add, z1, pk_sub (by omega), pk_sub (by omega), show 837 + s - 1 = 837 + (s - 1) from by omega, show 853 + s - 1 = 853 + (s - 1) from by omega, M_wr (by omega), bnd_some, M_wr (by omega), bnd_some]
                  exact NG_ok (by omega) m2 (F1.tr (F1.tr f3 F1.up) F1.up)
                · rw [if_neg (fun z => e3 ((nI_z (by omega)).mp z)), if_neg (fun z => e3 z.1)]
                  exact NG_ok (by omega) h3 f3
              · rw [if_pos (nI_lt (by omega) (by omega)), if_neg (fun z => e4 z.2)]
                exact NG_ok (by omega) h3 f3
/-! trim -/
def zT (ρ : Row) (a t lo : Nat) : Row := fun k => if 12 + 32 * a + 2 * lo ≤ k ∧ k < 12 + 32 * a + 2 * t then 0 else ρ k
def zU (ρ : Row) (t a : Nat) : Row := fun k => if 12 + 32 * a ≤ k ∧ k < 204 ∧ (k - 12) / 2 % 16 < t then 0 else ρ k
theorem zT_step (ρ : Row) {a t j : Nat} (hj : j < t) : zT (rup (rup ρ (12 + 2 * (16 * a + (j + 1) - 1)) 0) (12 + 2 * (16 * a + (j + 1) - 1) + 1) 0) a t (j + 1) = zT ρ a t j := by
  funext k
  unfold zT rup
  by_cases h1 : 12 + 32 * a + 2 * (j + 1) ≤ k ∧ k < 12 + 32 * a + 2 * t
  · rw [if_pos h1, if_pos (by omega)]
  · rw [if_neg h1]
    by_cases h2 : k = 12 + 2 * (16 * a + (j + 1) - 1) + 1
    · rw [if_pos h2, if_pos (by omega)]
    · rw [if_neg h2]
      by_cases h3 : k = 12 + 2 * (16 * a + (j + 1) - 1)
      · rw [if_pos h3, if_pos (by omega)]
      · rw [if_neg h3, if_neg (by omega)]
theorem zT_t (ρ : Row) (a t : Nat) : zT ρ a t t = ρ := by
  funext k
  unfold zT
  rw [if_neg (by omega)]
theorem zU_step (ρ : Row) {a t : Nat} (ha : a < 6) (ht : t ≤ 16) : zU (zT ρ a t 0) t (a + 1) = zU ρ t a := by
  funext k
  unfold zU zT
  by_cases h1 : 12 + 32 * (a + 1) ≤ k ∧ k < 204 ∧ (k - 12) / 2 % 16 < t
  · rw [if_pos h1, if_pos (by omega)]
  · rw [if_neg h1]
    by_cases h2 : 12 + 32 * a + 2 * 0 ≤ k ∧ k < 12 + 32 * a + 2 * t
    · rw [if_pos h2, if_pos (by omega)]
    · rw [if_neg h2, if_neg (by omega)]
theorem zU_6 (ρ : Row) (t : Nat) : zU ρ t 6 = ρ := by
  funext k
  unfold zU
  rw [if_neg (by omega)]
theorem zU_trR (τ : Row) (s : Nat) : zU (rup τ 869 s) s 0 = trR τ s := by
  funext k
  unfold zU trR rup
  by_cases h1 : 12 + 32 * 0 ≤ k ∧ k < 204 ∧ (k - 12) / 2 % 16 < s
  · rw [if_pos h1, if_neg (by omega), if_pos (by omega)]
  · rw [if_neg h1]
    by_cases h2 : k = 869
    · rw [if_pos h2, if_pos h2]
    · rw [if_neg h2, if_neg h2, if_neg (by omega)]
theorem lp_M_trimIn {τ : Row} (h : RI τ) (K : Int32 → Mem → Option (Int32 × Mem)) {a t c : Nat} (ha : a < 6) (ht : t ≤ 16) : ∀ n j g ρ, j ≤ t → t - j < n → MR g ρ → (∀ k, 12 + 32 * a + 2 * j ≤ k → k < 204 → ρ k = τ k) → ∃ g', f_X5_trim_L57 K (nI t) (nI a) n (nI (c + votesN τ a j)) (nI (j + 1)) g = K (nI (c + votesN τ a t)) g' ∧ MR g' (zT ρ a t j) ∧ F1 g g' := by
  intro n
  induction n with
  | zero => intro j g ρ _ h; omega
  | succ n ih =>
    intro j g ρ hj hn hM hB
    rw [f_X5_trim_L57]
    by_cases h6 : j = t
    · subst h6
      rw [if_pos (nI_lt (by omega) (by omega)), zT_t]
      exact ⟨g, rfl, hM, F1.rf⟩
    · have hb := hB (12 + 2 * (16 * a + (j + 1) - 1)) (by omega) (by omega)
      have e0 : 16 * a + (j + 1) - 1 = 16 * a + j := by omega
      have b := h.1 (12 + 2 * (16 * a + (j + 1) - 1)) (by omega)
      have h1 := MR_up hM (12 + 2 * (16 * a + (j + 1) - 1)) 0
      have h2 := MR_up h1 (12 + 2 * (16 * a + (j + 1) - 1) + 1) 0
      obtain ⟨g', e, m, f⟩ := ih (j + 1) _ _ (by omega) (by omega) h2 (fun k hk1 hk2 => by rw [rup_ne (by omega), rup_ne (by omega)]; exact hB k (by omega) hk2)
      rw [zT_step ρ (by omega)] at m
      refine ⟨g', ?_, m, F1.tr (F1.tr F1.up F1.up) f⟩
      rw [if_neg (nI_nlt (by omega) (by omega)), voteAt_nI (by omega), M_rd hM (by omega), bnd_some, hb]
      rw [show votesN τ a (j + 1) = votesN τ a j + (if decide (τ (12 + 2 * (16 * a + j)) ≠ 0) = true then 1 else 0) from rfl] at e
      rw [← e]
      by_cases h3 : τ (12 + 2 * (16 * a + j)) = 0
      · rw [if_pos (by rw [e0, h3]; decide), if_neg (by simp [h3]), lt1, z0, M_wr (by omega), bnd_some, nI_1, M_wr (by omega), bnd_some, lt1, nI_add, nI_1, Nat.add_zero]
        rfl
      · rw [if_neg (by rw [z0]; exact nI_ge (by rw [e0]; omega) (by omega)), if_pos (by simp [h3]), lt1, z0, M_wr (by omega), bnd_some, nI_1, nI_1, M_wr (by omega), bnd_some, lt1, nI_1, Nat.add_assoc]
theorem lp_M_trim {τ : Row} (h : RI τ) (K : Int32 → Mem → Option (Int32 × Mem)) {t : Nat} (ht : t ≤ 16) : ∀ n a g ρ, a ≤ 6 → 6 - a < n → MR g ρ → (∀ k, 12 + 32 * a ≤ k → k < 204 → ρ k = τ k) → ∃ g', f_X5_trim_L48 K (nI t) n (nI (allN τ t a)) (nI a) g = K (nI (allN τ t 6)) g' ∧ MR g' (zU ρ t a) ∧ F1 g g' := by
  intro n
  induction n with
  | zero => intro a g ρ _ h; omega
  | succ n ih =>
    intro a g ρ ha hn hM hB
    rw [f_X5_trim_L48]
    by_cases h6 : a = 6
    · subst h6
      rw [if_pos (by rw [z6]; exact nI_le (by omega) (by omega)), zU_6]
      exact ⟨g, rfl, hM, F1.rf⟩
    · rw [if_neg (by rw [z6]; exact nI_ge (by omega) (by omega))]
      obtain ⟨g1, e1, m1, f1⟩ := lp_M_trimIn h (fun x20 g21 => lt1 (nI a + 1) fun x22 => (f_X5_trim_L48 K (nI t) n x20 x22 g21)) (c := allN τ t a) (a := a) (by omega) ht fuel0 0 g ρ (by omega) (by have := fuel_gt; omega) hM (fun k h1 h2 => hB k (by omega) h2)
      obtain ⟨g', e, m, f⟩ := ih (a + 1) g1 _ (by omega) (by omega) m1 (fun k h1 h2 => by unfold zT; rw [if_neg (by omega)]; exact hB k (by omega) h2)
      rw [zU_step ρ (a := a) (by omega) ht] at m
      refine ⟨g', ?_, m, F1.tr f1 f⟩
      rw [← e]
      refine Eq.trans e1 ?_
      rw [lt1, nI_1]
      rfl
theorem M_trim (a1 : Int32) : MAct (f_X5_trim a1) (s_trim a1) := by
  intro g g1 τ hM h hr hM1
  unfold f_X5_trim s_trim
  rw [noS_eq]
  cases hv : f_X4_isSlot a1 with
  | false => exact ⟨g, rfl, fun _ => rfl, fun q => absurd (show (-1 : Int32) < 0 by decide) q⟩
  | true =>
    obtain ⟨s, hs1, hs2, rfl⟩ := isS_of hv
    have hp := pre_le τ
    have b2 := h.2.2.2.2.2.2.2
    rw [if_neg (by decide), if_pos rfl, nI_clamp (by omega), M_prefix hM h, bnd_some]
    unfold s_trimN
    by_cases e1 : pre τ < s
    · rw [if_neg (nI_ge e1 (by omega)), if_pos e1]
      exact NG_4
    · rw [if_pos (nI_le (by omega) (by omega)), if_neg e1, M_isTrimmed hM h hs2, bnd_some]
      by_cases e2 : s ≤ τ 869
      · rw [decide_eq_true e2, if_pos rfl, if_pos e2]
        exact NG_5
      · have m1 := MR_up hM1 869 s
        rw [decide_eq_false e2, if_neg (by decide), if_neg e2, hr, bnd_some, z869, M_wr (by omega), bnd_some]
        obtain ⟨g', e, m, f⟩ := lp_M_trim h (fun x23 g24 => some (x23, g24)) hs2 fuel0 0 _ _ (by omega) (by have := fuel_gt; omega) m1 (fun k _ h2 => rup_ne (by omega))
        rw [zU_trR] at m
        have hle : allN τ s 6 < 2 ^ 31 := by
          have : ∀ n, allN τ s n ≤ 16 * n := by
            intro n
            induction n with
            | zero => exact Nat.le_refl _
            | succ n ih => rw [allN]; have : votesN τ n s ≤ s := cntN_le _ s; omega
          have := this 6
          omega
        refine Eq.mp (congrArg (fun z => NG z _ g g1) e.symm) ?_
        exact NG_ok hle m (F1.tr F1.up f)
