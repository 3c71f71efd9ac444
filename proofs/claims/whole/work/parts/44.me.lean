theorem in_eq (a l u : Int32) : f_X5_in a l u = (decide (l ≤ a) && decide (a ≤ u)) := by
  unfold f_X5_in
  by_cases h1 : a < l
  · rw [if_pos h1, decide_eq_false (Int32.not_le.mpr h1)]; rfl
  · rw [if_neg h1, decide_eq_true (Int32.not_lt.mp h1)]
    by_cases h2 : u < a
    · rw [if_pos h2, decide_eq_false (Int32.not_le.mpr h2)]; rfl
    · rw [if_neg h2, decide_eq_true (Int32.not_lt.mp h2)]; rfl
theorem isV_in (a : Int32) : isV a = (f_X5_in a 1 99 || f_X5_in a 101 163) := by
  rw [in_eq, in_eq]
  unfold isV
  by_cases h1 : 1 ≤ a
  · rw [decide_eq_true h1]; rfl
  · have h2 : ¬ 101 ≤ a := by
      rw [Int32.le_iff_toInt_le] at h1 ⊢
      have e1 : (1 : Int32).toInt = 1 := rfl
      have e2 : (101 : Int32).toInt = 101 := rfl
      omega
    rw [decide_eq_false h1, decide_eq_false h2]; rfl
def tl_propose (a1 a2 a3 : Int32) (g : Mem) : Option (Int32 × Mem) := (rd g 1 873 (204 + a1)).bind fun x4 => ((if x4 = 0 then some ((-4), g) else (f_X5_isTrimmed a2 g).bind fun x6 => ((if x6 then some ((-4), g) else (f_X5_isOpen a2 g).bind fun x8 => ((if x8 then (f_X5_lacking a1 a2 g).bind fun x10 => ((if 0 < x10 then some ((-4), g) else (rd g 1 873 (f_X5_proposedAt a1 a2)).bind fun x12 => ((if x12 ≤ 0 then (f_X5_record  g).bind fun g14 => ((f_X5_bound a1 a2 g14).bind fun x15 => ((if x15 ≤ 0 then (wr g14 1 873 (f_X5_proposedAt a1 a2) a3).bind fun g17 => ((rd g17 1 873 (f_X5_proposedAt a1 a2)).bind fun x18 => (some (x18, g17))) else (wr g14 1 873 (f_X5_proposedAt a1 a2) x15).bind fun g19 => ((rd g19 1 873 (f_X5_proposedAt a1 a2)).bind fun x20 => (some (x20, g19)))))) else some ((-4), g))))) else some ((-4), g)))))))
theorem propose_eq (a1 a2 a3 : Int32) (g : Mem) : f_X5_propose a1 a2 a3 g = if f_X5_noProposer a1 then some ((-1), g) else if f_X5_noSlot a2 then some ((-1), g) else if f_X5_in a3 1 99 then tl_propose a1 a2 a3 g else if f_X5_in a3 101 163 then tl_propose a1 a2 a3 g else some ((-2), g) := rfl
theorem lack_le {τ : Row} (p s : Nat) : lack τ p s ≤ 7 := by
  have := pc_le (vo τ s)
  unfold lack fir
  omega
theorem M_tl_propose {g g1 : Mem} {τ : Row} (hM : MR g τ) (h : RI τ) (hr : f_X5_record g = some g1) (hM1 : MR g1 τ) {p s w : Nat} (hp : p < 3) (hs1 : 1 ≤ s) (hs2 : s ≤ 16) (hw : w < 2 ^ 31) : NG (tl_propose (nI p) (nI s) (nI w) g) (s_proposeN p s w τ) g g1 := by
  unfold tl_propose
  have b1 := h.1 (204 + p) (by omega)
  have b2 := h.2.2.2.2.2.2.2
  have b3 := h.1 (789 + (16 * p + s - 1)) (by omega)
  have b4 := lack_le (τ := τ) p s
  have b5 := bound_le h hp hs1 hs2
  have bad : mayP τ p s = false → NG (some (-4, g)) (s_proposeN p s w τ) g g1 := fun hm => by
    unfold s_proposeN
    rw [hm, if_neg (by decide)]
    exact NG_4
  rw [z204, nI_add, M_rd hM (by omega), bnd_some]
  by_cases e1 : τ (204 + p) = 0
  · rw [if_pos (by rw [e1]; rfl)]
    exact bad (by unfold mayP; rw [decide_eq_false (fun z => z e1)]; rfl)
  · rw [if_neg (fun z => e1 ((nI_z (by omega)).mp z)), M_isTrimmed hM h hs2, bnd_some]
    by_cases e2 : s ≤ τ 869
    · rw [decide_eq_true e2, if_pos rfl]
      exact bad (by unfold mayP; rw [decide_eq_false (show ¬ τ 869 < s by omega)]; simp)
    · rw [decide_eq_false e2, if_neg (by decide), M_isOpen hM h hs2, bnd_some]
      by_cases e3 : s ≤ pre τ + 3
      · rw [decide_eq_true e3, if_pos rfl, M_lacking hM h hp hs2, bnd_some]
        by_cases e4 : lack τ p s = 0
        · rw [if_neg (by rw [e4]; decide), propAt_nI hs1, M_rd hM (by omega), bnd_some]
          by_cases e5 : τ (789 + (16 * p + s - 1)) = 0
          · have hm : mayP τ p s = true := by
              unfold mayP
              rw [decide_eq_true e1, decide_eq_true (show τ 869 < s by omega), decide_eq_true e3, decide_eq_true e4, decide_eq_true e5]
              rfl
            unfold s_proposeN
            rw [if_pos (by rw [e5]; decide), hr, bnd_some, M_bound hM1 h hp hs1 hs2, bnd_some, hm, if_pos rfl]
            by_cases e6 : bound τ p s = 0
            · have m := MR_up hM1 (789 + (16 * p + s - 1)) w
              rw [if_pos (by rw [e6]; decide), M_wr (by omega), bnd_some, M_rd m (by omega), bnd_some, rup_eq, if_pos e6]
              exact NG_ok hw m F1.up
            · have m := MR_up hM1 (789 + (16 * p + s - 1)) (bound τ p s)
              rw [if_neg (by rw [z0]; exact nI_ge (by omega) (by omega)), M_wr (by omega), bnd_some, M_rd m (by omega), bnd_some, rup_eq, if_neg e6]
              exact NG_ok (by omega) m F1.up
          · rw [if_neg (by rw [z0]; exact nI_ge (by omega) (by omega))]
            exact bad (by unfold mayP; rw [decide_eq_false e5]; simp)
        · rw [if_pos (by rw [z0]; exact nI_lt (by omega) (by omega))]
          exact bad (by unfold mayP; rw [decide_eq_false e4]; simp)
      · rw [decide_eq_false e3, if_neg (by decide)]
        exact bad (by unfold mayP; rw [decide_eq_false e3]; simp)
theorem M_propose (a1 a2 a3 : Int32) : MAct (f_X5_propose a1 a2 a3) (s_propose a1 a2 a3) := by
  intro g g1 τ hM h hr hM1
  rw [propose_eq]
  unfold s_propose
  rw [noP_eq, noS_eq, isV_in]
  cases hv : f_X4_isProposer a1 with
  | false => exact ⟨g, rfl, fun _ => rfl, fun q => absurd (show (-1 : Int32) < 0 by decide) q⟩
  | true =>
    cases hw : f_X4_isSlot a2 with
    | false => exact ⟨g, rfl, fun _ => rfl, fun q => absurd (show (-1 : Int32) < 0 by decide) q⟩
    | true =>
      obtain ⟨p, hp, rfl⟩ := isP_of hv
      obtain ⟨s, hs1, hs2, rfl⟩ := isS_of hw
      have hx := isV_in a3
      rw [if_neg (by decide), if_neg (by decide), if_pos (c := (true && true) = true) rfl, nI_clamp (by omega), nI_clamp (by omega)]
      cases h1 : f_X5_in a3 1 99 with
      | true =>
        rw [h1, Bool.true_or] at hx
        obtain ⟨w, w1, w2, w3, rfl⟩ := isV_of hx
        rw [if_pos rfl, if_pos (by rfl), nI_clamp (by omega)]
        exact M_tl_propose hM h hr hM1 hp hs1 hs2 (by omega)
      | false =>
        cases h2 : f_X5_in a3 101 163 with
        | true =>
          rw [h1, h2] at hx
          obtain ⟨w, w1, w2, w3, rfl⟩ := isV_of hx
          rw [if_neg (by decide), if_pos rfl, if_pos (by rfl), nI_clamp (by omega)]
          exact M_tl_propose hM h hr hM1 hp hs1 hs2 (by omega)
        | false => exact ⟨g, rfl, fun _ => rfl, fun q => absurd (show (-2 : Int32) < 0 by decide) q⟩
theorem lp_M_for {g : Mem} {τ : Row} (hM : MR g τ) (h : RI τ) (K : Int32 → Option (Int32 × Mem)) {s b : Nat} {v : Int32} (hs1 : 1 ≤ s) (hs2 : s ≤ 16) (hb : b < 2 ^ 31) (P : Nat → Bool) (hP : ∀ i, i < 6 → P i = (hs (vo τ s) i && decide (τ (12 + 2 * (16 * i + s - 1)) = b))) : ∀ n a, a ≤ 6 → 6 - a < n → f_X5_vote_L173 K (nI s) v (nI b) g n (nI (cntN P a)) (nI a) = K (nI (cntN P 6)) := by
  intro n
  induction n with
  | zero => intro a _ h; omega
  | succ n ih =>
    intro a ha hn
    rw [f_X5_vote_L173]
    by_cases h6 : a = 6
    · subst h6
      rw [if_pos (by rw [z6]; exact nI_le (by omega) (by omega))]
    · have step := ih (a + 1) (by omega) (by omega)
      have b1 := h.1 (12 + 2 * (16 * a + s - 1)) (by omega)
      rw [if_neg (by rw [z6]; exact nI_ge (by omega) (by omega)), M_voters hM h hs2, bnd_some, isIn_nI _ (vo_lt h hs2) a (by omega)]
      simp only [lt1, nI_1, add0]
      have hPa := hP a (by omega)
      rw [cntN] at step
      cases hva : hs (vo τ s) a with
      | false =>
        rw [if_neg (by decide)]
        rw [hva] at hPa
        rw [hPa] at step
        exact step
      | true =>
        rw [if_pos rfl, voteAt_nI hs1, M_rd hM (by omega), bnd_some]
        rw [hva, Bool.true_and] at hPa
        by_cases q1 : τ (12 + 2 * (16 * a + s - 1)) = b
        · rw [if_pos (by rw [q1])]
          rw [hPa, decide_eq_true q1] at step
          exact step
        · rw [if_neg (fun z => q1 ((nI_eq (by omega) hb).mp z))]
          rw [hPa, decide_eq_false q1] at step
          exact step
