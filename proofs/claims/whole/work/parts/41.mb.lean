/-! the reference's readers -/
section MREAD
variable {g : Mem} {τ : Row}
theorem M_acceptor (hM : MR g τ) (h : RI τ) (a w : Int32) : f_X5_acceptor a w g = some (o_acceptor a w τ) := by
  unfold f_X5_acceptor o_acceptor
  rw [noA_eq]
  cases hv : f_X4_isAcceptor a with
  | false => rfl
  | true =>
    obtain ⟨k, hk, rfl⟩ := isA_of hv
    rw [if_neg (by decide), if_pos rfl, nI_clamp (by omega)]
    refine ifc (β := Nat) (fun _ => ?_) (fun _ => ifc (β := Nat) (fun _ => ?_) (fun _ => ifc (β := Nat) (fun _ => ?_) (fun _ => rfl)))
    · rw [z0, nI_add, Nat.zero_add, M_rd hM (by omega), bnd_some]
    · rw [z6, nI_add, M_rd hM (by omega), bnd_some]
    · rw [M_votes hM h hk, bnd_some]
theorem in01 {w : Int32} : f_X5_in w 0 1 = !(decide (w < 0) || !decide (w ≤ 1)) := by
  unfold f_X5_in
  by_cases h1 : w < 0
  · simp [h1]
  · by_cases h2 : 1 < w
    · have : ¬ w ≤ 1 := Int32.not_le.mpr h2
      simp [h1, h2, this]
    · have : w ≤ 1 := Int32.not_lt.mp h2
      simp [h1, h2, this]
theorem M_voted (hM : MR g τ) (h : RI τ) (a s w : Int32) : f_X5_voted a s w g = some (o_voted a s w τ) := by
  unfold f_X5_voted o_voted
  rw [noA_eq, noS_eq]
  cases hv : f_X4_isAcceptor a with
  | false => rfl
  | true =>
    cases hw : f_X4_isSlot s with
    | false => rfl
    | true =>
      obtain ⟨k, hk, rfl⟩ := isA_of hv
      obtain ⟨j, hj1, hj, rfl⟩ := isS_of hw
      have b := h.1 (12 + 2 * (16 * k + j - 1)) (by omega)
      rw [if_neg (by decide), if_neg (by decide), if_pos (c := (true && true) = true) rfl, nI_clamp (by omega), nI_clamp (by omega), in01]
      by_cases h1 : w < 0
      · rw [if_pos h1, if_neg (by simp [h1])]
      · by_cases h2 : w ≤ 1
        · rw [if_neg h1, if_pos h2, if_pos (by simp [h1, h2]), voteAt_nI hj1, lt1, M_rd hM (by omega), bnd_some]
          by_cases e : τ (12 + 2 * (16 * k + j - 1)) = 0
          · rw [if_pos (by rw [e]; rfl), if_pos e]
          · rw [if_neg (fun z => e ((nI_z (by omega)).mp z)), if_neg e]
            obtain ⟨z, hz, rfl⟩ := nI_of h1
            rw [z1, nI_leI hz (by omega)] at h2
            by_cases q : z = 0
            · subst q
              rw [if_pos nI_0, nI_add, M_rd hM (by omega), bnd_some, Nat.add_zero]
            · have q1 : z = 1 := by omega
              subst q1
              rw [if_neg (by decide), nI_add, M_rd hM (by omega), bnd_some, show 12 + 2 * (16 * k + j - 1) + 1 = 13 + 2 * (16 * k + j - 1) from by omega]
        · rw [if_neg h1, if_neg h2, if_neg (by simp [h2])]
theorem M_proposer (hM : MR g τ) (h : RI τ) (p w : Int32) : f_X5_proposer p w g = some (o_proposer p w τ) := by
  unfold f_X5_proposer o_proposer
  rw [noP_eq]
  cases hv : f_X4_isProposer p with
  | false => rfl
  | true =>
    obtain ⟨k, hk, rfl⟩ := isP_of hv
    rw [if_neg (by decide), if_pos rfl, nI_clamp (by omega)]
    refine ifc (β := Nat) (fun _ => ?_) (fun _ => ifc (β := Nat) (fun _ => ?_) (fun _ => ifc (β := Nat) (fun _ => ?_) (fun _ => ifc (β := Nat) (fun _ => ?_) (fun _ => rfl))))
    · rw [z204, nI_add, M_rd hM (by omega), bnd_some]
    · rw [z207, nI_add, M_rd hM (by omega), bnd_some]
    · rw [z210, nI_add, M_rd hM (by omega), bnd_some]
    · rw [M_proposals hM h hk, bnd_some]
theorem in02 {w : Int32} : f_X5_in w 0 2 = (decide (w = 0) || (decide (w = 1) || decide (w = 2))) := by
  unfold f_X5_in
  by_cases h1 : w < 0
  · have a0 : ¬ w = 0 := fun e => by rw [e] at h1; exact absurd h1 (by decide)
    have a1 : ¬ w = 1 := fun e => by rw [e] at h1; exact absurd h1 (by decide)
    have a2 : ¬ w = 2 := fun e => by rw [e] at h1; exact absurd h1 (by decide)
    simp [h1, a0, a1, a2]
  · obtain ⟨j, hj, rfl⟩ := nI_of h1
    rw [if_neg h1]
    by_cases h2 : 2 < j
    · have a0 : ¬ nI j = 0 := fun e => by rw [z0, nI_eq hj (by omega)] at e; omega
      have a1 : ¬ nI j = 1 := fun e => by rw [z1, nI_eq hj (by omega)] at e; omega
      have a2 : ¬ nI j = 2 := fun e => by rw [z2, nI_eq hj (by omega)] at e; omega
      rw [if_pos (by rw [z2]; exact nI_lt h2 hj), decide_eq_false a0, decide_eq_false a1, decide_eq_false a2]; rfl
    · rw [if_neg (by rw [z2]; exact nI_nlt (by omega) (by omega))]
      rcases (show j = 0 ∨ j = 1 ∨ j = 2 by omega) with rfl | rfl | rfl <;> decide
theorem orN_if {x : Nat} (h : x < 2 ^ 31) : (if nI x = 0 then some (-5 : Int32) else some (nI x)) = some (orN x) := by
  unfold orN
  by_cases e : x = 0
  · rw [if_pos (by rw [e]; rfl), if_pos e]
  · rw [if_neg (fun z => e ((nI_z h).mp z)), if_neg e]
theorem M_proposed (hM : MR g τ) (h : RI τ) (p s w : Int32) : f_X5_proposed p s w g = some (o_proposed p s w τ) := by
  unfold f_X5_proposed o_proposed
  rw [noP_eq, noS_eq]
  cases hv : f_X4_isProposer p with
  | false => rfl
  | true =>
    cases hw : f_X4_isSlot s with
    | false => rfl
    | true =>
      obtain ⟨k, hk, rfl⟩ := isP_of hv
      obtain ⟨j, hj1, hj, rfl⟩ := isS_of hw
      have b := h.1 (789 + (16 * k + j - 1)) (by omega)
      rw [if_neg (by decide), if_neg (by decide), if_pos (c := (true && true) = true) rfl, nI_clamp (by omega), nI_clamp (by omega), in02]
      by_cases e0 : w = 0
      · rw [if_pos e0, if_pos e0, if_pos (by simp [e0]), propAt_nI hj1, M_rd hM (by omega), bnd_some, orN_if (by omega)]
      · rw [if_neg e0, if_neg e0]
        by_cases e1 : w = 1
        · rw [if_pos e1, if_pos e1, if_pos (by simp [e1]), M_isOpen hM h hj, bnd_some]
          by_cases e : j ≤ pre τ + 3
          · rw [decide_eq_true e, if_pos rfl, if_pos e, M_bound hM h hk hj1 hj, bnd_some]
          · rw [decide_eq_false e, if_neg (by decide), if_neg e]
        · rw [if_neg e1, if_neg e1]
          by_cases e2 : w = 2
          · rw [if_pos e2, if_pos (by simp [e2]), M_isOpen hM h hj, bnd_some]
            by_cases e : j ≤ pre τ + 3
            · rw [decide_eq_true e, if_pos rfl, if_pos e, M_lacking hM h hk hj, bnd_some]
            · rw [decide_eq_false e, if_neg (by decide), if_neg e]
          · rw [if_neg e2, if_neg (by simp [e0, e1, e2])]
theorem M_slot (hM : MR g τ) (h : RK τ) (s w : Int32) : f_X5_slot s w g = some (o_slot s w τ) := by
  unfold f_X5_slot o_slot
  rw [noS_eq]
  obtain ⟨h, hJ⟩ := h
  cases hw : f_X4_isSlot s with
  | false => rfl
  | true =>
    obtain ⟨j, hj1, hj, rfl⟩ := isS_of hw
    have b := h.1 (837 + (j - 1)) (by omega)
    have b2 := h.1 (853 + (j - 1)) (by omega)
    have b3 := h.2.2.2.2.2.2.2
    have ec := M_chosen hM (i := j - 1) (by omega)
    rw [show j - 1 + 1 = j from by omega] at ec
    rw [if_neg (by decide), if_pos rfl, nI_clamp (by omega)]
    refine ifc (β := Nat) (fun _ => ?_) (fun _ => ifc (β := Nat) (fun _ => ?_) (fun _ => ifc (β := Nat) (fun _ => ?_) (fun _ => ifc (β := Nat) (fun _ => ?_) (fun _ => ifc (β := Nat) (fun _ => ?_) (fun _ => ifc (β := Nat) (fun _ => ?_) (fun _ => rfl))))))
    · rw [ec, bnd_some, bnd_some, orN_if (by omega)]
    · have hj0 := hJ.1 (j - 1) (by omega)
      rw [ec, bnd_some, z853, nI_add, z1, pk_sub (by omega), show 853 + j - 1 = 853 + (j - 1) from by omega, M_rd hM (by omega), bnd_some]
      unfold orN
      by_cases e : τ (837 + (j - 1)) = 0
      · rw [if_pos (by rw [e]; rfl), if_pos (hj0.mp e)]
      · rw [if_neg (fun z => e ((nI_z (by omega)).mp z)), if_neg (fun z => e (hj0.mpr z))]
    · rw [M_isOpen hM h hj, bnd_some]
      by_cases e : j ≤ pre τ + 3
      · rw [decide_eq_true e, if_pos rfl, if_pos e, M_voters hM h hj, bnd_some]
      · rw [decide_eq_false e, if_neg (by decide), if_neg e]
    · rw [M_isOpen hM h hj, bnd_some]
      by_cases e : j ≤ pre τ + 3
      · rw [decide_eq_true e, if_pos rfl, if_pos e, M_first hM h hj, bnd_some]
      · rw [decide_eq_false e, if_neg (by decide), if_neg e]
    · rw [M_isOpen hM h hj, bnd_some]
      by_cases e : j ≤ pre τ + 3
      · rw [decide_eq_true e, if_pos rfl, if_pos e, M_second hM h hj, bnd_some]
      · rw [decide_eq_false e, if_neg (by decide), if_neg e]
    · rw [M_isTrimmed hM h hj, bnd_some]
      by_cases e : j ≤ τ 869
      · rw [decide_eq_true e, if_pos rfl, if_neg (by omega)]
      · rw [decide_eq_false e, if_neg (by decide), if_pos (by omega)]
theorem lp_M_could (hM : MR g τ) (h : RI τ) (K : Int32 → Option Int32) {s b : Nat} (hs1 : 1 ≤ s) (hs2 : s ≤ 16) (hb : b < 2 ^ 31) (P : Nat → Bool) (hP : ∀ i, i < 6 → P i = (hs (vo τ s) i && (decide (τ (12 + 2 * (16 * i + s - 1)) = b) || decide (τ (6 + i) ≤ b)))) : ∀ n a, a ≤ 6 → 6 - a < n → f_X5_could_L47 K (nI s) (nI b) g n (nI (cntN P a)) (nI a) = K (nI (cntN P 6)) := by
  intro n
  induction n with
  | zero => intro a _ h; omega
  | succ n ih =>
    intro a ha hn
    rw [f_X5_could_L47]
    by_cases h6 : a = 6
    · subst h6
      rw [if_pos (by rw [z6]; exact nI_le (by omega) (by omega))]
    · have step := ih (a + 1) (by omega) (by omega)
      have b1 := h.1 (12 + 2 * (16 * a + s - 1)) (by omega)
      have b2 := h.1 (6 + a) (by omega)
      rw [if_neg (by rw [z6]; exact nI_ge (by omega) (by omega)), M_voters hM h hs2, bnd_some, isIn_nI _ (vo_lt h hs2) a (by omega)]
      simp only [lt1, nI_1, add0]
      have hPa := hP a (by omega)
      rw [cntN] at step
      cases hva : hs (vo τ s) a with
      | false =>
        rw [if_neg (by decide)]
        rw [hva] at hPa
        rw [hPa] at step
        exact step
      | true =>
        rw [if_pos rfl, voteAt_nI hs1, M_rd hM (by omega), bnd_some]
        rw [hva, Bool.true_and] at hPa
        by_cases q1 : τ (12 + 2 * (16 * a + s - 1)) = b
        · rw [if_pos (by rw [q1])]
          rw [hPa, decide_eq_true q1] at step
          exact step
        · rw [if_neg (fun z => q1 ((nI_eq (by omega) hb).mp z)), z6, nI_add, M_rd hM (by omega), bnd_some]
          rw [hPa, decide_eq_false q1, Bool.false_or] at step
          by_cases q2 : τ (6 + a) ≤ b
          · rw [if_neg (nI_nlt q2 hb)]
            rw [decide_eq_true q2] at step
            exact step
          · rw [if_pos (nI_lt (by omega) (by omega))]
            rw [decide_eq_false q2] at step
            exact step
theorem in1b {w b : Int32} : f_X5_in w 1 b = !(decide (w < 1) || !decide (w ≤ b)) := by
  unfold f_X5_in
  by_cases h1 : w < 1
  · simp [h1]
  · by_cases h2 : b < w
    · have : ¬ w ≤ b := Int32.not_le.mpr h2
      simp [h1, h2, this]
    · have : w ≤ b := Int32.not_lt.mp h2
      simp [h1, h2, this]
theorem M_couldT (hM : MR g τ) (h : RI τ) (s b : Int32) : f_X5_could s b g = some (o_could s b τ) := by
  unfold f_X5_could o_could
  rw [noS_eq, in1b]
  cases hw : f_X4_isSlot s with
  | false => rfl
  | true =>
    obtain ⟨j, hj1, hj, rfl⟩ := isS_of hw
    rw [if_neg (by decide), if_pos rfl, nI_clamp (by omega)]
    by_cases h1 : b < 1
    · rw [if_pos h1, if_neg (by simp [h1])]
    · by_cases h2 : b ≤ 999
      · rw [if_neg h1, if_pos h2, if_pos (by simp [h1, h2]), M_isTrimmed hM h hj, bnd_some, M_isOpen hM h hj, bnd_some]
        obtain ⟨z, hz1, hz, rfl⟩ := pos_of h1
        rw [nI_clamp hz]
        by_cases e : j ≤ τ 869
        · rw [decide_eq_true e, if_pos rfl, if_neg (fun q => by omega)]
        · rw [decide_eq_false e, if_neg (by decide)]
          by_cases e2 : j ≤ pre τ + 3
          · rw [decide_eq_true e2, if_pos rfl, if_pos ⟨by omega, e2⟩]
            have key := lp_M_could hM h (fun x22 => (f_X5_secondSize (nI j) g).bind fun x23 => ((if x22 < x23 then some 0 else some 1))) hj1 hj hz (fun i => hs (vo τ j) i && (decide (τ (12 + 2 * (16 * i + j - 1)) = z) || decide (τ (6 + i) ≤ z))) (fun _ _ => rfl) fuel0 0 (by omega) (by have := fuel_gt; omega)
            refine Eq.trans key ?_
            rw [M_second hM h hj, bnd_some]
            show (if nI (cld τ j z) < nI (sec τ j) then some 0 else some 1) = _
            have h6 : cld τ j z ≤ 6 := cntN_le _ 6
            have h7 : sec τ j ≤ 6 := by have := sec_le τ j; have := pc_le (vo τ j); omega
            by_cases e3 : sec τ j ≤ cld τ j z
            · rw [if_neg (nI_nlt e3 (by omega)), if_pos e3]
            · rw [if_pos (nI_lt (by omega) (by omega)), if_neg e3]
          · rw [decide_eq_false e2, if_neg (by decide), if_neg (fun q => e2 q.2)]
      · rw [if_neg h1, if_neg h2, if_neg (by simp [h2])]
theorem M_count {hn tn : Nat} (hM : MR g τ) (h : RI τ) (h1 : g 0 2 = nI hn) (h2 : g 0 6 = nI tn) (w : Int32) : f_X5_count w g = some (o_count w τ hn tn) := by
  unfold f_X5_count o_count
  have hp := pre_le τ
  refine ifc (β := Nat) (fun _ => ?_) (fun _ => ifc (β := Nat) (fun _ => ?_) (fun _ => ifc (β := Nat) (fun _ => ?_) (fun _ => ifc (β := Nat) (fun _ => ?_) (fun _ => ifc (β := Nat) (fun _ => ?_) (fun _ => ifc (β := Nat) (fun _ => ?_) (fun _ => ifc (β := Nat) (fun _ => ?_) (fun _ => ifc (β := Nat) (fun _ => ?_) (fun _ => ifc (β := Nat) (fun _ => ?_) (fun _ => ifc (β := Nat) (fun _ => ?_) (fun _ => ifc (β := Nat) (fun _ => ?_) (fun _ => rfl)))))))))))
  · rw [M_prefix hM h, bnd_some]
  · rw [M_slots hM h 0 0 (Or.inl ⟨rfl, rfl⟩), bnd_some]
  · rw [z869, M_rd hM (by omega), bnd_some]
  · rw [z870, M_rd hM (by omega), bnd_some]
  · rw [M_ups hM h, bnd_some]
  · rw [M_prefix hM h, bnd_some, bnd_some, z3, nI_add, z16]
    by_cases e : 16 ≤ pre τ + 3
    · rw [if_pos (nI_le e (by omega)), Nat.min_eq_left e]
    · rw [if_neg (nI_ge (by omega) (by omega)), Nat.min_eq_right (by omega)]
  · rw [z871, M_rd hM (by omega), bnd_some]
  · rw [z872, M_rd hM (by omega), bnd_some]
  · rw [M_slots hM h 1 100 (Or.inr ⟨by decide, rfl⟩), bnd_some]
  · rw [h1]
  · rw [h2]
end MREAD
