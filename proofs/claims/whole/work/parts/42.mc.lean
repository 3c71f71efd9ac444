/-! the reference's acts, over any record that leaves its row as it is -/
/-- nothing but the row (object 1) changes -/
def F1 (g g' : Mem) : Prop := ∀ q, q ≠ 1 → g' q = g q
theorem F1.rf {g : Mem} : F1 g g := fun _ _ => rfl
theorem F1.tr {g g1 g2 : Mem} (h1 : F1 g g1) (h2 : F1 g1 g2) : F1 g g2 := fun q hq => (h2 q hq).trans (h1 q hq)
theorem F1.up {g : Mem} {k : Nat} {v : Int32} : F1 g (m_up g 1 k v) := fun _ hq => mu_q hq
theorem MR_up {g : Mem} {τ : Row} (hM : MR g τ) (k v : Nat) : MR (m_up g 1 k (nI v)) (rup τ k v) := by
  intro j hj
  by_cases e : j = k
  · subst e; rw [mu_eq, rup_eq]
  · rw [mu_k e, rup_ne e]; exact hM j hj
theorem M_wr {g : Mem} {k : Nat} (hk : k < 873) (v : Nat) : wr g 1 873 (nI k) (nI v) = some (m_up g 1 k (nI v)) := wr_nI hk (by omega)
/-- what an act of the reference is to be: an error leaves all; else behind the record g1 the row alone changes -/
def MAct (F : Mem → Option (Int32 × Mem)) (f : Row → Int32 × Row) : Prop := ∀ (g g1 : Mem) (τ : Row), MR g τ → RI τ → f_X5_record g = some g1 → MR g1 τ → ∃ g', F g = some ((f τ).1, g') ∧ ((f τ).1 < 0 → g' = g) ∧ (¬ (f τ).1 < 0 → MR g' (f τ).2 ∧ F1 g1 g')
theorem ltN {n : Nat} (h : n < 2 ^ 31) : ¬ nI n < 0 := nI_pos h
theorem M_turn (a : Int32) (up : Bool) : MAct (f_X5_setUp a up) (s_turn a up) := by
  intro g g1 τ hM h hr hM1
  unfold f_X5_setUp s_turn
  rw [noA_eq]
  cases hv : f_X4_isAcceptor a with
  | false => exact ⟨g, rfl, fun _ => rfl, fun q => absurd (show (-1 : Int32) < 0 by decide) q⟩
  | true =>
    obtain ⟨k, hk, rfl⟩ := isA_of hv
    have b := h.2.1 k hk
    rw [if_neg (by decide), if_pos rfl, nI_clamp (by omega), z0, nI_add, Nat.zero_add, M_rd hM (by omega), bnd_some]
    have e1 : (if nI (τ k) = 1 then f_X5_setUp_J26 (nI k) up 1 g else f_X5_setUp_J26 (nI k) up (nI 0) g) = f_X5_setUp_J26 (nI k) up (bI (decide (τ k = 1))) g := by
      by_cases e : τ k = 1
      · rw [e, if_pos (show nI 1 = 1 from rfl), decide_eq_true rfl]; rfl
      · rw [if_neg (fun z => e (by rw [z1] at z; exact (nI_eq (by omega) (by omega)).mp z)), decide_eq_false e]; rfl
    rw [e1]
    unfold f_X5_setUp_J26 s_turnN
    have hbI : ∀ x y : Bool, bI x = bI y ↔ x = y := by decide
    by_cases he : decide (τ k = 1) = up
    · rw [if_pos ((hbI _ _).mpr he), if_pos he]
      exact ⟨g, rfl, fun _ => rfl, fun q => absurd (show (-5 : Int32) < 0 by decide) q⟩
    · rw [if_neg (fun q => he ((hbI _ _).mp q)), if_neg he, hr, bnd_some, z0, nI_add, Nat.zero_add]
      have hI : ∀ v, v ≤ 1 → RI (rup τ k v) := fun v hv => by
        refine RI_rup h _ _ ?_ ?_ ?_ ?_ ?_ ?_ ?_ ?_
        all_goals omega
      have hlt : ∀ v, v ≤ 1 → upm (rup τ k v) < 64 := fun v hv => upm_lt (hI v hv)
      cases up with
      | true =>
        have h1 := MR_up hM1 k 1
        rw [if_pos rfl, z1, M_wr (by omega), bnd_some, M_ups h1 (hI 1 (by omega)), bnd_some, bits_nI _ (hlt 1 (by omega)), bnd_some]
        exact ⟨_, rfl, fun q => absurd q (ltN (by have := pc_le (upm (rup τ k 1)); show pc (upm (rup τ k 1)) < _; omega)), fun _ => ⟨h1, F1.up⟩⟩
      | false =>
        have h1 := MR_up hM1 k 0
        rw [if_neg (by decide), M_wr (by omega), bnd_some, M_ups h1 (hI 0 (by omega)), bnd_some, bits_nI _ (hlt 0 (by omega)), bnd_some]
        exact ⟨_, rfl, fun q => absurd q (ltN (by have := pc_le (upm (rup τ k 0)); show pc (upm (rup τ k 0)) < _; omega)), fun _ => ⟨h1, F1.up⟩⟩
theorem M_second2 (a : Int32) : MAct (f_X5_setSecond a) (s_second a) := by
  intro g g1 τ hM h hr hM1
  unfold f_X5_setSecond s_second
  rw [in16_eq]
  cases hv : f_X4_isSize a with
  | false => exact ⟨g, rfl, fun _ => rfl, fun q => absurd (show (-2 : Int32) < 0 by decide) q⟩
  | true =>
    obtain ⟨k, hk1, hk, rfl⟩ := isK_of hv
    obtain ⟨n, hn⟩ : ∃ n, fuel0 = n + 1 + 1 + 1 + 1 := ⟨fuel0 - 4, by have := fuel_gt; omega⟩
    have h0 := h.1 204 (by omega)
    have h1 := h.1 205 (by omega)
    have h2 := h.1 206 (by omega)
    have h8 := h.1 870 (by omega)
    rw [if_pos rfl, if_pos rfl, hn]
    generalize hK : ((rd g 1 873 870).bind fun x6 => ((if x6 = nI k then some ((-5), g) else (f_X5_record g).bind fun g8 => ((wr g8 1 873 870 (nI k)).bind fun g9 => (some (x6, g9)))))) = K
    rw [f_X5_setSecond_L15, if_neg (by decide), z204, z0, nI_add, M_rd hM (by omega), bnd_some]
    have bad : ∃ g', some ((-4 : Int32), g) = some (((-4 : Int32), τ).1, g') ∧ (((-4 : Int32), τ).1 < 0 → g' = g) ∧ (¬ ((-4 : Int32), τ).1 < 0 → MR g' ((-4 : Int32), τ).2 ∧ F1 g1 g') := ⟨g, rfl, fun _ => rfl, fun q => absurd (show (-4 : Int32) < 0 by decide) q⟩
    by_cases q0 : τ 204 = 0
    · rw [if_pos (by show nI (τ 204) ≤ nI 0; rw [q0]; exact nI_le (by omega) (by omega)), lt1, nI_1, f_X5_setSecond_L15, if_neg (by decide), z204, nI_add, M_rd hM (by omega), bnd_some]
      by_cases q1 : τ 205 = 0
      · rw [if_pos (by show nI (τ 205) ≤ nI 0; rw [q1]; exact nI_le (by omega) (by omega)), lt1, nI_1, f_X5_setSecond_L15, if_neg (by decide), z204, nI_add, M_rd hM (by omega), bnd_some]
        by_cases q2 : τ 206 = 0
        · rw [if_pos (by show nI (τ 206) ≤ nI 0; rw [q2]; exact nI_le (by omega) (by omega)), lt1, nI_1, f_X5_setSecond_L15, if_pos (by decide), if_pos ⟨q0, q1, q2⟩, ← hK, z870, M_rd hM (by omega), bnd_some]
          by_cases e : nI (τ 870) = nI k
          · rw [if_pos e, if_pos e]
            exact ⟨g, rfl, fun _ => rfl, fun q => absurd (show (-5 : Int32) < 0 by decide) q⟩
          · rw [if_neg e, if_neg e, hr, bnd_some, M_wr (by omega), bnd_some, nI_clamp (by omega)]
            exact ⟨_, rfl, fun q => absurd q (ltN (by show τ 870 < _; omega)), fun _ => ⟨MR_up hM1 870 k, F1.up⟩⟩
        · rw [if_neg (by show ¬ nI (τ 206) ≤ nI 0; exact nI_ge (by omega) (by omega)), if_neg (fun z => q2 z.2.2)]
          exact bad
      · rw [if_neg (by show ¬ nI (τ 205) ≤ nI 0; exact nI_ge (by omega) (by omega)), if_neg (fun z => q1 z.2.1)]
        exact bad
    · rw [if_neg (by show ¬ nI (τ 204) ≤ nI 0; exact nI_ge (by omega) (by omega)), if_neg (fun z => q0 z.1)]
      exact bad
/-! prepare: the told votes and the offers of a proposer are cleared -/
def zA (ρ : Row) (p s lo : Nat) : Row := fun k => if 213 ≤ k ∧ k < 789 ∧ (k - 213) / 2 / 96 = p ∧ (k - 213) / 2 % 16 = s - 1 ∧ lo ≤ (k - 213) / 2 % 96 / 16 then 0 else ρ k
def zS (ρ : Row) (p lo : Nat) : Row := fun k => if (789 + 16 * p + lo ≤ k ∧ k < 789 + 16 * p + 16) ∨ (213 ≤ k ∧ k < 789 ∧ (k - 213) / 2 / 96 = p ∧ lo ≤ (k - 213) / 2 % 16) then 0 else ρ k
theorem zA_step (ρ : Row) {p s a : Nat} (hp : p < 3) (hs1 : 1 ≤ s) (hs2 : s ≤ 16) (ha : a < 6) : zA (rup (rup ρ (213 + 2 * (96 * p + 16 * a + s - 1)) 0) (213 + 2 * (96 * p + 16 * a + s - 1) + 1) 0) p s (a + 1) = zA ρ p s a := by
  funext k
  unfold zA rup
  by_cases h1 : 213 ≤ k ∧ k < 789 ∧ (k - 213) / 2 / 96 = p ∧ (k - 213) / 2 % 16 = s - 1 ∧ a + 1 ≤ (k - 213) / 2 % 96 / 16
  · rw [if_pos h1, if_pos (by omega)]
  · rw [if_neg h1]
    by_cases h2 : k = 213 + 2 * (96 * p + 16 * a + s - 1) + 1
    · rw [if_pos h2, if_pos (by omega)]
    · rw [if_neg h2]
      by_cases h3 : k = 213 + 2 * (96 * p + 16 * a + s - 1)
      · rw [if_pos h3, if_pos (by omega)]
      · rw [if_neg h3, if_neg (by omega)]
theorem zA_6 (ρ : Row) (p s : Nat) : zA ρ p s 6 = ρ := by
  funext k
  unfold zA
  rw [if_neg (by omega)]
theorem lp_M_clrA (K : Mem → Option (Int32 × Mem)) {p s : Nat} {v : Int32} (hp : p < 3) (hs1 : 1 ≤ s) (hs2 : s ≤ 16) : ∀ n a g ρ, a ≤ 6 → 6 - a < n → MR g ρ → ∃ g', f_X5_prepare_L132 K (nI p) v (nI s) n (nI a) g = K g' ∧ MR g' (zA ρ p s a) ∧ F1 g g' := by
  intro n
  induction n with
  | zero => intro a g ρ _ h; omega
  | succ n ih =>
    intro a g ρ ha hn hM
    rw [f_X5_prepare_L132]
    by_cases h6 : a = 6
    · subst h6
      rw [if_pos (by rw [z6]; exact nI_le (by omega) (by omega)), zA_6]
      exact ⟨g, rfl, hM, F1.rf⟩
    · rw [if_neg (by rw [z6]; exact nI_ge (by omega) (by omega)), toldAt_nI hs1, z0, M_wr (by omega), bnd_some, nI_1, M_wr (by omega), bnd_some, lt1, nI_1]
      have h1 := MR_up (MR_up hM (213 + 2 * (96 * p + 16 * a + s - 1)) 0) (213 + 2 * (96 * p + 16 * a + s - 1) + 1) 0
      obtain ⟨g', e, m, f⟩ := ih (a + 1) _ _ (by omega) (by omega) h1
      rw [zA_step ρ hp hs1 hs2 (by omega)] at m
      exact ⟨g', e, m, F1.tr (F1.tr F1.up F1.up) f⟩
theorem zS_step (ρ : Row) {p j : Nat} (hp : p < 3) (hj : j < 16) : zS (zA (rup ρ (789 + (16 * p + (j + 1) - 1)) 0) p (j + 1) 0) p (j + 1) = zS ρ p j := by
  funext k
  unfold zS zA rup
  by_cases h1 : (789 + 16 * p + (j + 1) ≤ k ∧ k < 789 + 16 * p + 16) ∨ (213 ≤ k ∧ k < 789 ∧ (k - 213) / 2 / 96 = p ∧ j + 1 ≤ (k - 213) / 2 % 16)
  · rw [if_pos h1, if_pos (by omega)]
  · rw [if_neg h1]
    by_cases h2 : 213 ≤ k ∧ k < 789 ∧ (k - 213) / 2 / 96 = p ∧ (k - 213) / 2 % 16 = j + 1 - 1 ∧ 0 ≤ (k - 213) / 2 % 96 / 16
    · rw [if_pos h2, if_pos (by omega)]
    · rw [if_neg h2]
      by_cases h3 : k = 789 + (16 * p + (j + 1) - 1)
      · rw [if_pos h3, if_pos (by omega)]
      · rw [if_neg h3, if_neg (by omega)]
theorem zS_16 (ρ : Row) (p : Nat) : zS ρ p 16 = ρ := by
  funext k
  unfold zS
  rw [if_neg (by omega)]
theorem lp_M_clrS (K : Mem → Option (Int32 × Mem)) {p : Nat} {v : Int32} (hp : p < 3) : ∀ n j g ρ, j ≤ 16 → 16 - j < n → MR g ρ → ∃ g', f_X5_prepare_L110 K (nI p) v n (nI (j + 1)) g = K g' ∧ MR g' (zS ρ p j) ∧ F1 g g' := by
  intro n
  induction n with
  | zero => intro j g ρ _ h; omega
  | succ n ih =>
    intro j g ρ hj hn hM
    rw [f_X5_prepare_L110]
    by_cases h6 : j = 16
    · subst h6
      rw [if_pos (by rw [z16]; exact nI_lt (by omega) (by omega)), zS_16]
      exact ⟨g, rfl, hM, F1.rf⟩
    · rw [if_neg (by rw [z16]; exact nI_nlt (by omega) (by omega)), propAt_nI (by omega)]
      have hw := M_wr (g := g) (k := 789 + (16 * p + (j + 1) - 1)) (by omega) 0
      rw [show nI 0 = 0 from rfl] at hw
      rw [hw, bnd_some]
      have h1 := MR_up hM (789 + (16 * p + (j + 1) - 1)) 0
      rw [show nI 0 = 0 from rfl] at h1
      obtain ⟨g2, e2, m2, f2⟩ := lp_M_clrA (fun g20 => lt1 (nI (j + 1) + 1) fun x21 => (f_X5_prepare_L110 K (nI p) v n x21 g20)) (v := v) hp (s := j + 1) (by omega) (by omega) fuel0 0 _ _ (by omega) (by have := fuel_gt; omega) h1
      obtain ⟨g', e, m, f⟩ := ih (j + 1) g2 _ (by omega) (by omega) m2
      rw [zS_step ρ hp (by omega)] at m
      refine ⟨g', ?_, m, F1.tr (F1.tr F1.up f2) f⟩
      rw [← e]
      refine Eq.trans e2 ?_
      rw [lt1, nI_1]
theorem zS_prR (τ : Row) {p b : Nat} (hp : p < 3) : zS (rup (rup τ (204 + p) b) (210 + p) 0) p 0 = prR τ p b := by
  funext k
  unfold zS prR rup
  by_cases h1 : (789 + 16 * p + 0 ≤ k ∧ k < 789 + 16 * p + 16) ∨ (213 ≤ k ∧ k < 789 ∧ (k - 213) / 2 / 96 = p ∧ 0 ≤ (k - 213) / 2 % 16)
  · rw [if_pos h1, if_neg (by omega), if_neg (by omega)]
    by_cases h2 : 789 + 16 * p ≤ k ∧ k < 789 + 16 * p + 16
    · rw [if_pos h2]
    · rw [if_neg h2, if_pos (by omega)]
  · rw [if_neg h1]
    by_cases h2 : k = 210 + p
    · rw [if_pos h2, if_neg (by omega), if_pos h2]
    · rw [if_neg h2]
      by_cases h3 : k = 204 + p
      · rw [if_pos h3, if_pos h3]
      · rw [if_neg h3, if_neg h3, if_neg h2, if_neg (by omega), if_neg (by omega)]
theorem lp_M_next (K : Int32 → Option (Int32 × Mem)) {g : Mem} {p m : Nat} {v : Int32} (hp : p < 3) (hm : m ≤ 999) : ∀ n i, 3 * i ≤ 3 * ((m + 2 - p) / 3) → (m + 2 - p) / 3 - i < n → f_X5_prepare_L60 K v (nI m) g n (nI (3 * i + p + 1)) = K (nI (3 * ((m + 2 - p) / 3) + p + 1)) := by
  intro n
  induction n with
  | zero => intro i _ h; omega
  | succ n ih =>
    intro i hi hn
    rw [f_X5_prepare_L60]
    by_cases h : i = (m + 2 - p) / 3
    · subst h
      rw [if_pos (nI_lt (by omega) (by omega))]
    · rw [if_neg (nI_nlt (by omega) (by omega)), lt1, z3, nI_add, show 3 * i + p + 1 + 3 = 3 * (i + 1) + p + 1 from by omega]
      exact ih (i + 1) (by omega) (by omega)
theorem M_prepare (a : Int32) : MAct (f_X5_prepare a) (s_prepare a) := by
  intro g g1 τ hM h hr hM1
  unfold f_X5_prepare s_prepare
  rw [noP_eq]
  cases hv : f_X4_isProposer a with
  | false => exact ⟨g, rfl, fun _ => rfl, fun q => absurd (show (-1 : Int32) < 0 by decide) q⟩
  | true =>
    obtain ⟨p, hp, rfl⟩ := isP_of hv
    have b1 := h.1 (204 + p) (by omega)
    have b2 := h.1 (207 + p) (by omega)
    rw [if_neg (by decide), if_pos rfl, nI_clamp (by omega), z204, z207, nI_add, nI_add, M_rd hM (by omega), bnd_some, M_rd hM (by omega), bnd_some, bnd_some, bnd_some]
    have e1 : (if nI (τ (204 + p)) ≤ nI (τ (207 + p)) then f_X5_prepare_J55 (nI p) (nI (τ (207 + p))) g else f_X5_prepare_J55 (nI p) (nI (τ (204 + p))) g) = f_X5_prepare_J55 (nI p) (nI (max (τ (204 + p)) (τ (207 + p)))) g := by
      by_cases e : τ (204 + p) ≤ τ (207 + p)
      · rw [if_pos (nI_le e (by omega)), Nat.max_eq_right e]
      · rw [if_neg (nI_ge (by omega) (by omega)), Nat.max_eq_left (by omega)]
    rw [e1]
    unfold f_X5_prepare_J55 s_prepareN
    rw [nI_1, lt1]
    have key := lp_M_next (fun x9 => (if x9 ≤ 999 then (f_X5_record g).bind fun g11 => ((wr g11 1 873 (204 + nI p) x9).bind fun g12 => ((wr g12 1 873 (210 + nI p) 0).bind fun g13 => (f_X5_prepare_L110 (fun g22 => some (x9, g22)) (nI p) x9 fuel0 1 g13))) else some ((-3), g))) (g := g) (v := nI p) (m := max (τ (204 + p)) (τ (207 + p))) hp (by omega) fuel0 0 (by omega) (by have := fuel_gt; omega)
    rw [show 3 * 0 + p + 1 = p + 1 from by omega] at key
    have enb : nI (3 * ((max (τ (204 + p)) (τ (207 + p)) + 2 - p) / 3) + p + 1) = nI (nb τ p) := rfl
    rw [enb] at key
    rw [key]
    have hb : nb τ p < 2 ^ 31 := by unfold nb; omega
    by_cases e : nb τ p ≤ 999
    · rw [if_pos (by rw [z999]; exact nI_le e (by omega)), if_pos e, hr, bnd_some, z204, nI_add, M_wr (by omega), bnd_some, z210, nI_add]
      have hw := M_wr (g := m_up g1 1 (204 + p) (nI (nb τ p))) (k := 210 + p) (by omega) 0
      rw [show nI 0 = 0 from rfl] at hw
      rw [hw, bnd_some]
      have h1 := MR_up (MR_up hM1 (204 + p) (nb τ p)) (210 + p) 0
      rw [show nI 0 = 0 from rfl] at h1
      obtain ⟨g', e2, m, f⟩ := lp_M_clrS (fun g22 => some (nI (nb τ p), g22)) (v := nI (nb τ p)) hp fuel0 0 _ _ (by omega) (by have := fuel_gt; omega) h1
      rw [zS_prR τ hp] at m
      exact ⟨g', e2, fun q => absurd q (ltN hb), fun _ => ⟨m, F1.tr (F1.tr F1.up F1.up) f⟩⟩
    · rw [if_neg (by rw [z999]; exact nI_ge (by omega) hb), if_neg e]
      exact ⟨g, rfl, fun _ => rfl, fun q => absurd (show (-3 : Int32) < 0 by decide) q⟩
