/-! p25: proposers() answers true -/
section PROPS
variable {g : Mem} {τ : Row} {hn tn : Nat}
theorem bound_lt {τ : Row} (h : RI τ) {p i : Nat} (hp : p < 3) (hi : i < 16) : bound τ p (i + 1) ≤ 163 := bound_le h hp (by omega) (by omega)
theorem fir_le {p : Nat} (τ : Row) (s : Nat) : fir τ s ≤ 7 ∧ lack τ p s ≤ 7 := by
  have := pc_le (vo τ s)
  unfold lack fir
  omega
theorem bI_one {b : Bool} : bI b = 1 ↔ b = true := by cases b <;> decide
theorem bI_zero {b : Bool} : bI b = 0 ↔ b = false := by cases b <;> decide
theorem lp_pr_a (hC : CR g 1 τ) (hK : RK τ) (hI : INV τ) (K : Option Bool) (v4 : Int32) {p : Nat} (hp : p < 3) : ∀ n a, a ≤ 6 → 6 - a < n → f_L_proposers_L52 K (nI p) (nI (τ (204 + p))) (nI (τ (210 + p))) v4 g n (nI a) = K := by
  intro n
  induction n with
  | zero => intro a _ h; exact absurd h (Nat.not_lt_zero _)
  | succ n ih =>
    intro a ha hlt
    rw [f_L_proposers_L52]
    by_cases e : a = 6
    · subst e
      rw [if_pos (by decide)]
    · have ha6 : a < 6 := by omega
      have hps := hK.1.2.2.1 p hp
      have hb := hK.1.1 (204 + p) (by omega)
      have hq := hK.1.1 (6 + a) (by omega)
      have nxt : f_L_proposers_J82 K (f_L_proposers_L52 K (nI p) (nI (τ (204 + p))) (nI (τ (210 + p))) v4 g n) (nI p) (nI (τ (204 + p))) (nI (τ (210 + p))) v4 (nI a) g = K := by
        rw [f_L_proposers_J82, lt1, nI_1]
        exact ih (a + 1) (by omega) (by omega)
      rw [if_neg (by rw [z6]; exact nI_ge (by omega) (by omega)), shr_bit _ hps a ha6]
      cases hh : hs (τ (210 + p)) a with
      | false =>
        rw [if_neg (by decide)]
        exact nxt
      | true =>
        rw [if_pos (by decide), R_a1 hC hK.1 ha6, bnd_some, if_pos (nI_le ((INV_props hK hI).2.1 p a hp ha6 hh) (by omega))]
        exact nxt
theorem lp_pr_s (hC : CR g 1 τ) (hK : RK τ) (h1 : g 25 2 = nI hn) (h2 : g 87 1 = nI tn) (hI : INV τ) (K : Int32 → Option Bool) {p : Nat} (hp : p < 3) : ∀ n i, i ≤ 16 → 16 - i < n → f_L_proposers_L91 K (nI p) (nI (τ (204 + p))) (nI (τ (210 + p))) g n (nI (cntN (fun j => decide (τ (789 + (16 * p + j)) ≠ 0)) i)) (nI (i + 1)) = K (nI (cntN (fun j => decide (τ (789 + (16 * p + j)) ≠ 0)) 16)) := by
  intro n
  induction n with
  | zero => intro a _ h; exact absurd h (Nat.not_lt_zero _)
  | succ n ih =>
    intro i hi hlt
    rw [f_L_proposers_L91]
    by_cases e : i = 16
    · subst e
      rw [if_pos (by decide)]
    · have hi6 : i < 16 := by omega
      have hps := hK.1.2.2.1 p hp
      have hb := hK.1.1 (204 + p) (by omega)
      have ho := hK.1.2.2.2.2.2.1 (789 + (16 * p + i)) (by omega) (by omega)
      have hc := r_cv hK.1 hi6
      have hpl := pre_le τ
      have hvo := vo_lt hK.1 (s := i + 1) (by omega)
      have hbl := bound_lt hK.1 hp hi6
      have hfl := fir_le (p := p) τ (i + 1)
      have ip := (INV_props hK hI).2.2 p i hp hi6
      have hop : (!(decide ((nI (pre τ) + 3) < nI (i + 1)))) = decide (i + 1 ≤ pre τ + 3) := by
        rw [z3, nI_add, decide_eq_decide.mpr (nI_ltI (a := pre τ + 3) (b := i + 1) (by omega) (by omega)), ← decide_not]
        exact decide_eq_decide.mpr Nat.not_lt
      have hpos : (!(decide (orN (τ (789 + (16 * p + i))) ≤ 0))) = decide (τ (789 + (16 * p + i)) ≠ 0) := by
        rw [decide_eq_decide.mpr (orN_le0 (x := τ (789 + (16 * p + i))) (by omega)), ← decide_not]
      have hsg : ∀ x, x < 2 ^ 31 → (!(decide ((if i + 1 ≤ pre τ + 3 then nI x else (-5 : Int32)) < 0))) = decide (i + 1 ≤ pre τ + 3) := by
        intro x hx
        by_cases q : i + 1 ≤ pre τ + 3
        · rw [if_pos q, decide_eq_true q, decide_eq_false (nI_pos hx)]; rfl
        · rw [if_neg q, decide_eq_false q]; decide
      -- behind all checks
      have k1 : f_L_proposers_J286 K (f_L_proposers_L91 K (nI p) (nI (τ (204 + p))) (nI (τ (210 + p))) g n) (nI p) (nI (τ (204 + p))) (nI (τ (210 + p))) (nI (cntN (fun j => decide (τ (789 + (16 * p + j)) ≠ 0)) (i + 1))) (nI (i + 1)) g = K (nI (cntN (fun j => decide (τ (789 + (16 * p + j)) ≠ 0)) 16)) := by
        rw [f_L_proposers_J286, nI_1, lt1]
        exact ih (i + 1) (by omega) (by omega)
      have k2 : f_L_proposers_J246 K (f_L_proposers_L91 K (nI p) (nI (τ (204 + p))) (nI (τ (210 + p))) g n) (nI p) (nI (τ (204 + p))) (nI (τ (210 + p))) (nI (cntN (fun j => decide (τ (789 + (16 * p + j)) ≠ 0)) (i + 1))) (nI (i + 1)) (orN (τ (789 + (16 * p + i)))) g = K (nI (cntN (fun j => decide (τ (789 + (16 * p + j)) ≠ 0)) 16)) := by
        rw [f_L_proposers_J246]
        by_cases z : τ (789 + (16 * p + i)) = 0
        · rw [if_pos ((orN_le0 (by omega)).mpr z)]
          exact k1
        · rw [if_neg (fun q => z ((orN_le0 (by omega)).mp q)), R_s0 hC hK.1 hi6, bnd_some]
          by_cases zc : τ (837 + i) = 0
          · rw [if_pos ((orN_le0 (by omega)).mpr zc)]
            exact k1
          · have z2 : τ (853 + i) ≠ 0 := fun q => zc ((hK.2.1 i hi6).mpr q)
            rw [if_neg (fun q => zc ((orN_le0 (by omega)).mp q)), R_s1 hC hK.1 hi6, bnd_some, orN_p z2]
            by_cases le : τ (204 + p) ≤ τ (853 + i)
            · rw [if_pos (nI_le le (by omega))]
              exact k1
            · rw [if_neg (nI_ge (by omega) (by omega)), bnd_some, (ip z).2.2 zc (by omega), if_pos rfl]
              exact k1
      have k3 : f_L_proposers_J209 K (f_L_proposers_L91 K (nI p) (nI (τ (204 + p))) (nI (τ (210 + p))) g n) (nI p) (nI (τ (204 + p))) (nI (τ (210 + p))) (nI (cntN (fun j => decide (τ (789 + (16 * p + j)) ≠ 0)) (i + 1))) (nI (i + 1)) (orN (τ (789 + (16 * p + i)))) (if i + 1 ≤ pre τ + 3 then nI (lack τ p (i + 1)) else -5) (bI (decide (i + 1 ≤ pre τ + 3))) g = K (nI (cntN (fun j => decide (τ (789 + (16 * p + j)) ≠ 0)) 16)) := by
        rw [f_L_proposers_J209]
        by_cases op : i + 1 ≤ pre τ + 3
        · rw [decide_eq_true op, if_neg (by decide), if_pos op]
          by_cases z : lack τ p (i + 1) = 0
          · rw [z, if_pos (by decide)]
            exact k2
          · have hand : τ (210 + p) &&& vo τ (i + 1) = vo τ (i + 1) &&& τ (210 + p) := Nat.and_comm _ _
            have hal := and_lt _ hvo _ hps
            rw [if_neg (nI_ne0 (by omega) (by omega)), R_s3 hC hK.1 hi6, bnd_some, if_pos op, R_s2 hC hK.1 hi6, bnd_some, if_pos op, and_nI _ hps _ hvo, hand, R_bits hal, bnd_some]
            have hlk : lack τ p (i + 1) = fir τ (i + 1) - pc (vo τ (i + 1) &&& τ (210 + p)) := rfl
            rw [pk_sub (by omega), ← hlk, if_pos rfl]
            exact k2
        · rw [decide_eq_false op, if_pos (by decide)]
          exact k2
      rw [if_neg (by rw [show (17 : Int32) = nI 17 from rfl]; exact nI_ge (by omega) (by omega)), R_d0 hC hK.1 hp hi6, bnd_some, R_d1 hC hK.1 hp hi6, bnd_some, R_d2 hC hK.1 hp hi6, bnd_some, R_c0 hC hK.1 h1 h2, bnd_some, hpos, cntS (fun j => decide (τ (789 + (16 * p + j)) ≠ 0)) i, lt1, hop, hsg _ (by omega), if_pos rfl, hsg _ (by omega), if_pos rfl]
      by_cases z : τ (789 + (16 * p + i)) = 0
      · rw [if_pos ((orN_le0 (by omega)).mpr z)]
        exact k3
      · obtain ⟨o1, o2, -⟩ := ip z
        rw [if_neg (fun q => z ((orN_le0 (by omega)).mp q)), if_pos (decide_eq_true o1), if_pos (by rw [if_pos o1, o2]; rfl)]
        exact k3
theorem lp_pr (hC : CR g 1 τ) (hK : RK τ) (h1 : g 25 2 = nI hn) (h2 : g 87 1 = nI tn) (hI : INV τ) (K : Option Bool) : ∀ n p, p ≤ 3 → 3 - p < n → f_L_proposers_L2 K g n (nI p) = K := by
  intro n
  induction n with
  | zero => intro a _ h; exact absurd h (Nat.not_lt_zero _)
  | succ n ih =>
    intro p hp3 hlt
    rw [f_L_proposers_L2]
    by_cases e : p = 3
    · subst e
      rw [if_pos (by decide)]
    · have hp : p < 3 := by omega
      have hb := hK.1.1 (204 + p) (by omega)
      have hps := hK.1.2.2.1 p hp
      obtain ⟨i1, i2⟩ := (INV_props hK hI).1 p hp
      have k1 : f_L_proposers_J49 K (f_L_proposers_L2 K g n) (nI p) (nI (τ (204 + p))) (nI (τ (210 + p))) 0 g = K := by
        rw [f_L_proposers_J49]
        have q1 := lp_pr_a hC hK hI (f_L_proposers_L91 (fun x44 => (f_X4_proposer (nI p) 3 g).bind fun x45 => ((if x45 = x44 then lt1 (nI p + 1) fun x47 => (f_L_proposers_L2 K g n x47) else some false))) (nI p) (nI (τ (204 + p))) (nI (τ (210 + p))) g fuel0 0 1) 0 hp fuel0 0 (by omega) (by have := fuel_gt; omega)
        have q2 := lp_pr_s hC hK h1 h2 hI (fun x44 => (f_X4_proposer (nI p) 3 g).bind fun x45 => ((if x45 = x44 then lt1 (nI p + 1) fun x47 => (f_L_proposers_L2 K g n x47) else some false))) hp fuel0 0 (by omega) (by have := fuel_gt; omega)
        refine q1.trans (q2.trans ?_)
        rw [R_p3 hC hK.1 hp, bnd_some, if_pos rfl, nI_1, lt1]
        exact ih (p + 1) (by omega) (by omega)
      have k2 : f_L_proposers_J39 K (f_L_proposers_L2 K g n) (nI p) (nI (τ (204 + p))) (nI (τ (210 + p))) 0 g = K := by
        rw [f_L_proposers_J39]
        by_cases z : τ (204 + p) = 0
        · rw [if_pos (by rw [z]; rfl), if_pos (by rw [i1 z]; rfl)]
          exact k1
        · rw [if_neg (nI_ne0 (by omega) (by omega))]
          exact k1
      rw [if_neg (by rw [z3]; exact nI_ge (by omega) (by omega)), R_p0 hC hK.1 hp, bnd_some, R_p2 hC hK.1 hp, bnd_some]
      by_cases z : τ (204 + p) = 0
      · rw [if_pos (by rw [z]; decide)]
        exact k2
      · rw [if_neg (nI_nle (by omega) (by omega)), nI_1, z3, pk_rem (by omega) (by omega) (by omega), pk_rem (by omega) (by omega) (by omega), if_pos (by rw [i2 z])]
        exact k2
theorem L_proposers_ok (hC : CR g 1 τ) (hK : RK τ) (h1 : g 25 2 = nI hn) (h2 : g 87 1 = nI tn) (hI : INV τ) : f_L_proposers g = some true := by
  unfold f_L_proposers
  refine (lp_pr hC hK h1 h2 hI _ fuel0 0 (by omega) (by have := fuel_gt; omega)).trans ?_
  have q1 : o_proposer 3 0 τ = -1 := rfl
  have q2 : o_proposer 0 4 τ = -2 := rfl
  rw [C_proposer hC hK.1, bnd_some, q1, if_pos rfl, C_proposer hC hK.1, bnd_some, q2, if_pos rfl]
end PROPS
