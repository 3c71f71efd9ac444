/-! p25: slots() answers true -/
section SLOTS
variable {g : Mem} {τ : Row} {hn tn : Nat}
theorem cntS (P : Nat → Bool) (n : Nat) : nI (cntN P n) + bI (P n) = nI (cntN P (n + 1)) := by
  show _ = nI (cntN P n + (if P n then 1 else 0))
  rw [← nI_add]
  cases P n <;> rfl
theorem r_cv {τ : Row} (h : RI τ) {i : Nat} (hi : i < 16) : τ (837 + i) ≤ 163 ∧ τ (853 + i) ≤ 999 := ⟨h.2.2.2.2.2.1 _ (by omega) (by omega), h.1 _ (by omega)⟩
/-- the acceptors of a slot -/
theorem lp_sl_in (hC : CR g 1 τ) (hK : RK τ) (h1 : g 25 2 = nI hn) (h2 : g 87 1 = nI tn) (hI : INV τ) (K : Option Bool) (v1 v2 v3 v4 v5 v6 v9 : Int32) {i : Nat} (hi : i < 16) (h9 : i + 1 ≤ pre τ + 3 → ¬ v9 = 0) : ∀ n a, a ≤ 6 → 6 - a < n → f_L_slots_L324 K v1 v2 v3 v4 v5 v6 (nI (i + 1)) (orN (τ (837 + i))) v9 g n (nI a) = K := by
  intro n
  induction n with
  | zero => intro a _ h; exact absurd h (Nat.not_lt_zero _)
  | succ n ih =>
    intro a ha hlt
    rw [f_L_slots_L324]
    by_cases e : a = 6
    · subst e
      rw [if_pos (by decide)]
    · have ha6 : a < 6 := by omega
      obtain ⟨s1, s2, s3⟩ := INV_slots hK hI
      have hv := hK.1.1 (12 + 2 * (16 * a + i)) (by omega)
      have hw := hK.1.2.2.2.1 (16 * a + i) (by omega)
      have hc := r_cv hK.1 hi
      have hp := hK.1.1 (6 + a) (by omega)
      have ht := hK.1.2.2.2.2.2.2.2
      have key : ∀ {v13}, v13 = orN (τ (12 + 2 * (16 * a + i))) → f_L_slots_J374 K (f_L_slots_L324 K v1 v2 v3 v4 v5 v6 (nI (i + 1)) (orN (τ (837 + i))) v9 g n) v1 v2 v3 v4 v5 v6 (nI (i + 1)) (orN (τ (837 + i))) v9 (nI a) v13 g = K := by
        intro v13 e13
        have nxt : f_L_slots_J444 K (f_L_slots_L324 K v1 v2 v3 v4 v5 v6 (nI (i + 1)) (orN (τ (837 + i))) v9 g n) v1 v2 v3 v4 v5 v6 (nI (i + 1)) (orN (τ (837 + i))) v9 (nI a) g = K := by
          rw [f_L_slots_J444, lt1, nI_1]
          exact ih (a + 1) (by omega) (by omega)
        rw [f_L_slots_J374, R_v1 hC hK.1 ha6 hi, bnd_some, e13]
        by_cases z : τ (12 + 2 * (16 * a + i)) = 0
        · rw [if_pos z, orN_z z, if_pos (by decide), if_pos (by decide)]
          exact nxt
        · rw [if_neg z, orN_p z, decide_eq_true (nI_pos' (by omega)), decide_eq_true (nI_pos' (by omega)), if_pos rfl, if_neg (nI_nle (by omega) (by omega))]
          by_cases zc : τ (837 + i) = 0
          · rw [orN_z zc, if_pos (by decide)]
            rw [orN_z zc] at nxt
            exact nxt
          · rw [if_neg (by rw [orN_le0 (by omega)]; exact zc), R_s1 hC hK.1 hi, bnd_some]
            by_cases le : nI (τ (12 + 2 * (16 * a + i))) ≤ orN (τ (853 + i))
            · rw [if_pos le]
              exact nxt
            · rw [if_neg le, bnd_some, (s1 a i ha6 hi z).2.2.2 zc ?_, orN_p zc, if_pos rfl]
              · rw [orN_p zc] at nxt
                exact nxt
              · have z2 : τ (853 + i) ≠ 0 := fun q => zc ((hK.2.1 i hi).mpr q)
                rw [orN_p z2, nI_leI (by omega) (by omega)] at le
                omega
      rw [if_neg (by rw [z6]; exact nI_ge (by omega) (by omega)), R_v0 hC hK.1 ha6 hi, bnd_some]
      by_cases z : τ (12 + 2 * (16 * a + i)) = 0
      · rw [if_pos ((orN_le0 (by omega)).mpr z)]
        exact key rfl
      · obtain ⟨a1, a2, a3, -⟩ := s1 a i ha6 hi z
        rw [if_neg (fun q => z ((orN_le0 (by omega)).mp q)), R_a1 hC hK.1 ha6, bnd_some, orN_p z, if_neg (nI_nlt a1 (by omega)), R_c2 hC hK.1 h1 h2, bnd_some, if_neg (nI_ge (by omega) (by omega)), if_neg (h9 a3)]
        exact key (orN_p z).symm
theorem voN_step (τ : Row) {i : Nat} (h3 : 3 ≤ i) : vo τ (i + 1) = if 100 < τ (837 + (i - 3)) then τ (837 + (i - 3)) - 100 else vo τ i := by
  unfold vo
  rw [show i + 1 - 3 = i - 3 + 1 from by omega, voN]
theorem L_bI_and (a b : Bool) : bI a &&& bI b = bI (a && b) := by cases a <;> cases b <;> decide
theorem lp_sl (hC : CR g 1 τ) (hK : RK τ) (h1 : g 25 2 = nI hn) (h2 : g 87 1 = nI tn) (hI : INV τ) (K : Int32 → Int32 → Option Bool) : ∀ n i, i ≤ 16 → 16 - i < n → f_L_slots_L27 K (nI (pre τ)) (nI (τ 870)) g n (nI (cntN (fun j => decide (0 < τ (837 + j))) i)) (nI (cntN (fun j => decide (100 < τ (837 + j))) i)) (bI (decide (i ≤ pre τ))) (nI (vo τ i)) (nI (i + 1)) = K (nI (cntN (fun j => decide (0 < τ (837 + j))) 16)) (nI (cntN (fun j => decide (100 < τ (837 + j))) 16)) := by
  intro n
  induction n with
  | zero => intro i _ h; exact absurd h (Nat.not_lt_zero _)
  | succ n ih =>
    intro i hi hlt
    rw [f_L_slots_L27]
    by_cases e : i = 16
    · subst e
      rw [if_pos (by decide)]
    · have hi6 : i < 16 := by omega
      obtain ⟨s1, s2, s3⟩ := INV_slots hK hI
      have hc := r_cv hK.1 hi6
      have hpl := pre_le τ
      have ht := hK.1.2.2.2.2.2.2.2
      have h70 := hK.1.2.2.2.2.2.2.1
      have hvo := vo_lt hK.1 (s := i + 1) (by omega)
      have key : f_L_slots_J92 K (f_L_slots_L27 K (nI (pre τ)) (nI (τ 870)) g n) (nI (pre τ)) (nI (cntN (fun j => decide (0 < τ (837 + j))) i)) (nI (cntN (fun j => decide (100 < τ (837 + j))) i)) (nI (τ 870)) (bI (decide (i ≤ pre τ))) (nI (vo τ (i + 1))) (nI (i + 1)) (orN (τ (837 + i))) (bI (!(decide ((nI (pre τ) + 3) < nI (i + 1))))) g = K (nI (cntN (fun j => decide (0 < τ (837 + j))) 16)) (nI (cntN (fun j => decide (100 < τ (837 + j))) 16)) := by
        have hop : (!(decide ((nI (pre τ) + 3) < nI (i + 1)))) = decide (i + 1 ≤ pre τ + 3) := by
          rw [z3, nI_add, decide_eq_decide.mpr (nI_ltI (a := pre τ + 3) (b := i + 1) (by omega) (by omega)), ← decide_not]
          exact decide_eq_decide.mpr Nat.not_lt
        have hpc := pc_le (vo τ (i + 1))
        have hx11 : (if nI (pc (vo τ (i + 1))) ≤ nI (τ 870) then nI (pc (vo τ (i + 1))) else nI (τ 870)) = nI (sec τ (i + 1)) := by
          unfold sec
          by_cases q : pc (vo τ (i + 1)) ≤ τ 870
          · rw [if_pos (nI_le q (by omega)), Nat.min_eq_right q]
          · rw [if_neg (nI_ge (by omega) (by omega)), Nat.min_eq_left (by omega)]
        have hpos : (!(decide (orN (τ (837 + i)) ≤ 0))) = decide (0 < τ (837 + i)) := by
          rw [decide_eq_decide.mpr (orN_le0 (x := τ (837 + i)) (by omega)), ← decide_not]
          exact decide_eq_decide.mpr (Nat.pos_iff_ne_zero).symm
        have hbig : (!(decide (orN (τ (837 + i)) ≤ 100))) = decide (100 < τ (837 + i)) := by
          rw [z100, decide_eq_decide.mpr (orN_le (x := τ (837 + i)) (n := 100) (by omega) (by omega)), ← decide_not]
          exact decide_eq_decide.mpr Nat.not_le
        have hall : bI (decide (i ≤ pre τ)) &&& bI (decide (0 < τ (837 + i))) = bI (decide (i + 1 ≤ pre τ)) := by
          rw [L_bI_and, ← Bool.decide_and]
          refine bI_inj.mpr (decide_eq_decide.mpr ?_)
          rw [pre_ix hi6, Nat.pos_iff_ne_zero]
        have hlt2 : (!(decide (nI (pre τ) < nI (i + 1)))) = decide (i + 1 ≤ pre τ) := by
          rw [decide_eq_decide.mpr (nI_ltI (a := pre τ) (b := i + 1) (by omega) (by omega)), ← decide_not]
          exact decide_eq_decide.mpr Nat.not_lt
        rw [hop, f_L_slots_J92, R_bits hvo, bnd_some, hx11, lt1, hpos, hall, lt1, cntS (fun j => decide (0 < τ (837 + j))) i, lt1, hbig, cntS (fun j => decide (100 < τ (837 + j))) i, lt1, hlt2, if_pos rfl, R_s1 hC hK.1 hi6, bnd_some]
        have hsgn : bI (!(decide (0 ≤ orN (τ (837 + i))))) = bI (!(decide (0 ≤ orN (τ (853 + i))))) := by
          refine congrArg (fun q => bI (!q)) (decide_eq_decide.mpr ?_)
          rw [orN_ge0 (by omega), orN_ge0 (by omega)]
          exact not_congr (hK.2.1 i hi6)
        rw [if_pos hsgn]
        have k2 : f_L_slots_J214 K (f_L_slots_L27 K (nI (pre τ)) (nI (τ 870)) g n) (nI (pre τ)) (nI (cntN (fun j => decide (0 < τ (837 + j))) (i + 1))) (nI (cntN (fun j => decide (100 < τ (837 + j))) (i + 1))) (nI (τ 870)) (bI (decide (i + 1 ≤ pre τ))) (nI (vo τ (i + 1))) (nI (i + 1)) (orN (τ (837 + i))) (bI (decide (i + 1 ≤ pre τ + 3))) (nI (pc (vo τ (i + 1)))) (nI (sec τ (i + 1))) g = K (nI (cntN (fun j => decide (0 < τ (837 + j))) 16)) (nI (cntN (fun j => decide (100 < τ (837 + j))) 16)) := by
          have h9 : ∀ (c : Prop) [Decidable c], (bI (decide c) = 0) = ¬ c := by
            intro c _
            by_cases q : c
            · rw [decide_eq_true q]
              exact propext ⟨fun q2 => absurd q2 (by decide), fun q2 => absurd q q2⟩
            · rw [decide_eq_false q]
              exact propext ⟨fun _ => q, fun _ => rfl⟩
          have k3 : f_L_slots_J282 K (f_L_slots_L27 K (nI (pre τ)) (nI (τ 870)) g n) (nI (pre τ)) (nI (cntN (fun j => decide (0 < τ (837 + j))) (i + 1))) (nI (cntN (fun j => decide (100 < τ (837 + j))) (i + 1))) (nI (τ 870)) (bI (decide (i + 1 ≤ pre τ))) (nI (vo τ (i + 1))) (nI (i + 1)) (orN (τ (837 + i))) (bI (decide (i + 1 ≤ pre τ + 3))) = fun s0 s1 g' => (if s1 = s0 then (f_X4_slot (nI (i + 1)) 5 g').bind fun x42 => ((f_X4_count 2 g').bind fun x45 => ((if (bI (decide (x42 = 1))) = (bI (!(decide (x45 < nI (i + 1))))) then f_L_slots_L324 (lt1 (nI (i + 1) + 1) fun x70 => (f_L_slots_L27 K (nI (pre τ)) (nI (τ 870)) g n (nI (cntN (fun j => decide (0 < τ (837 + j))) (i + 1))) (nI (cntN (fun j => decide (100 < τ (837 + j))) (i + 1))) (bI (decide (i + 1 ≤ pre τ))) (nI (vo τ (i + 1))) x70)) (nI (pre τ)) (nI (cntN (fun j => decide (0 < τ (837 + j))) (i + 1))) (nI (cntN (fun j => decide (100 < τ (837 + j))) (i + 1))) (nI (τ 870)) (bI (decide (i + 1 ≤ pre τ))) (nI (vo τ (i + 1))) (nI (i + 1)) (orN (τ (837 + i))) (bI (decide (i + 1 ≤ pre τ + 3))) g' fuel0 0 else some false))) else some false) := rfl
          have k4 : ∀ x, f_L_slots_J282 K (f_L_slots_L27 K (nI (pre τ)) (nI (τ 870)) g n) (nI (pre τ)) (nI (cntN (fun j => decide (0 < τ (837 + j))) (i + 1))) (nI (cntN (fun j => decide (100 < τ (837 + j))) (i + 1))) (nI (τ 870)) (bI (decide (i + 1 ≤ pre τ))) (nI (vo τ (i + 1))) (nI (i + 1)) (orN (τ (837 + i))) (bI (decide (i + 1 ≤ pre τ + 3))) x x g = K (nI (cntN (fun j => decide (0 < τ (837 + j))) 16)) (nI (cntN (fun j => decide (100 < τ (837 + j))) 16)) := by
            intro x
            rw [k3]
            dsimp only
            rw [if_pos rfl, R_s5 hC hK.1 hi6, bnd_some, R_c2 hC hK.1 h1 h2, bnd_some, if_pos ?_, nI_1, lt1, z0, lp_sl_in hC hK h1 h2 hI _ _ _ _ _ _ _ _ hi6 (fun q => by rw [h9]; exact fun q2 => q2 q) fuel0 0 (by omega) (by have := fuel_gt; omega)]
            · exact ih (i + 1) (by omega) (by omega)
            · by_cases q : τ 869 < i + 1
              · rw [if_pos q, decide_eq_true (nI_lt q (by omega))]; decide
              · rw [if_neg q, decide_eq_false (nI_nlt (by omega) (by omega))]; decide
          rw [f_L_slots_J214, R_s2 hC hK.1 hi6, bnd_some, R_s4 hC hK.1 hi6, bnd_some, R_s3 hC hK.1 hi6, bnd_some]
          by_cases op : i + 1 ≤ pre τ + 3
          · have nz : ¬ bI (decide (i + 1 ≤ pre τ + 3)) = 0 := by rw [h9]; exact fun q => q op
            rw [if_pos op, if_neg nz, if_pos rfl, if_pos op, if_neg nz, if_pos rfl, if_pos op, if_neg nz]
            have hsec : sec τ (i + 1) ≤ pc (vo τ (i + 1)) := Nat.min_le_right _ _
            rw [nI_1, pk_sub (by omega)]
            exact k4 _
          · have zz : bI (decide (i + 1 ≤ pre τ + 3)) = 0 := by rw [h9]; exact op
            rw [if_neg op, if_pos zz, if_pos rfl, if_neg op, if_pos zz, if_pos rfl, if_neg op, if_pos zz]
            exact k4 _
        by_cases zc : τ (837 + i) = 0
        · rw [if_pos ((orN_le0 (by omega)).mpr zc)]
          exact k2
        · rw [if_neg (fun q => zc ((orN_le0 (by omega)).mp q)), if_neg (by rw [decide_eq_true (s2 i hi6 zc)]; decide)]
          exact k2
      rw [if_neg (by rw [show (17 : Int32) = nI 17 from rfl]; exact nI_ge (by omega) (by omega)), R_s0 hC hK.1 hi6, bnd_some]
      by_cases h3 : i + 1 ≤ 3
      · rw [if_pos (by rw [z3]; exact nI_le h3 (by omega))]
        rw [show vo τ (i + 1) = vo τ i from by unfold vo; rw [show i + 1 - 3 = 0 from by omega, show i - 3 = 0 from by omega]] at key
        exact key
      · have hc3 := r_cv hK.1 (i := i - 3) (by omega)
        have hv3 := voN_step τ (i := i) (by omega)
        rw [if_neg (by rw [z3]; exact nI_ge (by omega) (by omega)), z3, pk_sub (by omega), show i + 1 - 3 = i - 3 + 1 from by omega, R_s0 hC hK.1 (by omega), bnd_some, ← z3]
        by_cases q : 100 < τ (837 + (i - 3))
        · rw [if_neg (by rw [z100, orN_le (by omega) (by omega)]; omega), bnd_some, orN_p (by omega), z100, pk_sub (by omega), lt1]
          rw [if_pos q] at hv3
          rw [← hv3]
          exact key
        · rw [if_pos (by rw [z100, orN_le (by omega) (by omega)]; omega)]
          rw [if_neg q] at hv3
          rw [← hv3]
          exact key
theorem L_slots_ok (hC : CR g 1 τ) (hK : RK τ) (h1 : g 25 2 = nI hn) (h2 : g 87 1 = nI tn) (hI : INV τ) : f_L_slots g = some true := by
  have hpl := pre_le τ
  have ht := hK.1.2.2.2.2.2.2.2
  have s3 := (INV_slots hK hI).2.2
  unfold f_L_slots
  rw [R_c0 hC hK.1 h1 h2, bnd_some, R_c3 hC hK.1 h1 h2, bnd_some]
  have hb : bI (decide (0 ≤ pre τ)) = 1 := by rw [decide_eq_true (Nat.zero_le _)]; rfl
  have key : ∀ K, f_L_slots_L27 K (nI (pre τ)) (nI (τ 870)) g fuel0 0 0 1 7 1 = K (nI (cntN (fun j => decide (0 < τ (837 + j))) 16)) (nI (cntN (fun j => decide (100 < τ (837 + j))) 16)) := by
    intro K
    have q := lp_sl hC hK h1 h2 hI K fuel0 0 (by omega) (by have := fuel_gt; omega)
    rw [hb] at q
    exact q
  rw [key]
  rw [R_c1 hC hK.1 h1 h2, bnd_some, if_pos rfl, R_c8 hC hK.1 h1 h2, bnd_some, if_pos rfl, R_c5 hC hK.1 h1 h2, bnd_some]
  have k : ∀ x, f_L_slots_J496 (nI (pre τ)) x x g = some true := by
    intro x
    rw [f_L_slots_J496, if_pos rfl, R_c2 hC hK.1 h1 h2, bnd_some, if_neg (nI_nlt s3 (by omega)), R_slotX hC hK.1 (v := -1) rfl, bnd_some, if_pos rfl, R_slotX hC hK.1 (v := -2) rfl, bnd_some, if_pos rfl]
  rw [z3, nI_add, z16]
  by_cases q : 16 ≤ pre τ + 3
  · rw [if_pos (nI_le q (by omega)), Nat.min_eq_left q]
    exact k _
  · rw [if_neg (nI_ge (by omega) (by omega)), Nat.min_eq_right (by omega)]
    exact k _
end SLOTS
