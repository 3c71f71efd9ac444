/-! the class's acts: propose, vote, trim -/
theorem C_mayOffer {g : Mem} {o : Nat} {τ : Row} (hC : CR g o τ) (h : RI τ) {p s : Nat} (hp : p < 3) (hs1 : 1 ≤ s) (hs2 : s ≤ 16) : f_X2_mayOffer o (nI p) (nI s) g = some (mayP τ p s) := by
  unfold f_X2_mayOffer mayP
  have b1 := h.1 (204 + p) (by omega)
  have b2 := h.2.2.2.2.2.2.2
  have b3 := h.1 (789 + (16 * p + s - 1)) (by omega)
  have a4 := hC.2.2.2.2.2.2.2.2.1 p hp
  have a7 := hC.2.2.2.2.2.2.2.2.2.2.2.1 (16 * p + s - 1) (by omega)
  have b4 : lack τ p s < 2 ^ 31 := by have := pc_le (vo τ s); unfold lack fir sec; omega
  rw [rd_nI hp (by omega), bnd_some, a4]
  by_cases e1 : τ (204 + p) = 0
  · rw [if_pos (by rw [e1]; rfl), decide_eq_false (fun z => z e1)]; rfl
  · rw [if_neg (fun z => e1 ((nI_z (by omega)).mp z)), hC.2.2.1, decide_eq_true e1, Bool.true_and]
    by_cases e2 : τ 869 < s
    · rw [if_neg (nI_ge e2 (by omega)), decide_eq_true e2, Bool.true_and, C_isOpen hC h hs2, bnd_some]
      by_cases e3 : s ≤ pre τ + 3
      · rw [decide_eq_true e3, if_pos rfl, Bool.true_and, C_missing hC h hp hs2, bnd_some]
        by_cases e4 : lack τ p s = 0
        · rw [if_pos (by rw [e4]; rfl), decide_eq_true e4, Bool.true_and, cell_nI hs1, rd_nI (by omega) (by omega), bnd_some, a7]
          by_cases e5 : τ (789 + (16 * p + s - 1)) = 0
          · rw [if_pos (by rw [e5]; rfl), decide_eq_true e5]
          · rw [if_neg (fun z => e5 ((nI_z (by omega)).mp z)), decide_eq_false e5]
        · rw [if_neg (fun z => e4 ((nI_z b4).mp z)), decide_eq_false e4]; rfl
      · rw [decide_eq_false e3, if_neg (by decide)]; rfl
    · rw [if_pos (nI_le (by omega) (by omega)), decide_eq_false e2]; rfl
theorem C_propose {g : Mem} {o : Nat} {τ : Row} (hC : CR g o τ) (h : RI τ) (a1 a2 a3 : Int32) : ∃ g', f_X2_offerValue o a1 a2 a3 g = some ((s_propose a1 a2 a3 τ).1, g') ∧ CR g' o (s_propose a1 a2 a3 τ).2 ∧ Fr o g g' := by
  unfold f_X2_offerValue s_propose
  cases hv : f_X4_isProposer a1 with
  | false => exact ⟨g, rfl, hC, Fr.rf⟩
  | true =>
    cases hw : f_X4_isSlot a2 with
    | false => exact ⟨g, rfl, hC, Fr.rf⟩
    | true =>
      rw [if_pos rfl, if_pos rfl, if_pos (c := (true && true) = true) rfl, isV_eq]
      cases hx : isV a3 with
      | false => exact ⟨g, rfl, hC, Fr.rf⟩
      | true =>
        obtain ⟨p, hp, rfl⟩ := isP_of hv
        obtain ⟨s, hs1, hs2, rfl⟩ := isS_of hw
        obtain ⟨w, w1, w2, w3, rfl⟩ := isV_of hx
        rw [if_pos rfl, if_pos rfl, nI_clamp (by omega), nI_clamp (by omega), nI_clamp (by omega), C_mayOffer hC h hp hs1 hs2, bnd_some]
        unfold s_proposeN
        cases hm : mayP τ p s with
        | false => exact ⟨g, rfl, hC, Fr.rf⟩
        | true =>
          have b1 := bound_le h hp hs1 hs2
          rw [if_pos rfl, if_pos rfl, C_bound hC h hp hs1 hs2, bnd_some, cell_nI hs1]
          by_cases e : bound τ p s = 0
          · rw [if_pos (by rw [e]; rfl), if_pos e, wr_nI (by omega) (by omega), bnd_some]
            exact ⟨_, rfl, CR_7 hC (by omega) w, Fr.up (by omega)⟩
          · rw [if_neg (fun z => e ((nI_z (by omega)).mp z)), if_neg e, wr_nI (by omega) (by omega), bnd_some]
            exact ⟨_, rfl, CR_7 hC (by omega) _, Fr.up (by omega)⟩
theorem C_mayVote {g : Mem} {o : Nat} {τ : Row} (hC : CR g o τ) (h : RI τ) {p s a : Nat} (hp : p < 3) (hs1 : 1 ≤ s) (hs2 : s ≤ 16) (ha : a < 6) : f_X2_mayAskVote o (nI p) (nI s) (nI a) g = some (mayV τ p s a) := by
  unfold f_X2_mayAskVote mayV
  have b2 := h.2.2.2.2.2.2.2
  have b3 := h.1 (789 + (16 * p + s - 1)) (by omega)
  have a7 := hC.2.2.2.2.2.2.2.2.2.2.2.1 (16 * p + s - 1) (by omega)
  rw [cell_nI hs1, rd_nI (by omega) (by omega), bnd_some, a7]
  by_cases e1 : τ (789 + (16 * p + s - 1)) = 0
  · rw [if_pos (by rw [e1]; rfl), decide_eq_false (fun z => z e1)]; rfl
  · rw [if_neg (fun z => e1 ((nI_z (by omega)).mp z)), hC.2.2.1, decide_eq_true e1, Bool.true_and]
    by_cases e2 : τ 869 < s
    · rw [if_neg (nI_ge e2 (by omega)), decide_eq_true e2, Bool.true_and, hC.1, has_nI _ (upm_lt h) _ ha, hs_upm h ha]
      by_cases e3 : τ a = 1
      · rw [decide_eq_true e3, if_pos rfl, Bool.true_and, C_voters hC h hs2, bnd_some, has_nI _ (vo_lt h hs2) _ ha]
        cases hs (vo τ s) a <;> rfl
      · rw [decide_eq_false e3, if_neg (by decide)]; rfl
    · rw [if_pos (nI_le (by omega) (by omega)), decide_eq_false e2]; rfl
theorem voN_same {τ τ' : Row} : ∀ n, (∀ i, i < n → τ' (837 + i) = τ (837 + i)) → voN τ' n = voN τ n := by
  intro n
  induction n with
  | zero => intro _; rfl
  | succ n ih =>
    intro h
    rw [voN, voN, h n (by omega), ih (fun i hi => h i (by omega))]
theorem vo_vtR {τ : Row} {p s a : Nat} (hs2 : s ≤ 16) (ha : a < 6) {t : Nat} : vo (vtR τ p s a) t = vo τ t := by
  unfold vo
  refine voN_same _ (fun i hi => ?_)
  unfold vtR
  rw [rup_ne (by omega), rup_ne (by omega), rup_ne (by omega)]
theorem C_vote {g : Mem} {o : Nat} {τ : Row} (hC : CR g o τ) (h : RI τ) (a1 a2 a3 : Int32) : ∃ g', f_X2_askVote o a1 a2 a3 g = some ((s_vote a1 a2 a3 τ).1, g') ∧ CR g' o (s_vote a1 a2 a3 τ).2 ∧ Fr o g g' := by
  unfold f_X2_askVote s_vote
  cases hv : f_X4_isProposer a1 with
  | false => exact ⟨g, rfl, hC, Fr.rf⟩
  | true =>
    cases hw : f_X4_isSlot a2 with
    | false => exact ⟨g, rfl, hC, Fr.rf⟩
    | true =>
      cases hx : f_X4_isAcceptor a3 with
      | false => exact ⟨g, rfl, hC, Fr.rf⟩
      | true =>
        obtain ⟨p, hp, rfl⟩ := isP_of hv
        obtain ⟨s, hs1, hs2, rfl⟩ := isS_of hw
        obtain ⟨a, ha, rfl⟩ := isA_of hx
        rw [if_pos rfl, if_pos rfl, if_pos rfl, if_pos (c := (true && (true && true)) = true) rfl, nI_clamp (by omega), nI_clamp (by omega), nI_clamp (by omega), C_mayVote hC h hp hs1 hs2 ha, bnd_some]
        unfold s_voteN
        cases hm : mayV τ p s a with
        | false => exact ⟨g, rfl, hC, Fr.rf⟩
        | true =>
          have b1 := h.1 (204 + p) (by omega)
          have b2 := h.1 (6 + a) (by omega)
          have b3 := h.1 (12 + 2 * (16 * a + s - 1)) (by omega)
          have b4 := h.1 (789 + (16 * p + s - 1)) (by omega)
          have b5 := h.1 (837 + (s - 1)) (by omega)
          have hC0 := hC
          obtain ⟨c0, c1, c2, c3, c4, a1, a2, a3, a4, a5, a6, a7, a8, a10, a11⟩ := hC
          rw [if_pos rfl, if_pos rfl, lt1, cell_nI hs1, rd_nI (by omega) (by omega), bnd_some, a2 _ (by omega), rd_nI hp (by omega), bnd_some, a4 p hp]
          by_cases e1 : τ (12 + 2 * (16 * a + s - 1)) = τ (204 + p)
          · rw [if_pos (by rw [e1]), if_pos e1]
            exact ⟨g, rfl, hC0, Fr.rf⟩
          · rw [if_neg (fun z => e1 ((nI_eq (by omega) (by omega)).mp z)), if_neg e1, bnd_some, rd_nI ha (by omega), bnd_some, a1 a ha]
            by_cases e2 : τ (204 + p) < τ (6 + a)
            · rw [if_neg (nI_ge e2 (by omega)), if_pos e2, lt1, c4, nI_1]
              have hC1 := CR_f4 hC0 (τ 872 + 1)
              have hI1 : RI (rup τ 872 (τ 872 + 1)) := by
                refine RI_rup h _ _ ?_ ?_ ?_ ?_ ?_ ?_ ?_ ?_
                all_goals omega
              rw [C_refuse hC1 hI1 hp ha, bd2_some, rup_ne (by omega), rup_ne (by omega)]
              refine ⟨_, rfl, ?_, Fr.tr Fr.up0 (Fr.up (by omega))⟩
              unfold rfR
              rw [rup_comm _ (by omega)]
              exact CR_5 hC1 hp _
            · have hC1 := CR_1 hC0 ha (τ (204 + p))
              have hC2 := CR_2 hC1 (i := 16 * a + s - 1) (by omega) (τ (204 + p))
              have hC3 := CR_3 hC2 (i := 16 * a + s - 1) (by omega) (τ (789 + (16 * p + s - 1)))
              have hI3 := RI_vtR h hp hs1 hs2 ha
              have hfr := Fr.tr (Fr.tr (Fr.up (o := o) (j := 1) (k := a) (g := g) (v := nI (τ (204 + p))) (by omega)) (Fr.up (j := 2) (k := 16 * a + s - 1) (v := nI (τ (204 + p))) (by omega))) (Fr.up (j := 3) (k := 16 * a + s - 1) (v := nI (τ (789 + (16 * p + s - 1)))) (by omega))
              rw [if_pos (nI_le (by omega) (by omega)), if_neg e2, bnd_some, wr_nI ha (by omega), bnd_some, rd_nI hp (by omega), bnd_some, mu_o (by omega), a4 p hp, wr_nI (by omega) (by omega), bnd_some, cell_nI hs1, rd_nI (by omega) (by omega), bnd_some, mu_o (by omega), mu_o (by omega), a7 _ (by omega), wr_nI (by omega) (by omega), bnd_some, rd_nI hp (by omega), bnd_some, mu_o (by omega), mu_o (by omega), mu_o (by omega), a4 p hp]
              change CR _ o (vtR τ p s a) at hC3
              generalize hg3 : m_up (m_up (m_up g (o + 1) a (nI (τ (204 + p)))) (o + 2) (16 * a + s - 1) (nI (τ (204 + p)))) (o + 3) (16 * a + s - 1) (nI (τ (789 + (16 * p + s - 1)))) = g3 at hC3 hfr ⊢
              obtain ⟨k, hk, hkm, ek⟩ := C_votersFor hC3 hI3 hs1 hs2 (b := τ (204 + p)) (by omega)
              have hcnt : pc k = forN (vtR τ p s a) s (τ (204 + p)) := by
                rw [pc_cnt k hk]
                exact cntN_congr 6 (fun i hi => hkm i hi)
              have hf6 : forN (vtR τ p s a) s (τ (204 + p)) ≤ 6 := cntN_le _ 6
              have a10' := hC3.2.2.2.2.2.2.2.2.2.2.2.2.2.1 (s - 1) (by omega)
              have e837 : vtR τ p s a (837 + (s - 1)) = τ (837 + (s - 1)) := by
                unfold vtR
                rw [rup_ne (by omega), rup_ne (by omega), rup_ne (by omega)]
              have a3' : g3 (o + 3) (16 * a + s - 1) = nI (τ (789 + (16 * p + s - 1))) := by rw [← hg3, mu_eq]
              have a4' := hC3.2.2.2.2.2.2.2.2.1 p hp
              have e204 : vtR τ p s a (204 + p) = τ (204 + p) := by
                unfold vtR
                rw [rup_ne (by omega), rup_ne (by omega), rup_ne (by omega)]
              have e870 : vtR τ p s a 870 = τ 870 := by
                unfold vtR
                rw [rup_ne (by omega), rup_ne (by omega), rup_ne (by omega)]
              rw [show s - 1 + 1 = s from by omega, e837] at a10'
              rw [e204] at a4'
              rw [ek, bnd_some, bc_nI k hk, lt1, hcnt, rd_nI (by omega) (by omega), bnd_some, a10']
              have b870 := h.1 870 (by omega)
              have hsec : sec (vtR τ p s a) s = sec τ s := by unfold sec; rw [vo_vtR hs2 ha, e870]
              have hs6 : sec τ s ≤ 6 := by have := pc_le (vo τ s); unfold sec; omega
              by_cases e3 : τ (837 + (s - 1)) = 0
              · rw [if_pos (by rw [e3]; rfl), C_voters hC3 hI3 hs2, bnd_some, C_second hC3 hI3 (vo_lt hI3 hs2)]
                change ∃ g', (if nI (forN (vtR τ p s a) s (τ (204 + p))) < nI (sec (vtR τ p s a) s) then _ else _) = _ ∧ _
                rw [hsec]
                by_cases e4 : sec τ s ≤ forN (vtR τ p s a) s (τ (204 + p))
                · rw [if_neg (nI_nlt e4 (by omega)), if_pos ⟨e3, e4⟩, rd_nI (by omega) (by omega), bnd_some, a3', wr_nI (by omega) (by omega), bnd_some, rd_nI hp (by omega), bnd_some, mu_o (by omega), a4', wr_nI (by omega) (by omega), bnd_some]
                  have hC4 := CR_10 hC3 (i := s - 1) (by omega) (τ (789 + (16 * p + s - 1)))
                  have hC5 := CR_11 hC4 (i := s - 1) (by omega) (τ (204 + p))
                  rw [show s - 1 + 1 = s from by omega] at hC5
                  exact ⟨_, rfl, hC5, Fr.tr (Fr.tr hfr (Fr.up (by omega))) (Fr.up (by omega))⟩
                · rw [if_pos (nI_lt (by omega) (by omega)), if_neg (fun z => e4 z.2)]
                  exact ⟨_, rfl, hC3, hfr⟩
              · rw [if_neg (fun z => e3 ((nI_z (by omega)).mp z)), if_neg (fun z => e3 z.1)]
                exact ⟨_, rfl, hC3, hfr⟩
