theorem P_run_pos {T : Nat → Nat} {tn : Nat} : ∀ n e, (P_run T tn n e).1 = true → 1 ≤ (P_run T tn n e).2 := by
  intro n
  induction n with
  | zero => intro e h; exact absurd h (nf _)
  | succ n ih =>
    intro e h
    rw [P_run] at h ⊢
    by_cases q1 : (P_ord T (st T e)).1 = true
    · rw [if_pos q1] at h ⊢
      by_cases q2 : (P_ord T (st T e)).2.1 = tn
      · rw [if_pos q2]
        show 1 ≤ e + 1
        omega
      · rw [if_neg q2] at h ⊢
        by_cases q3 : T (P_ord T (st T e)).2.1 = 59
        · rw [if_pos q3] at h ⊢
          exact ih _ h
        · rw [if_neg q3] at h
          exact absurd h (nf _)
    · rw [if_neg q1] at h
      exact absurd h (nf _)
theorem C_note {g : Mem} {T : Nat → Nat} {m e : Nat} {err : Int32} (hO : OS T g m) (hm : m ≤ 20) (hz : g 89 5 = nI m) (he : e < m) : f_X4_noteRefusal (nI e) err g = some (m_up (m_up (m_up (m_up g 0 6 1) 0 7 (nI e)) 0 8 err) 0 9 (nI (st T e))) := by
  unfold f_X4_noteRefusal f_X1_placeOf
  rw [lt1, lt1, lt1, if_neg (nI_pos (by omega)), mu_o (by decide), mu_o (by decide), mu_o (by decide), hz, if_neg (nI_ge he (by omega)), rd_nI (by omega) (by omega), mu_o (by decide), mu_o (by decide), mu_o (by decide), (hO e he).2.1, bnd_some, bnd_some, lt1]
theorem C_back {g : Mem} {nx : Nat} (hx : nx < 5) (hg : g 25 1 = nI nx) : f_X0_bringBackDraft 1 g = some (cpS g 1 (rowOf nx)) := by
  unfold f_X0_bringBackDraft
  rw [hg, rowOf_r hx g, bnd_some, C_copyE, bnd_some]
section CPERF
variable {g : Mem} {τ : Row} {hn : Nat} {hist : Nat → Row} {kf : Bool} {sn : Row} {tn : Nat} {txt : Nat → Nat} {rf : Option (Nat × Int32 × Nat)}
theorem o_perf_no (h : (P_run (tx tn txt) tn 20 0).1 = false) : o_perform (τ, hn, hist, kf, sn, tn, txt, rf) = (-100 - nI (P_run (tx tn txt) tn 20 0).2, (τ, hn, hist, kf, sn, tn, txt, rf)) := by
  exact if_neg (by rw [h]; decide)
theorem o_perf_ok (h : (P_run (tx tn txt) tn 20 0).1 = true) (hx : (X_go (tx tn txt) (P_run (tx tn txt) tn 20 0).2 0 τ).1 = none) : o_perform (τ, hn, hist, kf, sn, tn, txt, rf) = (nI (P_run (tx tn txt) tn 20 0).2, ((X_go (tx tn txt) (P_run (tx tn txt) tn 20 0).2 0 τ).2, min 4 (hn + 1), push τ hist, kf, sn, tn, txt, rf)) := by
  refine Eq.trans (if_pos h) ?_
  rw [hx]
theorem o_perf_rf (h : (P_run (tx tn txt) tn 20 0).1 = true) {q : Nat × Int32} (hx : (X_go (tx tn txt) (P_run (tx tn txt) tn 20 0).2 0 τ).1 = some q) : o_perform (τ, hn, hist, kf, sn, tn, txt, rf) = (-4, (τ, hn, hist, kf, sn, tn, txt, some (q.1, q.2, st (tx tn txt) q.1))) := by
  refine Eq.trans (if_pos h) ?_
  rw [hx]
theorem m1_ne {p : Nat} (h : p < 2 ^ 31) : ¬ nI p = -1 := fun z => nI_pos h (by rw [z]; decide)
theorem C_perform (hR : RC g (τ, hn, hist, kf, sn, tn, txt, rf)) (hI : SI (τ, hn, hist, kf, sn, tn, txt, rf)) : ∃ g', f_X4_perform g = some ((o_perform (τ, hn, hist, kf, sn, tn, txt, rf)).1, g') ∧ RC g' (o_perform (τ, hn, hist, kf, sn, tn, txt, rf)).2 := by
  have hT : TC g tn txt := ⟨hR.2.2.2.2.2.1, hI.2.2.2.2.1, hR.2.2.2.2.2.2.1, hI.2.2.2.2.2⟩
  obtain ⟨g2, e2, f2, k2⟩ := C_read hT
  have hR2 := RC_fr hR (fun q hq => f2 q (by omega))
  unfold f_X4_perform
  rw [e2, bd2_some]
  cases hr : (P_run (tx tn txt) tn 20 0).1 with
  | false =>
    have hle := P_run_le (tn := tn) (txt := txt) 20 0 (Nat.zero_le _) hr
    have h60 := hI.2.2.2.2.1
    rw [o_perf_no hr, if_neg (c := false = true) (by decide), if_neg (m1_ne (by omega))]
    exact ⟨g2, rfl, hR2⟩
  | true =>
    obtain ⟨m20, hz, hO⟩ := k2 hr
    rw [if_pos (c := true = true) rfl, if_pos (c := (-1 : Int32) = -1) rfl]
    obtain ⟨r1, ⟨nx, hx, r2, r3⟩, r4, r5, r6, r7, r8, r9⟩ := hR2
    obtain ⟨i1, i2, i3, i4, i5, i6⟩ := hI
    have ro : rowOf nx = 27 + 12 * nx := rfl
    have a2 : ∀ z, rowOf z = 27 + 12 * z := fun z => rfl
    generalize hm : (P_run (tx tn txt) tn 20 0).2 = m at m20 hz hO
    have hC1 : CR (cpS g2 (rowOf nx) 1) 1 τ := CR_fr r1 (fun q h1 h2 => cpS_q (by omega))
    have hCd : CR (cpS g2 (rowOf nx) 1) (rowOf nx) τ := CR_copy r1 (by omega)
    have hO1 : OS (tx tn txt) (cpS g2 (rowOf nx) 1) m := OS_fr hO (funext fun k => by rw [cpS_q (by omega)]) (funext fun k => by rw [cpS_q (by omega)]) (funext fun k => by rw [cpS_q (by omega)])
    have hz1 : cpS g2 (rowOf nx) 1 89 5 = nI m := by rw [cpS_q (by omega)]; exact hz
    rw [C_draft hx r2, bnd_some]
    obtain ⟨g3, hF3, k3, k4⟩ := lp_C_perf m20 (fun g12 => (f_X0_commit  g12).bind fun g13 => (some ((g13 89 5), g13))) m 0 fuel0 _ τ (by omega) (by have := fuel_gt; omega) hC1 i1 hO1 hz1
    have keep : ∀ q, q = 0 ∨ q = 25 ∨ q = 87 ∨ q = 88 ∨ q = 89 ∨ q = 90 ∨ q = 91 ∨ q = 92 → g3 q = g2 q := fun q hq => by rw [hF3 q (by omega), cpS_q (by omega)]
    have k0 := keep 0 (by omega)
    have k25 := keep 25 (by omega)
    have k87 := keep 87 (by omega)
    have k88 := keep 88 (by omega)
    have k89 := keep 89 (by omega)
    have hO3 : OS (tx tn txt) g3 m := OS_fr hO (keep 90 (by omega)) (keep 91 (by omega)) (keep 92 (by omega))
    have hrows : ∀ i, i < hn → CR g3 (rowOf ((nx + 4 - i) % 5)) (hist i) := fun i hi => CR_fr (r3 i hi) (fun q h1 h2 => by
      have a1 := rowOf_apart (ring_ne hx (show i < 4 by omega))
      have a2 : rowOf ((nx + 4 - i) % 5) = 27 + 12 * ((nx + 4 - i) % 5) := rfl
      rw [hF3 q (by omega), cpS_q (by omega)])
    have hsn : kf = true → CR g3 13 sn := fun q => CR_fr (r6 q) (fun q h1 h2 => by rw [hF3 q (by omega), cpS_q (by omega)])
    have hd3 : CR g3 (rowOf nx) τ := CR_fr hCd (fun q h1 h2 => hF3 q (by omega))
    cases hX : (X_go (tx tn txt) m 0 τ).1 with
    | none =>
      obtain ⟨e3, hC3⟩ := k3 hX
      rw [o_perf_ok hr (by rw [hm]; exact hX), hm]
      refine ⟨m_up (m_up g3 25 1 (nI ((nx + 1) % 5))) 25 2 (nI (min 4 (hn + 1))), ?_, ?_⟩
      · refine Eq.trans e3 ?_
        show (f_X0_commit g3).bind _ = _
        rw [C_commit (nx := nx) (hn := hn) hx (by rw [k25]; exact r2) (by rw [k25]; exact r4) i2, bnd_some, mu_o (by decide), mu_o (by decide), k89, hz]
      · have st : ∀ o τ', CR g3 o τ' → (25 < o ∨ o + 12 ≤ 25) → CR (m_up (m_up g3 25 1 (nI ((nx + 1) % 5))) 25 2 (nI (min 4 (hn + 1)))) o τ' := fun o τ' hc ho => CR_fr hc (fun q h1 h2 => by rw [mu_q (by omega), mu_q (by omega)])
        refine ⟨st 1 _ hC3 (by omega), ⟨(nx + 1) % 5, by omega, by rw [mu_k (by decide), mu_eq], fun i hi => ?_⟩, by rw [mu_eq], by rw [mu_o (by decide), mu_o (by decide), k0]; exact r5, fun q => st 13 _ (hsn q) (by omega), by rw [mu_o (by decide), mu_o (by decide), k87]; exact r7, fun i hi => by rw [mu_o (by decide), mu_o (by decide), k88]; exact r8 i hi, ?_⟩
        · unfold push
          by_cases hi0 : i = 0
          · subst hi0
            rw [if_pos rfl, show ((nx + 1) % 5 + 4 - 0) % 5 = nx from by omega]
            exact st _ _ hd3 (by rw [a2]; omega)
          · rw [if_neg hi0, show ((nx + 1) % 5 + 4 - i) % 5 = (nx + 4 - (i - 1)) % 5 from by omega]
            exact st _ _ (hrows (i - 1) (by omega)) (by rw [a2]; omega)
        · exact rfC_fr r9 (by rw [mu_q (by decide), mu_q (by decide), k0])
    | some q =>
      obtain ⟨e3, hq⟩ := k4 q hX
      rw [o_perf_rf hr (q := q) (by rw [hm]; exact hX)]
      have hz3 : g3 89 5 = nI m := by rw [k89]; exact hz
      rw [C_note hO3 m20 hz3 hq, bnd_some] at e3
      generalize hg4 : m_up (m_up (m_up (m_up g3 0 6 1) 0 7 (nI q.1)) 0 8 q.2) 0 9 (nI (st (tx tn txt) q.1)) = g4 at e3
      have f4 : ∀ p, p ≠ 0 → g4 p = g3 p := fun p hp => by rw [← hg4, mu_q hp, mu_q hp, mu_q hp, mu_q hp]
      have f40 : ∀ k, k < 6 → g4 0 k = g3 0 k := fun k hk => by rw [← hg4, mu_k (by omega), mu_k (by omega), mu_k (by omega), mu_k (by omega)]
      rw [C_back (nx := nx) hx (by rw [f4 25 (by decide), k25]; exact r2), bnd_some] at e3
      refine ⟨_, e3, ?_⟩
      have st2 : ∀ o τ', CR g3 o τ' → 13 ≤ o → CR (cpS g4 1 (rowOf nx)) o τ' := fun o τ' hc ho => CR_fr hc (fun p h1 h2 => by rw [cpS_q (by omega), f4 p (by omega)])
      refine ⟨CR_copy (CR_fr hd3 (fun p h1 h2 => f4 p (by omega))) (by omega), ⟨nx, hx, by rw [cpS_q (by omega), f4 25 (by decide), k25]; exact r2, fun i hi => st2 _ _ (hrows i hi) (by rw [a2]; omega)⟩, by rw [cpS_q (by omega), f4 25 (by decide), k25]; exact r4, by rw [cpS_q (by omega), f40 2 (by decide), k0]; exact r5, fun z => st2 13 _ (hsn z) (by omega), by rw [cpS_q (by omega), f4 87 (by decide), k87]; exact r7, fun i hi => by rw [cpS_q (by omega), f4 88 (by decide), k88]; exact r8 i hi, ?_⟩
      show cpS g4 1 (rowOf nx) 0 6 = 1 ∧ cpS g4 1 (rowOf nx) 0 7 = nI q.1 ∧ cpS g4 1 (rowOf nx) 0 8 = q.2 ∧ cpS g4 1 (rowOf nx) 0 9 = nI (st (tx tn txt) q.1)
      rw [cpS_q (by omega), ← hg4]
      refine ⟨?_, ?_, ?_, ?_⟩
      · rw [mu_k (by decide), mu_k (by decide), mu_k (by decide), mu_eq]
      · rw [mu_k (by decide), mu_k (by decide), mu_eq]
      · rw [mu_k (by decide), mu_eq]
      · rw [mu_eq]
end CPERF
