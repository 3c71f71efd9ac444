/-! p25: performs() -/
def EVP (r : Option (Bool × Mem)) : Prop := ∃ g' S', r = some (true, g') ∧ RC g' S' ∧ SV S'
theorem ch_nI : ∀ k, k < 6 → ((48 + nI k).toUInt32 % 65536).toInt32 = nI (48 + k) := by decide +kernel
section PERF
variable {g : Mem} {τ : Row} {hn : Nat} {hist : Nat → Row} {kf : Bool} {sn : Row} {tn : Nat} {txt : Nat → Nat} {rf : Option (Nat × Int32 × Nat)}
theorem SV_txt (hS : SV (τ, hn, hist, kf, sn, tn, txt, rf)) {tn' : Nat} {txt' : Nat → Nat} {rf' : Option (Nat × Int32 × Nat)} (h1 : tn' ≤ 60) (h2 : ∀ i, i < tn' → txt' i < 65536) : SV (τ, hn, hist, kf, sn, tn', txt', rf') := by
  obtain ⟨⟨i1, i2, i3, i4, i5, i6⟩, s2, s3, s4⟩ := hS
  exact ⟨⟨i1, i2, i3, i4, h1, h2⟩, s2, s3, s4⟩
theorem SV_acted (hS : SV (τ, hn, hist, kf, sn, tn, txt, rf)) {ρ : Row} (h1 : RK ρ) (h2 : INV ρ) : SV (ρ, min 4 (hn + 1), push τ hist, kf, sn, tn, txt, rf) := by
  obtain ⟨⟨i1, i2, i3, i4, i5, i6⟩, s2, s3, s4⟩ := hS
  refine ⟨⟨h1, Nat.min_le_left _ _, fun i hi => ?_, i4, i5, i6⟩, h2, fun i hi => ?_, s4⟩
  · unfold push
    by_cases h0 : i = 0
    · rw [if_pos h0]; exact i1
    · rw [if_neg h0]; exact i3 _ (by omega)
  · unfold push
    by_cases h0 : i = 0
    · rw [if_pos h0]; exact s2
    · rw [if_neg h0]; exact s3 _ (by omega)
theorem A_undo (hR : RC g (τ, hn, hist, kf, sn, tn, txt, rf)) (hS : SV (τ, hn, hist, kf, sn, tn, txt, rf)) (h0 : hn ≠ 0) : ∃ g', f_X4_undo g = some (nI (hn - 1), g') ∧ RC g' (hist 0, hn - 1, fun i => hist (i + 1), kf, sn, tn, txt, rf) ∧ SV (hist 0, hn - 1, fun i => hist (i + 1), kf, sn, tn, txt, rf) := by
  obtain ⟨hI, s2, s3, s4⟩ := id hS
  obtain ⟨g', e1, r1⟩ := C_undo hR hI
  have hu : o_undo (τ, hn, hist, kf, sn, tn, txt, rf) = (nI (hn - 1), (hist 0, hn - 1, fun i => hist (i + 1), kf, sn, tn, txt, rf)) := if_neg h0
  rw [hu] at e1 r1
  obtain ⟨i1, i2, i3, i4, i5, i6⟩ := hI
  exact ⟨g', e1, r1, ⟨i3 0 (by omega), by omega, fun i hi => i3 _ (by omega), i4, i5, i6⟩, s3 0 (by omega), fun i hi => s3 _ (by omega), s4⟩
theorem A_type (hR : RC g (τ, hn, hist, kf, sn, tn, txt, rf)) (hS : SV (τ, hn, hist, kf, sn, tn, txt, rf)) (ht : tn < 60) {c : Nat} (hc : c < 65536) : ∃ g', f_X4_type (nI c) g = some (nI (tn + 1), g') ∧ RC g' (τ, hn, hist, kf, sn, tn + 1, fun i => if i = tn then c else txt i, rf) ∧ SV (τ, hn, hist, kf, sn, tn + 1, fun i => if i = tn then c else txt i, rf) := by
  obtain ⟨g', e1, r1⟩ := C_type hR hS.1 hc
  have hu : o_type c (τ, hn, hist, kf, sn, tn, txt, rf) = (nI (tn + 1), (τ, hn, hist, kf, sn, tn + 1, fun i => if i = tn then c else txt i, rf)) := if_neg (by omega)
  rw [hu] at e1 r1
  refine ⟨g', e1, r1, SV_txt hS (by omega) (fun i hi => ?_)⟩
  by_cases e : i = tn
  · simp only [if_pos e]; exact hc
  · simp only [if_neg e]; exact hS.1.2.2.2.2.2 i (by omega)
/-- what the text is read as -/
theorem tx_ord {p a : Nat} (hp : p < 3) (ha : a < 6) (h0 : txt 0 = 121) (h1 : txt 1 = 48 + p) (h2 : txt 2 = 44) (h3 : txt 3 = 48 + a) : P_ord (tx 4 txt) 0 = (true, 4, p, a, 0) := by
  have t0 : tx 4 txt 0 = 121 := h0
  have t1 : tx 4 txt 1 = 48 + p := h1
  have t2 : tx 4 txt 2 = 44 := h2
  have t3 : tx 4 txt 3 = 48 + a := h3
  unfold P_ord
  rw [if_neg (by rw [t0]; decide), if_pos t0]
  unfold P_dg
  rw [show 0 + 1 = 1 from rfl, t1, if_pos (by omega)]
  dsimp only
  unfold P_cm
  rw [show 1 + 1 = 2 from rfl, t2, if_pos rfl]
  dsimp only
  rw [show 2 + 1 = 3 from rfl, t3, if_pos (by omega), Nat.add_sub_cancel_left, Nat.add_sub_cancel_left]
theorem tx_run {p a : Nat} (hp : p < 3) (ha : a < 6) (h0 : txt 0 = 121) (h1 : txt 1 = 48 + p) (h2 : txt 2 = 44) (h3 : txt 3 = 48 + a) : P_run (tx 4 txt) 4 20 0 = (true, 1) := by
  have e : P_ord (tx 4 txt) (st (tx 4 txt) 0) = (true, 4, p, a, 0) := tx_ord hp ha h0 h1 h2 h3
  rw [P_run, e]
  rfl
theorem tx_sord {p a : Nat} (hp : p < 3) (ha : a < 6) (h0 : txt 0 = 121) (h1 : txt 1 = 48 + p) (h2 : txt 2 = 44) (h3 : txt 3 = 48 + a) : s_ord (tx 4 txt) 0 τ = s_promiseN p a τ := by
  have e : P_ord (tx 4 txt) (st (tx 4 txt) 0) = (true, 4, p, a, 0) := tx_ord hp ha h0 h1 h2 h3
  have t0 : tx 4 txt (st (tx 4 txt) 0) = 121 := h0
  unfold s_ord
  rw [t0, if_neg (by decide), if_neg (by decide), if_neg (by decide), if_pos rfl, e]
  exact E_promise hp ha τ
theorem A_perform (hR : RC g (τ, hn, hist, kf, sn, 4, txt, rf)) (hS : SV (τ, hn, hist, kf, sn, 4, txt, rf)) {p a : Nat} (hp : p < 3) (ha : a < 6) (h0 : txt 0 = 121) (h1 : txt 1 = 48 + p) (h2 : txt 2 = 44) (h3 : txt 3 = 48 + a) : ∃ g', (f_X4_isError (s_promiseN p a τ).1 = true ∧ f_X4_perform g = some (-4, g') ∧ RC g' (τ, hn, hist, kf, sn, 4, txt, some (0, (s_promiseN p a τ).1, 0))) ∨ (f_X4_isError (s_promiseN p a τ).1 = false ∧ f_X4_perform g = some (1, g') ∧ RC g' ((s_promiseN p a τ).2, min 4 (hn + 1), push τ hist, kf, sn, 4, txt, rf)) := by
  obtain ⟨g', e1, r1⟩ := C_perform hR hS.1
  have hrun := tx_run hp ha h0 h1 h2 h3
  have hsor := tx_sord (τ := τ) hp ha h0 h1 h2 h3
  refine ⟨g', ?_⟩
  cases hE : f_X4_isError (s_promiseN p a τ).1 with
  | true =>
    have hx : X_go (tx 4 txt) 1 0 τ = (some (0, (s_promiseN p a τ).1), τ) := by
      rw [X_go, hsor, if_pos hE]
    have ho : o_perform (τ, hn, hist, kf, sn, 4, txt, rf) = (-4, (τ, hn, hist, kf, sn, 4, txt, some (0, (s_promiseN p a τ).1, 0))) := by
      unfold o_perform
      simp only [hrun, hx]
      rfl
    rw [ho] at e1 r1
    exact Or.inl ⟨rfl, e1, r1⟩
  | false =>
    have hx : X_go (tx 4 txt) 1 0 τ = (none, (s_promiseN p a τ).2) := by
      rw [X_go, hsor, if_neg (by rw [hE]; decide)]
      rfl
    have ho : o_perform (τ, hn, hist, kf, sn, 4, txt, rf) = (1, ((s_promiseN p a τ).2, min 4 (hn + 1), push τ hist, kf, sn, 4, txt, rf)) := by
      unfold o_perform
      simp only [hrun, hx]
      rfl
    rw [ho] at e1 r1
    exact Or.inr ⟨rfl, e1, r1⟩
theorem EV_J65 (hR : RC g (τ, hn, hist, kf, sn, 4, txt, rf)) (hS : SV (τ, hn, hist, kf, sn, 4, txt, rf)) {p a : Nat} (hp : p < 3) (ha : a < 6) (h0 : txt 0 = 121) (h1 : txt 1 = 48 + p) (h2 : txt 2 = 44) (h3 : txt 3 = 48 + a) : (τ (204 + p) = 0 ∨ τ a ≠ 1 → EVP (f_L_performs_J65 (nI p) (nI a) 0 g)) ∧ (¬ (τ (204 + p) = 0 ∨ τ a ≠ 1) → EVP (f_L_performs_J65 (nI p) (nI a) 1 g)) := by
  have hK : RK τ := hS.1.1
  have hI := hS.2.1
  have hh := hS.1.2.1
  obtain ⟨g', hp1⟩ := A_perform hR hS hp ha h0 h1 h2 h3
  refine ⟨fun hm => ?_, fun hm => ?_⟩
  · have hs4 : s_promiseN p a τ = (-4, τ) := by unfold s_promiseN; rw [if_pos hm]
    rcases hp1 with ⟨q1, q2, q3⟩ | ⟨q1, q2, q3⟩
    · rw [hs4] at q3
      rw [f_L_performs_J65, R_c9 hR.1 hK.1 hR.2.2.1 hR.2.2.2.2.2.1, bnd_some, q2, bd2_some, if_pos rfl, if_pos rfl, C_refusal q3 0, C_refusal q3 1, C_refusal q3 2]
      have f0 : o_refusal 0 (τ, hn, hist, kf, sn, 4, txt, some (0, (-4 : Int32), 0)) = 0 := rfl
      have f1 : o_refusal 1 (τ, hn, hist, kf, sn, 4, txt, some (0, (-4 : Int32), 0)) = -4 := rfl
      have f2 : o_refusal 2 (τ, hn, hist, kf, sn, 4, txt, some (0, (-4 : Int32), 0)) = 0 := rfl
      rw [f0, f1, f2, if_pos rfl, if_pos rfl, if_pos rfl, R_c9 q3.1 hK.1 q3.2.2.1 q3.2.2.2.2.2.1, bnd_some, if_pos rfl]
      exact ⟨g', _, rfl, q3, SV_txt hS (by omega) hS.1.2.2.2.2.2⟩
    · rw [hs4] at q1
      exact absurd q1 (show ¬ f_X4_isError (-4) = false by decide)
  · have hE : f_X4_isError (s_promiseN p a τ).1 = false ∧ ((s_promiseN p a τ).1 = -5 ∨ ¬ (s_promiseN p a τ).1 < 0) := by
      have b2 := hK.1.1 (6 + a) (by omega)
      have hv : votesN τ a 16 ≤ 16 := cntN_le _ 16
      have ge : ∀ n, n < 2 ^ 31 → f_X4_isError (nI n) = false := fun n hn => by
        unfold f_X4_isError
        rw [if_pos (nI_pos' hn)]
      unfold s_promiseN
      rw [if_neg hm]
      split
      · exact ⟨show f_X4_isError (-5) = false by decide, Or.inl rfl⟩
      · split
        · exact ⟨ge _ (by omega), Or.inr (nI_pos (by omega))⟩
        · exact ⟨ge _ (by omega), Or.inr (nI_pos (by omega))⟩
    rcases hp1 with ⟨q1, q2, q3⟩ | ⟨q1, q2, q3⟩
    · rw [hE.1] at q1
      cases q1
    · have hK1 : RK (s_promiseN p a τ).2 := by
        have := RK_promise hK (nI p) (nI a)
        rw [E_promise hp ha] at this
        exact this
      have hI1 := INV_promN hK hI hp ha
      have hS1 := SV_acted hS hK1 hI1
      obtain ⟨d, hd⟩ := L_digest_of hK1.1
      obtain ⟨g2, e2, r2, v2⟩ := A_undo q3 hS1 (by omega)
      obtain ⟨g3, ⟨τ3, hn3, hist3, kf3, sn3, tn3, txt3, rf3⟩, e3, r3, v3, et, eS⟩ := A_promise r2 v2 hp ha
      have et : τ3 = (s_promiseN p a τ).2 := et
      have e3 : f_X4_promise (nI p) (nI a) g2 = some ((s_promiseN p a τ).1, g3) := e3
      have hk : f_L_performs_J173 d g3 = some (true, g3) := by
        rw [f_L_performs_J173, hd g3 (by rw [← et]; exact RC_DG r3), bnd_some, lg_cmp_rf, if_pos rfl, C_refusal r3 3]
        rfl
      rw [f_L_performs_J65, R_c9 hR.1 hK.1 hR.2.2.1 hR.2.2.2.2.2.1, bnd_some, q2, bd2_some, if_neg (by decide), hd g' (RC_DG q3), bnd_some, e2, bd2_some, e3, bd2_some, if_pos rfl]
      rcases hE.2 with z | z
      · rw [if_pos z, hk]
        exact ⟨g3, _, rfl, r3, v3⟩
      · by_cases z2 : (s_promiseN p a τ).1 = -5
        · rw [if_pos z2, hk]
          exact ⟨g3, _, rfl, r3, v3⟩
        · rw [if_neg z2, if_neg z, hk]
          exact ⟨g3, _, rfl, r3, v3⟩
theorem EV_performs (hR : RC g (τ, hn, hist, kf, sn, tn, txt, rf)) (hS : SV (τ, hn, hist, kf, sn, tn, txt, rf)) {p a : Nat} (hp : p < 3) (ha : a < 6) : EVP (f_L_performs (nI p) (nI a) g) := by
  have hK : RK τ := hS.1.1
  obtain ⟨g1, e1, r1⟩ := C_clear hR
  have e1 : f_X4_clearText g = some (nI tn, g1) := e1
  have r1 : RC g1 (τ, hn, hist, kf, sn, 0, txt, rf) := r1
  have v1 : SV (τ, hn, hist, kf, sn, 0, txt, rf) := SV_txt hS (by omega) (fun i hi => absurd hi (Nat.not_lt_zero i))
  obtain ⟨g2, e2, r2, v2⟩ := A_type r1 v1 (by omega) (c := 121) (by omega)
  obtain ⟨g3, e3, r3, v3⟩ := A_type r2 v2 (by omega) (c := 48 + p) (by omega)
  obtain ⟨g4, e4, r4, v4⟩ := A_type r3 v3 (by omega) (c := 44) (by omega)
  obtain ⟨g5, e5, r5, v5⟩ := A_type r4 v4 (by omega) (c := 48 + a) (by omega)
  have e2 : f_X4_type 121 g1 = some (nI 1, g2) := e2
  have e4 : f_X4_type 44 g3 = some (nI 3, g4) := e4
  obtain ⟨k0, k1⟩ := EV_J65 r5 v5 hp ha rfl rfl rfl rfl
  have b1 := hK.1.1 (204 + p) (by omega)
  have b3 := hK.1.2.1 a ha
  unfold f_L_performs
  rw [e1, bd2_some, e2, bd2_some, ch_nI p (by omega), e3, bd2_some, e4, bd2_some, ch_nI a ha, e5, bd2_some, R_p0 r5.1 hK.1 hp, bnd_some]
  by_cases c1 : τ (204 + p) = 0
  · rw [if_pos (by rw [c1]; decide), f_L_performs_J64]
    exact k0 (Or.inl c1)
  · rw [if_neg (nI_nle (by omega) (by omega)), R_a0 r5.1 hK.1 ha, bnd_some]
    by_cases c2 : τ a = 1
    · rw [if_pos (by rw [c2]; rfl)]
      exact k1 (fun q => q.elim c1 (fun q => q c2))
    · rw [if_neg (by rw [z1, nI_eq (by omega) (by omega)]; exact c2), f_L_performs_J64]
      exact k0 (Or.inr c2)
end PERF
