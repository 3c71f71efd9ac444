/-! the reference's history and snapshot -/
theorem z2619 : (2619 : Int32) = nI 2619 := rfl
theorem lp_cps (K : Mem → Option Mem) {o1 o2 : Nat} (ho : o1 ≠ o2) : ∀ n j g, j ≤ 873 → 873 - j < n → ∃ g', f_X5_copies_L2 K o1 o2 n (nI j) g = K g' ∧ (∀ q, q ≠ o2 → g' q = g q) ∧ (∀ k, k < j → g' o2 k = g o2 k) ∧ ∀ k, j ≤ k → k < 873 → g' o2 k = g o1 k := by
  intro n
  induction n with
  | zero => intro j g _ h; omega
  | succ n ih =>
    intro j g hj hn
    rw [f_X5_copies_L2]
    by_cases h6 : j = 873
    · subst h6
      rw [if_pos (by rw [z873]; exact nI_le (by omega) (by omega))]
      exact ⟨g, rfl, fun _ _ => rfl, fun _ _ => rfl, fun k _ _ => by omega⟩
    · rw [if_neg (by rw [z873]; exact nI_ge (by omega) (by omega)), rd_nI (by omega) (by omega), bnd_some, wr_nI (by omega) (by omega), bnd_some, lt1, nI_1]
      obtain ⟨g', e, h1, h2, h3⟩ := ih (j + 1) (m_up g o2 j (g o1 j)) (by omega) (by omega)
      refine ⟨g', e, fun q hq => (h1 q hq).trans (mu_q hq), fun k hk => ?_, fun k hk1 hk2 => ?_⟩
      · rw [h2 k (by omega), mu_k (by omega)]
      · by_cases hk : k = j
        · subst hk
          rw [h2 k (by omega), mu_eq]
        · rw [h3 k (by omega) hk2, mu_o ho]
theorem M_copies (g : Mem) {o1 o2 : Nat} (ho : o1 ≠ o2) : ∃ g', f_X5_copies o1 o2 g = some g' ∧ (∀ q, q ≠ o2 → g' q = g q) ∧ ∀ k, k < 873 → g' o2 k = g o1 k := by
  unfold f_X5_copies
  obtain ⟨g', e, h1, _, h3⟩ := lp_cps (fun g5 => some g5) ho fuel0 0 g (by omega) (by have := fuel_gt; omega)
  exact ⟨g', e, h1, fun k hk => h3 k (by omega) hk⟩
theorem lp_rec (K : Mem → Option Mem) {h : Nat} (hh : h ≤ 3) : ∀ n j g, j ≤ 873 → 873 - j < n → g 0 2 = nI h → ∃ g', f_X5_record_L59 K n (nI j) g = K g' ∧ (∀ q, q ≠ 2 → g' q = g q) ∧ (∀ k, k < 873 * h + j → g' 2 k = g 2 k) ∧ ∀ k, j ≤ k → k < 873 → g' 2 (873 * h + k) = g 1 k := by
  intro n
  induction n with
  | zero => intro j g _ h; omega
  | succ n ih =>
    intro j g hj hn h0
    rw [f_X5_record_L59]
    by_cases h6 : j = 873
    · subst h6
      rw [if_pos (by rw [z873]; exact nI_le (by omega) (by omega))]
      exact ⟨g, rfl, fun _ _ => rfl, fun _ _ => rfl, fun k _ _ => by omega⟩
    · rw [if_neg (by rw [z873]; exact nI_ge (by omega) (by omega)), rd_nI (by omega) (by omega), bnd_some, h0, z873, pk_mul, nI_add, wr_nI (by omega) (by omega), bnd_some, lt1, nI_1]
      obtain ⟨g', e, h1, h2, h3⟩ := ih (j + 1) (m_up g 2 (873 * h + j) (g 1 j)) (by omega) (by omega) (by rw [mu_o (by decide)]; exact h0)
      refine ⟨g', e, fun q hq => (h1 q hq).trans (mu_q hq), fun k hk => ?_, fun k hk1 hk2 => ?_⟩
      · rw [h2 k (by omega), mu_k (by omega)]
      · by_cases hk : k = j
        · subst hk
          rw [h2 _ (by omega), mu_eq]
        · rw [h3 k (by omega) hk2, mu_o (by decide)]
theorem lp_shift (K : Mem → Option Mem) : ∀ n j g, j ≤ 2619 → 2619 - j < n → ∃ g', f_X5_record_L18 K n (nI j) g = K g' ∧ (∀ q, q ≠ 2 → g' q = g q) ∧ (∀ k, k < j → g' 2 k = g 2 k) ∧ ∀ k, j ≤ k → k < 2619 → g' 2 k = g 2 (k + 873) := by
  intro n
  induction n with
  | zero => intro j g _ h; omega
  | succ n ih =>
    intro j g hj hn
    rw [f_X5_record_L18]
    by_cases h6 : j = 2619
    · subst h6
      rw [if_pos (by rw [z2619]; exact nI_le (by omega) (by omega))]
      exact ⟨g, rfl, fun _ _ => rfl, fun _ _ => rfl, fun k _ _ => by omega⟩
    · rw [if_neg (by rw [z2619]; exact nI_ge (by omega) (by omega)), z873, nI_add, rd_nI (by omega) (by omega), bnd_some, wr_nI (by omega) (by omega), bnd_some, lt1, nI_1]
      obtain ⟨g', e, h1, h2, h3⟩ := ih (j + 1) (m_up g 2 j (g 2 (j + 873))) (by omega) (by omega)
      refine ⟨g', e, fun q hq => (h1 q hq).trans (mu_q hq), fun k hk => ?_, fun k hk1 hk2 => ?_⟩
      · rw [h2 k (by omega), mu_k (by omega)]
      · by_cases hk : k = j
        · subst hk
          rw [h2 k (by omega), mu_eq]
        · rw [h3 k (by omega) hk2, mu_k (by omega)]
def rfM (g : Mem) : Option (Nat × Int32 × Nat) → Prop
  | none => g 0 11 = -1
  | some (k, e, q) => g 0 11 = nI k ∧ k < 20 ∧ g 0 12 = e ∧ g 0 13 = nI q
def RM (g : Mem) : St → Prop
  | (τ, hn, hist, kf, sn, tn, txt, rf) => MR g τ ∧ g 0 2 = nI hn ∧ (∀ i, i < hn → ∀ k, k < 873 → g 2 (873 * (hn - 1 - i) + k) = nI (hist i k)) ∧ g 0 4 = bI kf ∧ (kf = true → ∀ k, k < 873 → g 3 k = nI (sn k)) ∧ g 0 5 = 0 ∧ g 0 6 = nI tn ∧ (∀ i, i < tn → g 4 i = nI (txt i)) ∧ rfM g rf
theorem rfM_fr {g g' : Mem} {rf : Option (Nat × Int32 × Nat)} (h : rfM g rf) (e : ∀ k, 11 ≤ k → g' 0 k = g 0 k) : rfM g' rf := by
  unfold rfM at h ⊢
  rw [e 11 (by omega), e 12 (by omega), e 13 (by omega)]
  exact h
section MHIST
variable {g : Mem} {τ : Row} {hn : Nat} {hist : Nat → Row} {kf : Bool} {sn : Row} {tn : Nat} {txt : Nat → Nat} {rf : Option (Nat × Int32 × Nat)}
theorem RM_row {g1 g' : Mem} {τ' : Row} (hR : RM g1 (τ, hn, hist, kf, sn, tn, txt, rf)) (hM : MR g' τ') (hF : F1 g1 g') : RM g' (τ', hn, hist, kf, sn, tn, txt, rf) := by
  obtain ⟨r1, r2, r3, r4, r5, r6, r7, r8, r9⟩ := hR
  have e0 := hF 0 (by decide)
  have e2 := hF 2 (by decide)
  have e3 := hF 3 (by decide)
  have e4 := hF 4 (by decide)
  exact ⟨hM, by rw [e0]; exact r2, by rw [e2]; exact r3, by rw [e0]; exact r4, by rw [e3]; exact r5, by rw [e0]; exact r6, by rw [e0]; exact r7, by rw [e4]; exact r8, rfM_fr r9 (fun k _ => by rw [e0])⟩
/-- the tail of a record: the row laid behind h states -/
theorem M_recT {h : Nat} (hh : h ≤ 3) {hist' : Nat → Row} (r1 : MR g τ) (r2 : g 0 2 = nI h) (r3 : ∀ i, i < h → ∀ k, k < 873 → g 2 (873 * (h - 1 - i) + k) = nI (hist' i k)) : ∃ g', (f_X5_record_L59 (fun g15 => lt1 (m_up g15 0 2 ((g15 0 2) + 1)) fun g16 => (some g16)) fuel0 0 g) = some g' ∧ (∀ q, q ≠ 2 → q ≠ 0 → g' q = g q) ∧ (∀ k, k ≠ 2 → g' 0 k = g 0 k) ∧ g' 0 2 = nI (h + 1) ∧ ∀ i, i < h + 1 → ∀ k, k < 873 → g' 2 (873 * (h + 1 - 1 - i) + k) = nI (push τ hist' i k) := by
  obtain ⟨g', e, h1, h2, h3⟩ := lp_rec (fun g15 => lt1 (m_up g15 0 2 ((g15 0 2) + 1)) fun g16 => (some g16)) hh fuel0 0 g (by omega) (by have := fuel_gt; omega) r2
  refine ⟨_, e.trans (by rw [lt1]), fun q q2 q0 => ?_, fun k hk => ?_, ?_, fun i hi k hk => ?_⟩
  · rw [mu_q q0, h1 q q2]
  · rw [mu_k hk, h1 0 (by decide)]
  · rw [mu_eq, h1 0 (by decide), r2, nI_1]
  · rw [mu_o (by decide)]
    unfold push
    by_cases hi0 : i = 0
    · subst hi0
      rw [if_pos rfl, show h + 1 - 1 - 0 = h from by omega, h3 k (by omega) hk, r1 k hk]
    · have : 873 * (h + 1 - 1 - i) + k < 873 * h := by
        have : 873 * (h + 1 - 1 - i) ≤ 873 * (h - 1) := Nat.mul_le_mul_left _ (by omega)
        have : 873 * h = 873 * (h - 1) + 873 := by omega
        omega
      rw [if_neg hi0, h2 _ (by omega), show h + 1 - 1 - i = h - 1 - (i - 1) from by omega]
      exact r3 (i - 1) (by omega) k hk
theorem M_record (hR : RM g (τ, hn, hist, kf, sn, tn, txt, rf)) (hh : hn ≤ 4) : ∃ g', f_X5_record g = some g' ∧ RM g' (τ, min 4 (hn + 1), push τ hist, kf, sn, tn, txt, rf) := by
  obtain ⟨r1, r2, r3, r4, r5, r6, r7, r8, r9⟩ := hR
  unfold f_X5_record
  rw [if_pos r6, r2]
  by_cases h4 : hn = 4
  · subst h4
    rw [if_pos (by rfl)]
    obtain ⟨g1, e1, a1, _, a3⟩ := lp_shift (fun g13 => lt1 (m_up g13 0 2 ((g13 0 2) - 1)) fun g14 => (f_X5_record_J57 g14)) fuel0 0 g (by omega) (by have := fuel_gt; omega)
    have e2 : g1 0 2 = nI 4 := by rw [a1 0 (by decide)]; exact r2
    obtain ⟨g', e, b1, b2, b3, b4⟩ := M_recT (g := m_up g1 0 2 (nI 3)) (τ := τ) (h := 3) (by omega) (hist' := hist) (fun k hk => by rw [mu_o (by decide), a1 1 (by decide)]; exact r1 k hk) (by rw [mu_eq]) (fun i hi k hk => by
      rw [mu_o (by decide), a3 _ (by omega) (by omega), show 873 * (3 - 1 - i) + k + 873 = 873 * (4 - 1 - i) + k from by omega]
      exact r3 i (by omega) k hk)
    refine ⟨g', ?_, ?_⟩
    · refine Eq.trans e1 ?_
      rw [lt1, e2, z1, pk_sub (by omega)]
      exact e
    · have f : ∀ q, q ≠ 2 → q ≠ 0 → g' q = g q := fun q q2 q0 => by rw [b1 q q2 q0, mu_q q0, a1 q q2]
      have f0 : ∀ k, k ≠ 2 → g' 0 k = g 0 k := fun k hk => by rw [b2 k hk, mu_k hk, a1 0 (by decide)]
      exact ⟨fun k hk => by rw [f 1 (by decide) (by decide)]; exact r1 k hk, b3, b4, by rw [f0 4 (by decide)]; exact r4, by rw [f 3 (by decide) (by decide)]; exact r5, by rw [f0 5 (by decide)]; exact r6, by rw [f0 6 (by decide)]; exact r7, by rw [f 4 (by decide) (by decide)]; exact r8, rfM_fr r9 (fun k hk => f0 k (by omega))⟩
  · rw [if_neg (fun z => h4 (by rw [z4] at z; exact (nI_eq (by omega) (by omega)).mp z))]
    obtain ⟨g', e, b1, b2, b3, b4⟩ := M_recT (h := hn) (by omega) r1 r2 r3
    refine ⟨g', e, ?_⟩
    rw [Nat.min_eq_right (by omega)]
    exact ⟨fun k hk => by rw [b1 1 (by decide) (by decide)]; exact r1 k hk, b3, b4, by rw [b2 4 (by decide)]; exact r4, by rw [b1 3 (by decide) (by decide)]; exact r5, by rw [b2 5 (by decide)]; exact r6, by rw [b2 6 (by decide)]; exact r7, by rw [b1 4 (by decide) (by decide)]; exact r8, rfM_fr r9 (fun k hk => b2 k (by omega))⟩
/-- an act of the reference, on the whole -/
theorem M_act (F : Mem → Option (Int32 × Mem)) (f : Row → Int32 × Row) (hF : MAct F f) (hR : RM g (τ, hn, hist, kf, sn, tn, txt, rf)) (hI : SI (τ, hn, hist, kf, sn, tn, txt, rf)) : ∃ g', F g = some ((o_act f (τ, hn, hist, kf, sn, tn, txt, rf)).1, g') ∧ RM g' (o_act f (τ, hn, hist, kf, sn, tn, txt, rf)).2 := by
  obtain ⟨g1, e1, R1⟩ := M_record hR hI.2.1
  obtain ⟨g', e, n, p⟩ := hF g g1 τ hR.1 hI.1.1 e1 R1.1
  by_cases hneg : (f τ).1 < 0
  · rw [o_act_n hneg]
    refine ⟨g', e, ?_⟩
    rw [n hneg]
    exact hR
  · rw [o_act_p hneg]
    obtain ⟨m, f1⟩ := p hneg
    exact ⟨g', e, RM_row R1 m f1⟩
theorem lp_M_undo (K : Mem → Option (Int32 × Mem)) {h : Nat} (hh : h ≤ 3) : ∀ n j g, j ≤ 873 → 873 - j < n → g 0 2 = nI h → ∃ g', f_X5_undo_L22 K n (nI j) g = K g' ∧ F1 g g' ∧ (∀ k, k < j → g' 1 k = g 1 k) ∧ ∀ k, j ≤ k → k < 873 → g' 1 k = g 2 (873 * h + k) := by
  intro n
  induction n with
  | zero => intro j g _ h; omega
  | succ n ih =>
    intro j g hj hn h0
    rw [f_X5_undo_L22]
    by_cases h6 : j = 873
    · subst h6
      rw [if_pos (by rw [z873]; exact nI_le (by omega) (by omega))]
      exact ⟨g, rfl, F1.rf, fun _ _ => rfl, fun k _ _ => by omega⟩
    · rw [if_neg (by rw [z873]; exact nI_ge (by omega) (by omega)), h0, z873, pk_mul, nI_add, rd_nI (by omega) (by omega), bnd_some, wr_nI (by omega) (by omega), bnd_some, lt1, nI_1]
      obtain ⟨g', e, h1, h2, h3⟩ := ih (j + 1) (m_up g 1 j (g 2 (873 * h + j))) (by omega) (by omega) (by rw [mu_o (by decide)]; exact h0)
      refine ⟨g', e, F1.tr F1.up h1, fun k hk => ?_, fun k hk1 hk2 => ?_⟩
      · rw [h2 k (by omega), mu_k (by omega)]
      · by_cases hk : k = j
        · subst hk
          rw [h2 k (by omega), mu_eq]
        · rw [h3 k (by omega) hk2, mu_o (by decide)]
theorem M_undo (hR : RM g (τ, hn, hist, kf, sn, tn, txt, rf)) (hI : SI (τ, hn, hist, kf, sn, tn, txt, rf)) : ∃ g', f_X5_undo g = some ((o_undo (τ, hn, hist, kf, sn, tn, txt, rf)).1, g') ∧ RM g' (o_undo (τ, hn, hist, kf, sn, tn, txt, rf)).2 := by
  obtain ⟨r1, r2, r3, r4, r5, r6, r7, r8, r9⟩ := id hR
  obtain ⟨i1, i2, i3, i4, i5, i6⟩ := hI
  unfold f_X5_undo
  rw [r2]
  by_cases h : hn = 0
  · subst h
    rw [if_pos nI_0]
    exact ⟨g, rfl, hR⟩
  · have hu : o_undo (τ, hn, hist, kf, sn, tn, txt, rf) = (nI (hn - 1), (hist 0, hn - 1, fun i => hist (i + 1), kf, sn, tn, txt, rf)) := if_neg h
    rw [if_neg (fun z => h ((nI_z (by omega)).mp z)), lt1, z1, pk_sub (by omega), hu]
    obtain ⟨g', e, h1, _, h3⟩ := lp_M_undo (fun g7 => some ((g7 0 2), g7)) (h := hn - 1) (by omega) fuel0 0 (m_up g 0 2 (nI (hn - 1))) (by omega) (by have := fuel_gt; omega) (by rw [mu_eq])
    have e0 := h1 0 (by decide)
    have f0 : ∀ k, k ≠ 2 → g' 0 k = g 0 k := fun k hk => by rw [e0, mu_k hk]
    have f : ∀ q, q ≠ 1 → q ≠ 0 → g' q = g q := fun q q1 q0 => by rw [h1 q q1, mu_q q0]
    refine ⟨g', e.trans (by rw [e0, mu_eq]), fun k hk => ?_, by rw [e0, mu_eq], fun i hi k hk => ?_, by rw [f0 4 (by decide)]; exact r4, by rw [f 3 (by decide) (by decide)]; exact r5, by rw [f0 5 (by decide)]; exact r6, by rw [f0 6 (by decide)]; exact r7, by rw [f 4 (by decide) (by decide)]; exact r8, rfM_fr r9 (fun k hk => f0 k (by omega))⟩
    · rw [h3 k (by omega) hk, mu_o (by decide)]
      exact r3 0 (by omega) k hk
    · rw [f 2 (by decide) (by decide), show hn - 1 - 1 - i = hn - 1 - (i + 1) from by omega]
      exact r3 (i + 1) (by omega) k hk
theorem M_keep (hR : RM g (τ, hn, hist, kf, sn, tn, txt, rf)) (hI : SI (τ, hn, hist, kf, sn, tn, txt, rf)) : ∃ g', f_X5_keep g = some ((o_keep (τ, hn, hist, kf, sn, tn, txt, rf)).1, g') ∧ RM g' (o_keep (τ, hn, hist, kf, sn, tn, txt, rf)).2 := by
  obtain ⟨r1, r2, r3, r4, r5, r6, r7, r8, r9⟩ := id hR
  unfold f_X5_keep
  obtain ⟨g1, e, h1, h3⟩ := M_copies g (o1 := 1) (o2 := 3) (by decide)
  have m : MR (m_up g1 0 4 1) τ := fun k hk => by rw [mu_o (by decide), h1 1 (by decide)]; exact r1 k hk
  rw [e, bnd_some, lt1, M_prefix m hI.1.1, bnd_some]
  have f0 : ∀ k, k ≠ 4 → (m_up g1 0 4 1) 0 k = g 0 k := fun k hk => by rw [mu_k hk, h1 0 (by decide)]
  have f : ∀ q, q ≠ 3 → q ≠ 0 → (m_up g1 0 4 1) q = g q := fun q q1 q0 => by rw [mu_q q0, h1 q q1]
  refine ⟨_, rfl, m, by rw [f0 2 (by decide)]; exact r2, by rw [f 2 (by decide) (by decide)]; exact r3, by rw [mu_eq]; rfl, fun _ k hk => ?_, by rw [f0 5 (by decide)]; exact r6, by rw [f0 6 (by decide)]; exact r7, by rw [f 4 (by decide) (by decide)]; exact r8, rfM_fr r9 (fun k hk => f0 k (by omega))⟩
  rw [mu_o (by decide), h3 k hk]
  exact r1 k hk
theorem M_restore (hR : RM g (τ, hn, hist, kf, sn, tn, txt, rf)) (hI : SI (τ, hn, hist, kf, sn, tn, txt, rf)) : ∃ g', f_X5_restore g = some ((o_restore (τ, hn, hist, kf, sn, tn, txt, rf)).1, g') ∧ RM g' (o_restore (τ, hn, hist, kf, sn, tn, txt, rf)).2 := by
  have r4 := hR.2.2.2.1
  unfold f_X5_restore
  rw [r4]
  cases kf with
  | false =>
    rw [if_pos (show bI false = 0 from rfl)]
    exact ⟨g, rfl, hR⟩
  | true =>
    rw [if_neg (show ¬ bI true = 0 by decide)]
    obtain ⟨g1, e1, R1⟩ := M_record hR hI.2.1
    obtain ⟨g2, e, h1, h3⟩ := M_copies g1 (o1 := 3) (o2 := 1) (by decide)
    have r5 := R1.2.2.2.2.1 rfl
    have m : MR g2 sn := fun k hk => by rw [h3 k hk]; exact r5 k hk
    rw [e1, bnd_some, e, bnd_some, M_prefix m (hI.2.2.2.1 rfl).1, bnd_some]
    exact ⟨g2, rfl, RM_row R1 m h1⟩
theorem M_type (hR : RM g (τ, hn, hist, kf, sn, tn, txt, rf)) (hI : SI (τ, hn, hist, kf, sn, tn, txt, rf)) {c : Nat} (hc : c < 65536) : ∃ g', f_X5_type (nI c) g = some ((o_type c (τ, hn, hist, kf, sn, tn, txt, rf)).1, g') ∧ RM g' (o_type c (τ, hn, hist, kf, sn, tn, txt, rf)).2 := by
  obtain ⟨r1, r2, r3, r4, r5, r6, r7, r8, r9⟩ := id hR
  obtain ⟨i1, i2, i3, i4, i5, i6⟩ := hI
  unfold f_X5_type
  rw [r7]
  by_cases h : tn = 60
  · have hu : o_type c (τ, hn, hist, kf, sn, tn, txt, rf) = (-3, (τ, hn, hist, kf, sn, tn, txt, rf)) := if_pos h
    rw [hu, if_pos (by rw [h]; rfl)]
    exact ⟨g, rfl, hR⟩
  · have hu : o_type c (τ, hn, hist, kf, sn, tn, txt, rf) = (nI (tn + 1), (τ, hn, hist, kf, sn, tn + 1, fun i => if i = tn then c else txt i, rf)) := if_neg h
    rw [hu, if_neg (fun z => h (by rw [z60] at z; exact (nI_eq (by omega) (by omega)).mp z)), nar_c hc, wr_nI (by omega) (by omega), bnd_some, lt1, mu_eq, mu_o (show (0 : Nat) ≠ 4 by decide), r7, nI_1]
    have f0 : ∀ k, k ≠ 6 → (m_up (m_up g 4 tn (nI c)) 0 6 (nI (tn + 1))) 0 k = g 0 k := fun k hk => by rw [mu_k hk, mu_o (by decide)]
    have f : ∀ q, q ≠ 4 → q ≠ 0 → (m_up (m_up g 4 tn (nI c)) 0 6 (nI (tn + 1))) q = g q := fun q q1 q0 => by rw [mu_q q0, mu_q q1]
    refine ⟨_, rfl, fun k hk => by rw [f 1 (by decide) (by decide)]; exact r1 k hk, by rw [f0 2 (by decide)]; exact r2, by rw [f 2 (by decide) (by decide)]; exact r3, by rw [f0 4 (by decide)]; exact r4, by rw [f 3 (by decide) (by decide)]; exact r5, by rw [f0 5 (by decide)]; exact r6, by rw [mu_eq], fun i hi => ?_, rfM_fr r9 (fun k hk => f0 k (by omega))⟩
    rw [mu_o (by decide)]
    by_cases hi0 : i = tn
    · subst hi0
      rw [mu_eq]
      exact congrArg nI (if_pos rfl).symm
    · rw [mu_k hi0, r8 i (by omega)]
      exact congrArg nI (if_neg hi0).symm
theorem M_clear (hR : RM g (τ, hn, hist, kf, sn, tn, txt, rf)) : ∃ g', f_X5_clearText g = some ((o_clear (τ, hn, hist, kf, sn, tn, txt, rf)).1, g') ∧ RM g' (o_clear (τ, hn, hist, kf, sn, tn, txt, rf)).2 := by
  obtain ⟨r1, r2, r3, r4, r5, r6, r7, r8, r9⟩ := id hR
  unfold f_X5_clearText
  rw [r7, lt1, lt1]
  have f0 : ∀ k, k ≠ 6 → (m_up g 0 6 0) 0 k = g 0 k := fun k hk => mu_k hk
  have f : ∀ q, q ≠ 0 → (m_up g 0 6 0) q = g q := fun q q0 => mu_q q0
  exact ⟨_, rfl, fun k hk => by rw [f 1 (by decide)]; exact r1 k hk, by rw [f0 2 (by decide)]; exact r2, by rw [f 2 (by decide)]; exact r3, by rw [f0 4 (by decide)]; exact r4, by rw [f 3 (by decide)]; exact r5, by rw [f0 5 (by decide)]; exact r6, by rw [mu_eq]; rfl, fun i hi => absurd hi (Nat.not_lt_zero i), rfM_fr r9 (fun k hk => f0 k (by omega))⟩
theorem M_refusal (hR : RM g (τ, hn, hist, kf, sn, tn, txt, rf)) (a : Int32) : f_X5_refusal a g = o_refusal a (τ, hn, hist, kf, sn, tn, txt, rf) := by
  have r9 := hR.2.2.2.2.2.2.2.2
  unfold f_X5_refusal
  rw [in_eq]
  have e : (0 ≤ a) = ¬ (a < 0) := propext Int32.not_lt.symm
  cases rf with
  | none =>
    have e1 : g 0 11 = -1 := r9
    show _ = if a < 0 then (-2 : Int32) else if a ≤ 2 then -5 else -2
    rw [e1]
    by_cases h1 : a < 0
    · simp [e, h1]
    · by_cases h2 : a ≤ 2
      · simp [e, h1, h2]
      · simp [e, h1, h2]
  | some q =>
    obtain ⟨k, e', q⟩ := q
    obtain ⟨q1, qk, q2, q3⟩ := r9
    show _ = if a < 0 then (-2 : Int32) else if a ≤ 2 then (if a = 0 then nI k else if a = 1 then e' else nI q) else -2
    have hk : (0 : Int32) ≤ nI k := Int32.not_lt.mp (nI_pos (by omega))
    rw [q1, q2, q3, if_pos hk]
    by_cases h1 : a < 0
    · simp [e, h1]
    · by_cases h2 : a ≤ 2
      · simp [e, h1, h2]
      · simp [e, h1, h2]
end MHIST
