/-! the reference reads the orders of a text -/
def TM (g : Mem) (tn : Nat) (txt : Nat → Nat) : Prop := g 0 6 = nI tn ∧ tn ≤ 60 ∧ (∀ i, i < tn → g 4 i = nI (txt i)) ∧ ∀ i, i < tn → txt i < 65536
theorem TM_fr {g g' : Mem} {tn : Nat} {txt : Nat → Nat} (h : TM g tn txt) (e : g' 0 6 = g 0 6) (e2 : g' 4 = g 4) : TM g' tn txt := by
  unfold TM at h ⊢
  rw [e, e2]
  exact h
theorem M_btw {g : Mem} {tn : Nat} {txt : Nat → Nat} (h : TM g tn txt) {i a b : Nat} (hi : i < 100) (h8 : g 0 8 = nI i) (ha : 1 ≤ a) (ha2 : a < 100) (hb : b < 100) : f_X5_isBetween (nI a) (nI b) g = some (decide (a ≤ tx tn txt i ∧ tx tn txt i ≤ b)) := by
  obtain ⟨h1, h2, h3, h4⟩ := h
  unfold f_X5_isBetween tx
  rw [h1, h8]
  by_cases e : i < tn
  · have hb2 := h4 i e
    rw [if_neg (nI_ge e (by omega)), rd_nI (by omega) (by omega), bnd_some, h3 i e, if_pos e, in_eq]
    by_cases q : a ≤ txt i ∧ txt i ≤ b
    · rw [decide_eq_true q, decide_eq_true (nI_le q.1 (by omega)), decide_eq_true (nI_le q.2 (by omega))]; rfl
    · rw [decide_eq_false q]
      by_cases q1 : a ≤ txt i
      · rw [decide_eq_false (nI_ge (show b < txt i by omega) (by omega)), Bool.and_false]; rfl
      · rw [decide_eq_false (nI_ge (show txt i < a by omega) (by omega))]; rfl
  · rw [if_pos (nI_le (by omega) (by omega)), if_neg e, decide_eq_false (by omega)]
theorem M_sg {g : Mem} {tn : Nat} {txt : Nat → Nat} (h : TM g tn txt) {i : Nat} (h8 : g 0 8 = nI i) (hd : tx tn txt i ≠ 0) : rd g 4 60 (g 0 8) = some (nI (tx tn txt i)) := by
  obtain ⟨h1, h2, h3, h4⟩ := h
  have hin := tx_in hd
  rw [h8, rd_nI (by omega) (by omega), h3 i hin]
  unfold tx
  rw [if_pos hin]
def MD (g g' : Mem) (e i t : Nat) (N : Nat → Nat) : Prop := (∀ q, q ≠ 0 → q ≠ 5 → g' q = g q) ∧ (∀ k, k ≠ 8 → g' 0 k = g 0 k) ∧ g' 0 8 = nI i ∧ (∀ k, k ≤ 5 * e → g' 5 k = g 5 k) ∧ g' 5 (5 * e + 4) = g 5 (5 * e + 4) ∧ ∀ k, k < t → g' 5 (5 * e + 1 + k) = nI (N k)
section MDS
variable {g g1 : Mem} {tn : Nat} {txt : Nat → Nat} {e i t : Nat} {N : Nat → Nat}
theorem MD_at (h : MD g g1 e i t N) (j : Nat) : MD g (m_up g1 0 8 (nI j)) e j t N := by
  obtain ⟨h1, h2, h3, h4, h5, h6⟩ := h
  exact ⟨fun q a b => (mu_q a).trans (h1 q a b), fun k a => (mu_k a).trans (h2 k a), mu_eq .., fun k hk => (mu_o (by decide)).trans (h4 k hk), (mu_o (by decide)).trans h5, fun k hk => (mu_o (by decide)).trans (h6 k hk)⟩
theorem MD_wr (h : MD g g1 e i t N) (he : e ≤ 20) (hg : g 0 10 = nI e) (ht : t < 3) (v : Nat) : ∃ g2, ((wr g1 5 155 ((5 * (g1 0 10)) + nI (t + 1)) (nI v)).bind fun g38 => (some (true, g38))) = some (true, g2) ∧ MD g g2 e i (t + 1) (nup N t v) := by
  obtain ⟨h1, h2, h3, h4, h5, h6⟩ := h
  rw [h2 10 (by decide), hg, z5, pk_mul, nI_add, wr_nI (by omega) (by omega), bnd_some]
  refine ⟨_, rfl, fun q a b => (mu_q b).trans (h1 q a b), fun k a => (mu_o (by decide)).trans (h2 k a), (mu_o (by decide)).trans h3, fun k hk => (mu_k (by omega)).trans (h4 k hk), (mu_k (by omega)).trans h5, fun k hk => ?_⟩
  unfold nup
  by_cases q : k = t
  · subst q
    rw [if_pos rfl, show 5 * e + 1 + k = 5 * e + (k + 1) from by omega, mu_eq]
  · rw [if_neg q, mu_k (by omega)]
    exact h6 k (by omega)
theorem MD_T (hT : TM g tn txt) (h : MD g g1 e i t N) : TM g1 tn txt := TM_fr hT (h.2.1 6 (by decide)) (h.1 4 (by decide) (by decide))
theorem MJ_dg (hT : TM g tn txt) (h : MD g g1 e i t N) (he : e ≤ 20) (hg : g 0 10 = nI e) (ht : t < 3) (hi : i < 100) {m : Nat} (hm1 : 1 ≤ m) (hm : m ≤ 9) (hd : 48 ≤ tx tn txt i ∧ tx tn txt i < 48 + (m + 1)) : ∃ g2, f_X5_takes_J28 (nI (t + 1)) (nI m) g1 = some (true, g2) ∧ MD g g2 e (i + 1) (t + 1) (nup N t (tx tn txt i - 48)) := by
  have hT1 := MD_T hT h
  have h8 := h.2.2.1
  obtain ⟨n, hn⟩ : ∃ n, fuel0 = n + 1 := ⟨fuel0 - 1, by have := fuel_gt; omega⟩
  have hb := M_btw hT1 (a := 48) (b := 48 + m) (by omega) h8 (by decide) (by decide) (by omega)
  rw [decide_eq_true (by omega)] at hb
  obtain ⟨g2, e2, r2⟩ := MD_wr (MD_at h (i + 1)) he hg ht (tx tn txt i - 48)
  refine ⟨g2, ?_, r2⟩
  rw [← e2]
  unfold f_X5_takes_J28
  rw [if_neg (by rw [z0]; exact nI_ge (by omega) (by omega)), z48, nI_add, hb, bnd_some, if_pos rfl, M_sg hT1 h8 (by omega), bnd_some, pk_sub hd.1, lt1, lt1, h8, nI_1, hn, f_X5_takes_L87, if_neg (by decide), if_neg (fun z => by have := (nI_z (by omega)).mp z; omega)]
theorem MJ_dg_no (hT : TM g tn txt) (h : MD g g1 e i t N) (hi : i < 100) {m : Nat} {v : Int32} (hm1 : 1 ≤ m) (hm : m ≤ 9) (hd : ¬ (48 ≤ tx tn txt i ∧ tx tn txt i < 48 + (m + 1))) : f_X5_takes_J28 v (nI m) g1 = some (false, g1) := by
  have hT1 := MD_T hT h
  have h8 := h.2.2.1
  have hb := M_btw hT1 (a := 48) (b := 48 + m) (by omega) h8 (by decide) (by decide) (by omega)
  rw [decide_eq_false (by omega)] at hb
  unfold f_X5_takes_J28
  rw [if_neg (by rw [z0]; exact nI_ge (by omega) (by omega)), z48, nI_add, hb, bnd_some, if_neg (by decide)]
theorem lp_M_num (hT : TM g tn txt) (K : Int32 → Mem → Option (Bool × Mem)) {v : Int32} (hi : i < 90) : ∀ f c n g1, c + f = 3 → 1 ≤ c → f < n → MD g g1 e (i + c) t N → ∃ g2, f_X5_takes_L87 K v 0 n (nI (nmV (tx tn txt) i c)) (nI (c - 1)) g1 = K (nI (nmV (tx tn txt) i (nmE (tx tn txt) i f c))) g2 ∧ MD g g2 e (i + nmE (tx tn txt) i f c) t N := by
  intro f
  induction f with
  | zero =>
    intro c n g1 hc hc1 hn h
    obtain ⟨n, rfl⟩ : ∃ M, n = M + 1 := ⟨n - 1, by omega⟩
    rw [f_X5_takes_L87, if_pos (by rw [z2]; exact nI_le (by omega) (by omega))]
    exact ⟨g1, rfl, h⟩
  | succ f ih =>
    intro c n g1 hc hc1 hn h
    obtain ⟨n, rfl⟩ : ∃ M, n = M + 1 := ⟨n - 1, by omega⟩
    have hT1 := MD_T hT h
    have h8 := h.2.2.1
    have hb := M_btw hT1 (a := 48) (b := 57) (by omega) h8 (by decide) (by decide) (by decide)
    have hdec : decide (48 ≤ tx tn txt (i + c) ∧ tx tn txt (i + c) ≤ 57) = isD (tx tn txt (i + c)) := by unfold isD; rw [Bool.decide_and]
    rw [hdec] at hb
    rw [f_X5_takes_L87, if_neg (by rw [z2]; exact nI_ge (by omega) (by omega)), if_pos (c := (0 : Int32) = 0) rfl, z48, z57, hb, bnd_some, nmE]
    cases hd : isD (tx tn txt (i + c)) with
    | false =>
      rw [if_neg (by decide), if_neg (by decide)]
      exact ⟨g1, rfl, h⟩
    | true =>
      have hd2 : 48 ≤ tx tn txt (i + c) := by
        unfold isD at hd
        simp only [Bool.and_eq_true, decide_eq_true_eq] at hd
        exact hd.1
      have hv : nI (10 * nmV (tx tn txt) i c + tx tn txt (i + c)) - nI 48 = nI (nmV (tx tn txt) i (c + 1)) := by
        rw [pk_sub (by omega), nmV]
        congr 1
        omega
      rw [if_pos rfl, if_pos rfl, M_sg hT1 h8 (by omega), bnd_some, z10, pk_mul, nI_add, hv, lt1, lt1, lt1, h8, nI_1, nI_1]
      obtain ⟨g2, e2, r2⟩ := ih (c + 1) n (m_up g1 0 8 (nI (i + c + 1))) (by omega) (by omega) (by omega) (MD_at h (i + (c + 1)))
      rw [show c - 1 + 1 = c + 1 - 1 from by omega]
      exact ⟨g2, e2, r2⟩
theorem nmL_d {T : Nat → Nat} {i : Nat} : ¬ nmL T i = 0 ↔ 49 ≤ T i ∧ T i ≤ 57 := by
  unfold nmL
  by_cases h : T i = 48
  · rw [if_pos h]; omega
  · rw [if_neg h]
    have h0 : nmE T i 3 0 = if isD (T (i + 0)) then nmE T i 2 1 else 0 := rfl
    rw [h0, Nat.add_zero]
    cases hd : isD (T i) with
    | false =>
      unfold isD at hd
      simp only [Bool.and_eq_false_iff, decide_eq_false_iff_not] at hd
      rw [if_neg (by decide)]
      omega
    | true =>
      unfold isD at hd
      simp only [Bool.and_eq_true, decide_eq_true_eq] at hd
      rw [if_pos rfl]
      have : 1 ≤ nmE T i 2 1 := by
        have : ∀ f c, c ≤ nmE T i f c := by
          intro f
          induction f with
          | zero => intro c; exact Nat.le_refl _
          | succ f ih =>
            intro c
            rw [nmE]
            split
            · have := ih (c + 1); omega
            · omega
        exact this 2 1
      omega
theorem MJ_nm (hT : TM g tn txt) (h : MD g g1 e i t N) (he : e ≤ 20) (hg : g 0 10 = nI e) (ht : t < 3) (hi : i < 90) (hd : ¬ nmL (tx tn txt) i = 0) : ∃ g2, f_X5_takes_J28 (nI (t + 1)) 0 g1 = some (true, g2) ∧ MD g g2 e (i + nmL (tx tn txt) i) (t + 1) (nup N t (nmV (tx tn txt) i (nmL (tx tn txt) i))) := by
  have hT1 := MD_T hT h
  have h8 := h.2.2.1
  have hq := nmL_d.mp hd
  have hL : nmL (tx tn txt) i = nmE (tx tn txt) i 2 1 := by
    unfold nmL
    rw [if_neg (by omega)]
    have h0 : nmE (tx tn txt) i 3 0 = if isD (tx tn txt (i + 0)) then nmE (tx tn txt) i 2 1 else 0 := rfl
    rw [h0, Nat.add_zero, if_pos]
    unfold isD
    rw [decide_eq_true (show 48 ≤ tx tn txt i by omega), decide_eq_true hq.2]; rfl
  have hb := M_btw hT1 (a := 49) (b := 57) (by omega) h8 (by decide) (by decide) (by decide)
  rw [decide_eq_true hq] at hb
  have hv1 : nmV (tx tn txt) i 1 = tx tn txt i - 48 := by
    show 10 * 0 + (tx tn txt (i + 0) - 48) = _
    rw [Nat.add_zero, Nat.mul_zero, Nat.zero_add]
  obtain ⟨g2, e2, r2⟩ := lp_M_num hT (fun x36 g37 => (wr g37 5 155 ((5 * (g37 0 10)) + nI (t + 1)) x36).bind fun g38 => (some (true, g38))) (v := nI (t + 1)) hi 2 1 fuel0 _ (by omega) (by omega) (by have := fuel_gt; omega) (MD_at h (i + 1))
  obtain ⟨g3, e3, r3⟩ := MD_wr r2 he hg ht (nmV (tx tn txt) i (nmE (tx tn txt) i 2 1))
  rw [hL]
  refine ⟨g3, ?_, r3⟩
  rw [← e3]
  refine Eq.trans ?_ e2
  unfold f_X5_takes_J28
  rw [if_pos (show (0 : Int32) ≤ 0 by decide), show (49 : Int32) = nI 49 from rfl, z57, hb, bnd_some, if_pos rfl, M_sg hT1 h8 (by omega), bnd_some, z48, pk_sub (by omega), lt1, lt1, h8, nI_1, hv1]
  rfl
theorem MJ_nm_no (hT : TM g tn txt) (h : MD g g1 e i t N) (hi : i < 90) {v : Int32} (hd : nmL (tx tn txt) i = 0) : f_X5_takes_J28 v 0 g1 = some (false, g1) := by
  have hT1 := MD_T hT h
  have h8 := h.2.2.1
  have hq : ¬ (49 ≤ tx tn txt i ∧ tx tn txt i ≤ 57) := fun z => nmL_d.mpr z hd
  have hb := M_btw hT1 (a := 49) (b := 57) (by omega) h8 (by decide) (by decide) (by decide)
  rw [decide_eq_false hq] at hb
  unfold f_X5_takes_J28
  rw [if_pos (show (0 : Int32) ≤ 0 by decide), show (49 : Int32) = nI 49 from rfl, z57, hb, bnd_some, if_neg (by decide)]
theorem takes_1 (a2 : Int32) (g : Mem) : f_X5_takes 1 a2 g = f_X5_takes_J28 1 a2 g := by
  unfold f_X5_takes f_X5_takes_J28
  rw [if_pos (c := (1 : Int32) ≤ 1) (by decide)]
theorem takes_c (a1 a2 : Int32) (g : Mem) (h : ¬ a1 ≤ 1) : f_X5_takes a1 a2 g = (f_X5_isBetween 44 44 g).bind fun x27 => ((if x27 then lt1 (m_up g 0 8 ((g 0 8) + 1)) fun g29 => (f_X5_takes_J28 a1 a2 g29) else some (false, g))) := by
  unfold f_X5_takes
  rw [if_neg h]
end MDS
