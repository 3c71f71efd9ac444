/-! the class reads the whole text -/
def OR (g : Mem) (s i L : Nat) (F : Option (Bool × Mem)) (R : PR) : Prop := ∃ g', F = some (R.1, g') ∧ (∀ q, q < 89 ∨ 92 < q → g' q = g q) ∧ (∀ k, k < s → g' 90 k = g 90 k ∧ g' 91 k = g 91 k) ∧ (∀ k, k < 3 * s → g' 92 k = g 92 k) ∧ g' 89 3 = nI R.2.1 ∧ (R.1 = true → g' 89 5 = nI (s + 1) ∧ g' 90 s = nI L ∧ g' 91 s = nI i ∧ NC g' s (wd L) R)
def hdr (g : Mem) (s i L : Nat) : Mem := m_up (m_up (m_up (m_up g 90 s (nI L)) 91 s (nI i)) 89 3 (nI (i + 1))) 89 4 (nI 0)
section ORD
variable {g : Mem} {tn : Nat} {txt : Nat → Nat} {s i : Nat}
theorem hdr_q {L q : Nat} (h1 : q ≠ 89) (h2 : q ≠ 90) (h3 : q ≠ 91) : hdr g s i L q = g q := by
  unfold hdr
  rw [mu_q h1, mu_q h1, mu_q h3, mu_q h2]
theorem hdr_5 {L : Nat} : hdr g s i L 89 5 = g 89 5 := by
  unfold hdr
  rw [mu_k (by decide), mu_k (by decide), mu_o (by decide), mu_o (by decide)]
theorem hdr_RD {L : Nat} : RD (hdr g s i L) (hdr g s i L) s (i + 1) 0 (fun _ => 0) := by
  refine ⟨fun _ _ _ => rfl, fun _ _ _ => rfl, ?_, ?_, fun _ _ => rfl, fun k hk => absurd hk (Nat.not_lt_zero k)⟩
  · unfold hdr
    rw [mu_k (by decide), mu_eq]
  · unfold hdr
    rw [mu_eq]
theorem QO_OR {L w : Nat} {F : Option (Bool × Mem)} {R : PR} (hw : w = wd L) (h : QO (hdr g s i L) s w F R) : OR g s i L F R := by
  obtain ⟨g', e, h1, h2, h3, h4, h5⟩ := h
  subst hw
  refine ⟨g', e, fun q hq => (h1 q (by omega) (by omega)).trans (hdr_q (by omega) (by omega) (by omega)), fun k hk => ⟨?_, ?_⟩, fun k hk => (h2 k hk).trans (by rw [hdr_q (by decide) (by decide) (by decide)]), h3, fun q => ⟨(h5 q).1, ?_, ?_, (h5 q).2⟩⟩
  · rw [h1 90 (by decide) (by decide)]
    unfold hdr
    rw [mu_o (by decide), mu_o (by decide), mu_o (by decide), mu_k (by omega)]
  · rw [h1 91 (by decide) (by decide)]
    unfold hdr
    rw [mu_o (by decide), mu_o (by decide), mu_k (by omega), mu_o (by decide)]
  · rw [h1 90 (by decide) (by decide)]
    unfold hdr
    rw [mu_o (by decide), mu_o (by decide), mu_o (by decide), mu_eq]
  · rw [h1 91 (by decide) (by decide)]
    unfold hdr
    rw [mu_o (by decide), mu_o (by decide), mu_eq]
theorem C_hdr (hT : TC g tn txt) (hs : s < 20) (hi : i ≤ tn) (h3 : g 89 3 = nI i) (h5 : g 89 5 = nI s) {L idx : Nat} (hL : tx tn txt i = L) (hp : f_X1_partsOf (nI L) = idx) (hv : decide (sLen idx = 0) = false) : f_X1_readOrder g = f_X1_readOrder_L73 KO idx fuel0 0 (hdr g s i L) := by
  have h60 := hT.2.1
  unfold f_X1_readOrder
  rw [h3, C_sign hT (by omega), bnd_some, hL, hp, hv, if_neg (by decide), h5, if_pos (by rw [z20]; exact nI_lt hs (by omega)), wr_nI (by omega) (by omega), bnd_some, mu_o (show (89 : Nat) ≠ 90 by decide), mu_o (show (89 : Nat) ≠ 90 by decide), h5, h3, wr_nI (by omega) (by omega), bnd_some, lt1, lt1, mu_o (show (89 : Nat) ≠ 91 by decide), mu_o (show (89 : Nat) ≠ 90 by decide), h3, nI_1]
  rfl
theorem pO_5 {L : Nat} (h : L < 2 ^ 31) (a : L ≠ 97) (b : L ≠ 100) (c : L ≠ 110) (d : L ≠ 117) (e : L ≠ 118) (f : L ≠ 121) : f_X1_partsOf (nI L) = 5 := by
  unfold f_X1_partsOf
  have n : ∀ (k : Nat) (v : Int32), v = nI k → k < 2 ^ 31 → L ≠ k → ¬ nI L = v := fun k v hv hk q z => q ((nI_eq h hk).mp (z.trans hv))
  rw [if_neg (n 97 97 rfl (by decide) a), if_neg (n 100 100 rfl (by decide) b), if_neg (n 110 110 rfl (by decide) c), if_neg (n 117 117 rfl (by decide) d), if_neg (n 118 118 rfl (by decide) e), if_neg (n 121 121 rfl (by decide) f)]
theorem C_ord (hT : TC g tn txt) (hs : s < 20) (hi : i ≤ tn) (h3 : g 89 3 = nI i) (h5 : g 89 5 = nI s) : OR g s i (tx tn txt i) (f_X1_readOrder g) (P_ord (tx tn txt) i) := by
  have h60 := hT.2.1
  have hb := tx_lt hT.2.2.2 i
  have hT4 : ∀ L, TC (hdr g s i L) tn txt := fun L => TC_fr hT (hdr_q (by decide) (by decide) (by decide)) (hdr_q (by decide) (by decide) (by decide))
  have h54 : ∀ L, hdr g s i L 89 5 = nI s := fun L => hdr_5.trans h5
  have hin : tx tn txt i ≠ 0 → i + 1 ≤ tn := fun q => by have := tx_in q; omega
  unfold P_ord
  generalize hL : tx tn txt i = L at hb hin ⊢
  by_cases e1 : L = 110
  · subst e1
    rw [if_pos rfl, C_hdr hT hs hi h3 h5 hL (idx := 0) (by decide) (by decide)]
    exact QO_OR rfl (bo_n (hT4 _) hdr_RD hs (h54 _) (hin (by decide)))
  rw [if_neg e1]
  by_cases e2 : L = 121
  · subst e2
    rw [if_pos rfl, C_hdr hT hs hi h3 h5 hL (idx := 1) (by decide) (by decide)]
    exact QO_OR rfl (bo_y (hT4 _) hdr_RD hs (h54 _) (hin (by decide)))
  rw [if_neg e2]
  by_cases e3 : L = 118
  · subst e3
    rw [if_pos rfl, C_hdr hT hs hi h3 h5 hL (idx := 2) (by decide) (by decide)]
    exact QO_OR rfl (bo_v (hT4 _) hdr_RD hs (h54 _) (hin (by decide)))
  rw [if_neg e3]
  by_cases e4 : L = 97
  · subst e4
    rw [if_pos rfl, C_hdr hT hs hi h3 h5 hL (idx := 3) (by decide) (by decide)]
    exact QO_OR rfl (bo_a (hT4 _) hdr_RD hs (h54 _) (hin (by decide)))
  rw [if_neg e4]
  by_cases e5 : L = 100
  · subst e5
    rw [if_pos (Or.inl rfl), C_hdr hT hs hi h3 h5 hL (idx := 4) (by decide) (by decide)]
    exact QO_OR rfl (bo_u (hT4 _) hdr_RD hs (h54 _) (hin (by decide)))
  by_cases e6 : L = 117
  · subst e6
    rw [if_pos (Or.inr rfl), C_hdr hT hs hi h3 h5 hL (idx := 4) (by decide) (by decide)]
    exact QO_OR rfl (bo_u (hT4 _) hdr_RD hs (h54 _) (hin (by decide)))
  rw [if_neg (fun z => z.elim e5 e6)]
  have e0 : f_X1_readOrder g = some (false, g) := by
    unfold f_X1_readOrder
    rw [h3, C_sign hT (by omega), bnd_some, hL, pO_5 (by omega) e4 e5 e1 e6 e3 e2, if_pos (by decide)]
  rw [e0]
  exact ⟨g, rfl, fun _ _ => rfl, fun _ _ => ⟨rfl, rfl⟩, fun _ _ => rfl, h3, fun q => absurd q (by show ¬ (false = true); decide)⟩
end ORD
/-! positions stay in the text -/
theorem P_dg_le {tn : Nat} {txt : Nat → Nat} {m i : Nat} {k : Nat → Nat → PR} (hi : i ≤ tn) (h : ∀ v, i + 1 ≤ tn → (k v (i + 1)).2.1 ≤ tn) : (P_dg (tx tn txt) m i k).2.1 ≤ tn := by
  unfold P_dg
  by_cases hd : 48 ≤ tx tn txt i ∧ tx tn txt i < 48 + m
  · rw [if_pos hd]
    have := tx_in (tn := tn) (txt := txt) (i := i) (by omega)
    exact h _ (by omega)
  · rw [if_neg hd]; exact hi
theorem P_cm_le {tn : Nat} {txt : Nat → Nat} {i : Nat} {k : Nat → PR} (hi : i ≤ tn) (h : i + 1 ≤ tn → (k (i + 1)).2.1 ≤ tn) : (P_cm (tx tn txt) i k).2.1 ≤ tn := by
  unfold P_cm
  by_cases hd : tx tn txt i = 44
  · rw [if_pos hd]
    have := tx_in (tn := tn) (txt := txt) (i := i) (by omega)
    exact h (by omega)
  · rw [if_neg hd]; exact hi
theorem P_nm_le {tn : Nat} {txt : Nat → Nat} {i : Nat} {k : Nat → Nat → PR} (hi : i ≤ tn) (h : ∀ v j, j ≤ tn → (k v j).2.1 ≤ tn) : (P_nm (tx tn txt) i k).2.1 ≤ tn := by
  unfold P_nm
  by_cases hd : nmL (tx tn txt) i = 0
  · rw [if_pos hd]; exact hi
  · rw [if_neg hd]
    exact h _ _ (nmL_in hd)
theorem P_ord_le {tn : Nat} {txt : Nat → Nat} {i : Nat} (hi : i ≤ tn) : (P_ord (tx tn txt) i).2.1 ≤ tn := by
  unfold P_ord
  have hin : tx tn txt i ≠ 0 → i + 1 ≤ tn := fun q => by have := tx_in q; omega
  by_cases e1 : tx tn txt i = 110
  · rw [if_pos e1]
    exact P_dg_le (hin (by omega)) (fun v h => h)
  rw [if_neg e1]
  by_cases e2 : tx tn txt i = 121
  · rw [if_pos e2]
    exact P_dg_le (hin (by omega)) (fun v h => P_cm_le h (fun h => P_dg_le h (fun v h => h)))
  rw [if_neg e2]
  by_cases e3 : tx tn txt i = 118
  · rw [if_pos e3]
    exact P_dg_le (hin (by omega)) (fun v h => P_cm_le h (fun h => P_nm_le h (fun v j h => P_cm_le h (fun h => P_nm_le h (fun v j h => h)))))
  rw [if_neg e3]
  by_cases e4 : tx tn txt i = 97
  · rw [if_pos e4]
    exact P_dg_le (hin (by omega)) (fun v h => P_cm_le h (fun h => P_nm_le h (fun v j h => P_cm_le h (fun h => P_dg_le h (fun v h => h)))))
  rw [if_neg e4]
  by_cases e5 : tx tn txt i = 100 ∨ tx tn txt i = 117
  · rw [if_pos e5]
    exact P_dg_le (hin (by omega)) (fun v h => h)
  · rw [if_neg e5]; exact hi
def st (T : Nat → Nat) : Nat → Nat
  | 0 => 0
  | e + 1 => (P_ord T (st T e)).2.1 + 1
def P_run (T : Nat → Nat) (tn : Nat) : Nat → Nat → Bool × Nat
  | 0, e => (false, st T e)
  | n + 1, e => if (P_ord T (st T e)).1 = true then (if (P_ord T (st T e)).2.1 = tn then (true, e + 1) else if T (P_ord T (st T e)).2.1 = 59 then P_run T tn n (e + 1) else (false, (P_ord T (st T e)).2.1)) else (false, (P_ord T (st T e)).2.1)
def OS (T : Nat → Nat) (g : Mem) (m : Nat) : Prop := ∀ k, k < m → g 90 k = nI (T (st T k)) ∧ g 91 k = nI (st T k) ∧ NC g k (wd (T (st T k))) (P_ord T (st T k)) ∧ (P_ord T (st T k)).1 = true ∧ st T k ≤ 60
theorem nf (x : Nat) : ¬ ((false, x) : Bool × Nat).1 = true := by show ¬ (false = true); decide
theorem z59 : (59 : Int32) = nI 59 := rfl
theorem lp_C_read {tn : Nat} {txt : Nat → Nat} : ∀ n e N g, e + n = 20 → n < N → TC g tn txt → g 89 3 = nI (st (tx tn txt) e) → g 89 5 = nI e → OS (tx tn txt) g e → st (tx tn txt) e ≤ tn → ∃ g', f_X1_read_L12 (fun g12 => some ((g12 89 3), g12)) N (nI e) g = some (if (P_run (tx tn txt) tn n e).1 = true then -1 else nI (P_run (tx tn txt) tn n e).2, g') ∧ (∀ q, q < 89 ∨ 92 < q → g' q = g q) ∧ ((P_run (tx tn txt) tn n e).1 = true → (P_run (tx tn txt) tn n e).2 ≤ 20 ∧ g' 89 5 = nI (P_run (tx tn txt) tn n e).2 ∧ OS (tx tn txt) g' (P_run (tx tn txt) tn n e).2) := by
  intro n
  induction n with
  | zero =>
    intro e N g he hN hT h3 h5 hO hst
    obtain ⟨N, rfl⟩ : ∃ M, N = M + 1 := ⟨N - 1, by omega⟩
    have : e = 20 := by omega
    subst this
    rw [f_X1_read_L12, if_pos (by decide), h3, P_run, if_neg (nf _)]
    exact ⟨g, rfl, fun _ _ => rfl, fun q => absurd q (nf _)⟩
  | succ n ih =>
    intro e N g he hN hT h3 h5 hO hst
    obtain ⟨N, rfl⟩ : ∃ M, N = M + 1 := ⟨N - 1, by omega⟩
    have h60 := hT.2.1
    have hle := P_ord_le (txt := txt) hst
    obtain ⟨g5, e5, f1, f2, f3, f4, f5⟩ := C_ord hT (s := e) (by omega) hst h3 h5
    have hT5 : TC g5 tn txt := TC_fr hT (f1 87 (by omega)) (f1 88 (by omega))
    rw [f_X1_read_L12, if_neg (by rw [z20]; exact nI_ge (by omega) (by omega)), e5, bd2_some, P_run]
    by_cases q1 : (P_ord (tx tn txt) (st (tx tn txt) e)).1 = true
    · obtain ⟨p1, p2, p3, p4⟩ := f5 q1
      have hO5 : OS (tx tn txt) g5 (e + 1) := by
        intro k hk
        by_cases hk2 : k = e
        · subst hk2
          exact ⟨p2, p3, p4, q1, by omega⟩
        · obtain ⟨o1, o2, o3, o4, o5⟩ := hO k (by omega)
          refine ⟨(f2 k (by omega)).1.trans o1, (f2 k (by omega)).2.trans o2, ⟨?_, fun z => ?_, fun z => ?_⟩, o4, o5⟩
          · rw [f3 _ (by omega)]; exact o3.1
          · rw [f3 _ (by omega)]; exact o3.2.1 z
          · rw [f3 _ (by omega)]; exact o3.2.2 z
      rw [if_pos q1, if_pos q1, f4, hT5.1]
      by_cases q2 : (P_ord (tx tn txt) (st (tx tn txt) e)).2.1 = tn
      · rw [if_pos (by rw [q2]), if_pos q2, if_pos rfl]
        exact ⟨g5, rfl, f1, fun _ => ⟨by show e + 1 ≤ 20; omega, p1, hO5⟩⟩
      · rw [if_neg (fun z => q2 ((nI_eq (by omega) (by omega)).mp z)), if_neg q2, C_sign hT5 (by omega), bnd_some]
        have hb := tx_lt hT.2.2.2 (P_ord (tx tn txt) (st (tx tn txt) e)).2.1
        by_cases q3 : tx tn txt (P_ord (tx tn txt) (st (tx tn txt) e)).2.1 = 59
        · have hin := tx_in (tn := tn) (txt := txt) (i := (P_ord (tx tn txt) (st (tx tn txt) e)).2.1) (by omega)
          rw [if_pos (by rw [q3]; rfl), if_pos q3, lt1, lt1, nI_1, nI_1]
          obtain ⟨g', e', k1, k2⟩ := ih (e + 1) N (m_up g5 89 3 (nI ((P_ord (tx tn txt) (st (tx tn txt) e)).2.1 + 1))) (by omega) (by omega) (TC_fr hT5 (mu_q (by decide)) (mu_q (by decide))) (mu_eq ..) ((mu_k (by decide)).trans p1) (fun k hk => by
            obtain ⟨o1, o2, o3, o4⟩ := hO5 k hk
            exact ⟨(mu_o (by decide)).trans o1, (mu_o (by decide)).trans o2, ⟨(mu_o (by decide)).trans o3.1, fun z => (mu_o (by decide)).trans (o3.2.1 z), fun z => (mu_o (by decide)).trans (o3.2.2 z)⟩, o4⟩) (by show _ + 1 ≤ tn; omega)
          exact ⟨g', e', fun q hq => by rw [k1 q hq, mu_q (by omega), f1 q hq], k2⟩
        · rw [if_neg (fun z => q3 (by rw [z59] at z; exact (nI_eq (by omega) (by omega)).mp z)), if_neg q3, if_neg (nf _)]
          exact ⟨g5, rfl, f1, fun q => absurd q (nf _)⟩
    · have hb : (P_ord (tx tn txt) (st (tx tn txt) e)).1 = false := by
        cases hh : (P_ord (tx tn txt) (st (tx tn txt) e)).1 with
        | false => rfl
        | true => exact absurd hh q1
      rw [hb, if_neg (c := false = true) (by decide), if_neg (c := false = true) (by decide), f4, if_neg (nf _)]
      exact ⟨g5, rfl, f1, fun q => absurd q (nf _)⟩
theorem C_read {g : Mem} {tn : Nat} {txt : Nat → Nat} (hT : TC g tn txt) : ∃ g', f_X1_read g = some (if (P_run (tx tn txt) tn 20 0).1 = true then -1 else nI (P_run (tx tn txt) tn 20 0).2, g') ∧ (∀ q, q < 89 ∨ 92 < q → g' q = g q) ∧ ((P_run (tx tn txt) tn 20 0).1 = true → (P_run (tx tn txt) tn 20 0).2 ≤ 20 ∧ g' 89 5 = nI (P_run (tx tn txt) tn 20 0).2 ∧ OS (tx tn txt) g' (P_run (tx tn txt) tn 20 0).2) := by
  unfold f_X1_read
  rw [lt1, lt1]
  obtain ⟨g', e, h1, h2⟩ := lp_C_read (tn := tn) (txt := txt) 20 0 fuel0 (m_up (m_up g 89 3 0) 89 5 0) (by omega) (by have := fuel_gt; omega) (TC_fr hT (by rw [mu_q (by decide), mu_q (by decide)]) (by rw [mu_q (by decide), mu_q (by decide)])) (by rw [mu_k (by decide), mu_eq]; rfl) (by rw [mu_eq]; rfl) (fun k hk => absurd hk (Nat.not_lt_zero k)) (Nat.zero_le _)
  exact ⟨g', e, fun q hq => by rw [h1 q hq, mu_q (by omega), mu_q (by omega)], h2⟩
