def NM (g' : Mem) (e w : Nat) (R : PR) : Prop := g' 5 (5 * e + 1) = nI R.2.2.1 ∧ (2 ≤ w → g' 5 (5 * e + 2) = nI R.2.2.2.1) ∧ (3 ≤ w → g' 5 (5 * e + 3) = nI R.2.2.2.2)
/-- what reading the rest of an order comes to, in the reference -/
def QM (g : Mem) (e w : Nat) (F : Option (Bool × Mem)) (R : PR) : Prop := ∃ g', F = some (R.1, g') ∧ (∀ q, q ≠ 0 → q ≠ 5 → g' q = g q) ∧ (∀ k, k ≠ 8 → g' 0 k = g 0 k) ∧ (∀ k, k ≤ 5 * e → g' 5 k = g 5 k) ∧ g' 5 (5 * e + 4) = g 5 (5 * e + 4) ∧ g' 0 8 = nI R.2.1 ∧ (R.1 = true → NM g' e w R)
theorem bool_eta (F : Option (Bool × Mem)) : (bd2 F fun x g => some (x, g)) = bd2 F fun x g => (if x then some (true, g) else some (false, g)) := by
  cases F with
  | none => rfl
  | some q => obtain ⟨b, g⟩ := q; cases b <;> rfl
section MSTEPS
variable {g g1 : Mem} {tn : Nat} {txt : Nat → Nat} {e i t w : Nat} {N : Nat → Nat} {J : Mem → Option (Bool × Mem)}
theorem QM_no (h : MD g g1 e i t N) : QM g e w (some (false, g1)) (p_no i) :=
  ⟨g1, rfl, h.1, h.2.1, h.2.2.2.1, h.2.2.2.2.1, h.2.2.1, fun q => absurd q (by show ¬ (false = true); decide)⟩
theorem sJ_dg (hT : TM g tn txt) (h : MD g g1 e i t N) (he : e ≤ 20) (hg : g 0 10 = nI e) (ht : t < 3) (hi : i ≤ tn) {m : Nat} (hm1 : 1 ≤ m) (hm : m ≤ 9) {k : Nat → Nat → PR} (hk : ∀ g2 v, i + 1 ≤ tn → MD g g2 e (i + 1) (t + 1) (nup N t v) → QM g e w (J g2) (k v (i + 1))) : QM g e w (bd2 (f_X5_takes_J28 (nI (t + 1)) (nI m) g1) fun x g' => (if x then J g' else some (false, g'))) (P_dg (tx tn txt) (m + 1) i k) := by
  have h60 := hT.2.1
  unfold P_dg
  by_cases hd : 48 ≤ tx tn txt i ∧ tx tn txt i < 48 + (m + 1)
  · obtain ⟨g2, e2, r⟩ := MJ_dg hT h he hg ht (by omega) hm1 hm hd
    rw [e2, bd2_some, if_pos rfl, if_pos hd]
    have := tx_in (tn := tn) (txt := txt) (i := i) (by omega)
    exact hk g2 _ (by omega) r
  · rw [MJ_dg_no hT h (by omega) hm1 hm hd, bd2_some, if_neg (by decide), if_neg hd]
    exact QM_no h
theorem sJ_nm (hT : TM g tn txt) (h : MD g g1 e i t N) (he : e ≤ 20) (hg : g 0 10 = nI e) (ht : t < 3) (hi : i ≤ tn) {k : Nat → Nat → PR} (hk : ∀ g2 v j, j ≤ tn → MD g g2 e j (t + 1) (nup N t v) → QM g e w (J g2) (k v j)) : QM g e w (bd2 (f_X5_takes_J28 (nI (t + 1)) 0 g1) fun x g' => (if x then J g' else some (false, g'))) (P_nm (tx tn txt) i k) := by
  have h60 := hT.2.1
  unfold P_nm
  by_cases hd : nmL (tx tn txt) i = 0
  · rw [MJ_nm_no hT h (by omega) hd, bd2_some, if_neg (by decide), if_pos hd]
    exact QM_no h
  · obtain ⟨g2, e2, r⟩ := MJ_nm hT h he hg ht (by omega) hd
    rw [e2, bd2_some, if_pos rfl, if_neg hd]
    exact hk g2 _ _ (nmL_in hd) r
/-- a comma, then what comes behind it -/
theorem sC (hT : TM g tn txt) (h : MD g g1 e i t N) (hi : i ≤ tn) {a1 a2 : Int32} (ha : ¬ a1 ≤ 1) {k : Nat → PR} (hk : ∀ g2, i + 1 ≤ tn → MD g g2 e (i + 1) t N → QM g e w (bd2 (f_X5_takes_J28 a1 a2 g2) fun x g' => (if x then J g' else some (false, g'))) (k (i + 1))) : QM g e w (bd2 (f_X5_takes a1 a2 g1) fun x g' => (if x then J g' else some (false, g'))) (P_cm (tx tn txt) i k) := by
  have h60 := hT.2.1
  have hT1 := MD_T hT h
  have h8 := h.2.2.1
  have hb := M_btw hT1 (a := 44) (b := 44) (by omega) h8 (by decide) (by decide) (by decide)
  rw [takes_c _ _ _ ha, z44, hb, bnd_some]
  unfold P_cm
  by_cases hd : tx tn txt i = 44
  · have := tx_in (tn := tn) (txt := txt) (i := i) (by omega)
    rw [decide_eq_true (by omega), if_pos rfl, if_pos hd, lt1, h8, nI_1]
    exact hk _ (by omega) (MD_at h (i + 1))
  · rw [decide_eq_false (by omega), if_neg (by decide), if_neg hd, bd2_some, if_neg (by decide)]
    exact QM_no h
theorem QM_ok (h : MD g g1 e i t N) (hw : w ≤ t) (hw1 : 1 ≤ w) {a b c : Nat} (ha : N 0 = a) (hb : 2 ≤ w → N 1 = b) (hc : 3 ≤ w → N 2 = c) : QM g e w (some (true, g1)) (true, i, a, b, c) := by
  obtain ⟨h1, h2, h3, h4, h5, h6⟩ := h
  refine ⟨g1, rfl, h1, h2, h4, h5, h3, fun _ => ⟨?_, fun q => ?_, fun q => ?_⟩⟩
  · have := h6 0 (by omega)
    rw [ha] at this
    exact this
  · rw [← hb q]; exact h6 1 (by omega)
  · rw [← hc q]; exact h6 2 (by omega)
theorem J135_n (hT : TM g tn txt) (h : MD g g e i 0 N) (he : e ≤ 20) (hg : g 0 10 = nI e) (hi : i ≤ tn) : QM g e 1 (f_X5_takesOrder_J135 110 2 1 g) (P_dg (tx tn txt) 3 i fun a j => (true, j, a, 0, 0)) := by
  unfold f_X5_takesOrder_J135
  rw [takes_1]
  refine sJ_dg hT h he hg (by decide) hi (m := 2) (by decide) (by decide) (fun g2 v hi2 r => ?_)
  rw [if_neg (by decide), if_neg (by decide), if_neg (by decide)]
  exact QM_ok r (by decide) (by decide) rfl (fun q => absurd q (by decide)) (fun q => absurd q (by decide))
theorem J135_u (hT : TM g tn txt) (h : MD g g e i 0 N) (he : e ≤ 20) (hg : g 0 10 = nI e) (hi : i ≤ tn) {L : Int32} (h1 : L ≠ 121) (h2 : L ≠ 118) (h3 : L ≠ 97) : QM g e 1 (f_X5_takesOrder_J135 L 5 1 g) (P_dg (tx tn txt) 6 i fun a j => (true, j, a, 0, 0)) := by
  unfold f_X5_takesOrder_J135
  rw [takes_1]
  refine sJ_dg hT h he hg (by decide) hi (m := 5) (by decide) (by decide) (fun g2 v hi2 r => ?_)
  rw [if_neg h1, if_neg h2, if_neg h3]
  exact QM_ok r (by decide) (by decide) rfl (fun q => absurd q (by decide)) (fun q => absurd q (by decide))
theorem J135_y (hT : TM g tn txt) (h : MD g g e i 0 N) (he : e ≤ 20) (hg : g 0 10 = nI e) (hi : i ≤ tn) : QM g e 2 (f_X5_takesOrder_J135 121 2 1 g) (P_dg (tx tn txt) 3 i fun a j => P_cm (tx tn txt) j fun j => P_dg (tx tn txt) 6 j fun b j => (true, j, a, b, 0)) := by
  unfold f_X5_takesOrder_J135
  rw [takes_1]
  refine sJ_dg hT h he hg (by decide) hi (m := 2) (by decide) (by decide) (fun g2 v hi2 r => ?_)
  rw [if_pos (c := (121 : Int32) = 121) rfl, bool_eta]
  refine sC hT r hi2 (by decide) (fun g3 hi3 r3 => ?_)
  refine sJ_dg hT r3 he hg (by decide) hi3 (m := 5) (by decide) (by decide) (fun g4 v4 hi4 r4 => ?_)
  exact QM_ok r4 (by decide) (by decide) rfl (fun q => rfl) (fun q => absurd q (by decide))
theorem J135_v (hT : TM g tn txt) (h : MD g g e i 0 N) (he : e ≤ 20) (hg : g 0 10 = nI e) (hi : i ≤ tn) : QM g e 3 (f_X5_takesOrder_J135 118 2 1 g) (P_dg (tx tn txt) 3 i fun a j => P_cm (tx tn txt) j fun j => P_nm (tx tn txt) j fun b j => P_cm (tx tn txt) j fun j => P_nm (tx tn txt) j fun c j => (true, j, a, b, c)) := by
  unfold f_X5_takesOrder_J135
  rw [takes_1]
  refine sJ_dg hT h he hg (by decide) hi (m := 2) (by decide) (by decide) (fun g2 v hi2 r => ?_)
  rw [if_neg (c := (118 : Int32) = 121) (by decide), if_pos (c := (118 : Int32) = 118) rfl]
  refine sC hT r hi2 (by decide) (fun g3 hi3 r3 => ?_)
  refine sJ_nm hT r3 he hg (by decide) hi3 (fun g4 v4 j4 hi4 r4 => ?_)
  rw [if_pos (c := (118 : Int32) = 118) rfl]
  refine sC hT r4 hi4 (by decide) (fun g5 hi5 r5 => ?_)
  refine sJ_nm hT r5 he hg (by decide) hi5 (fun g6 v6 j6 hi6 r6 => ?_)
  exact QM_ok r6 (by decide) (by decide) rfl (fun q => rfl) (fun q => rfl)
theorem J135_a (hT : TM g tn txt) (h : MD g g e i 0 N) (he : e ≤ 20) (hg : g 0 10 = nI e) (hi : i ≤ tn) : QM g e 3 (f_X5_takesOrder_J135 97 2 1 g) (P_dg (tx tn txt) 3 i fun a j => P_cm (tx tn txt) j fun j => P_nm (tx tn txt) j fun b j => P_cm (tx tn txt) j fun j => P_dg (tx tn txt) 6 j fun c j => (true, j, a, b, c)) := by
  unfold f_X5_takesOrder_J135
  rw [takes_1]
  refine sJ_dg hT h he hg (by decide) hi (m := 2) (by decide) (by decide) (fun g2 v hi2 r => ?_)
  rw [if_neg (c := (97 : Int32) = 121) (by decide), if_neg (c := (97 : Int32) = 118) (by decide), if_pos (c := (97 : Int32) = 97) rfl]
  refine sC hT r hi2 (by decide) (fun g3 hi3 r3 => ?_)
  refine sJ_nm hT r3 he hg (by decide) hi3 (fun g4 v4 j4 hi4 r4 => ?_)
  rw [if_neg (c := (97 : Int32) = 118) (by decide)]
  refine sC hT r4 hi4 (by decide) (fun g5 hi5 r5 => ?_)
  refine sJ_dg hT r5 he hg (by decide) hi5 (m := 5) (by decide) (by decide) (fun g6 v6 hi6 r6 => ?_)
  exact QM_ok r6 (by decide) (by decide) rfl (fun q => rfl) (fun q => rfl)
/-- the place and the letter of an order are laid down -/
def hdm (g : Mem) (e i L : Nat) : Mem := m_up (m_up g 5 (5 * e) (nI L)) 5 (5 * e + 4) (nI i)
def OMR (g : Mem) (e i L : Nat) (F : Option (Bool × Mem)) (R : PR) : Prop := ∃ g', F = some (R.1, g') ∧ (∀ q, q ≠ 0 → q ≠ 5 → g' q = g q) ∧ (∀ k, k ≠ 8 → g' 0 k = g 0 k) ∧ (∀ k, k < 5 * e → g' 5 k = g 5 k) ∧ g' 0 8 = nI R.2.1 ∧ (R.1 = true → g' 5 (5 * e) = nI L ∧ g' 5 (5 * e + 4) = nI i ∧ NM g' e (wd L) R)
theorem hdm_MD {L j : Nat} : MD (m_up (hdm g e i L) 0 8 (nI j)) (m_up (hdm g e i L) 0 8 (nI j)) e j 0 (fun _ => 0) :=
  ⟨fun _ _ _ => rfl, fun _ _ => rfl, mu_eq .., fun _ _ => rfl, rfl, fun k hk => absurd hk (Nat.not_lt_zero k)⟩
theorem QM_OMR {L j : Nat} {F : Option (Bool × Mem)} {R : PR} (hw : w = wd L) (h : QM (m_up (hdm g e i L) 0 8 (nI j)) e w F R) : OMR g e i L F R := by
  obtain ⟨g', e', h1, h2, h3, h4, h5, h6⟩ := h
  subst hw
  refine ⟨g', e', fun q a b => ?_, fun k hk => ?_, fun k hk => ?_, h5, fun q => ⟨?_, ?_, h6 q⟩⟩
  · rw [h1 q a b, mu_q a]
    unfold hdm
    rw [mu_q b, mu_q b]
  · rw [h2 k hk, mu_k hk]
    unfold hdm
    rw [mu_o (by decide), mu_o (by decide)]
  · rw [h3 k (by omega), mu_o (by decide)]
    unfold hdm
    rw [mu_k (by omega), mu_k (by omega)]
  · rw [h3 _ (Nat.le_refl _), mu_o (by decide)]
    unfold hdm
    rw [mu_k (by omega), mu_eq]
  · rw [h4, mu_o (by decide)]
    unfold hdm
    rw [mu_eq]
theorem M_ord (hT : TM g tn txt) (he : e ≤ 20) (hi : i ≤ tn) (h8 : g 0 8 = nI i) (hg : g 0 10 = nI e) : OMR g e i (tx tn txt i) (f_X5_takesOrder g) (P_ord (tx tn txt) i) := by
  have h60 := hT.2.1
  have hb := tx_lt hT.2.2.2 i
  unfold f_X5_takesOrder
  rw [h8, hT.1]
  by_cases hend : i = tn
  · have h0 : tx tn txt i = 0 := by unfold tx; rw [if_neg (by omega)]
    rw [if_pos (by rw [hend])]
    unfold P_ord
    rw [h0]
    exact ⟨g, rfl, fun _ _ _ => rfl, fun _ _ => rfl, fun _ _ => rfl, h8, fun q => absurd q (by show ¬ (false = true); decide)⟩
  have hlt : i < tn := by omega
  have hrd : rd g 4 60 (nI i) = some (nI (tx tn txt i)) := by
    rw [rd_nI (by omega) (by omega), hT.2.2.1 i hlt]
    unfold tx
    rw [if_pos hlt]
  rw [if_neg (fun z => hend ((nI_eq (by omega) (by omega)).mp z)), hrd, bnd_some, hg, z5, pk_mul, wr_nI (by omega) (by omega), bnd_some, mu_o (show (0 : Nat) ≠ 5 by decide), mu_o (show (0 : Nat) ≠ 5 by decide), hg, h8, z4, pk_mul, nI_add, wr_nI (by omega) (by omega), bnd_some]
  change OMR g e i (tx tn txt i) (if nI (tx tn txt i) = 110 then f_X5_takesOrder_J93 (nI (tx tn txt i)) 1 (hdm g e i (tx tn txt i)) else if nI (tx tn txt i) = 121 then f_X5_takesOrder_J93 (nI (tx tn txt i)) 1 (hdm g e i (tx tn txt i)) else if nI (tx tn txt i) = 118 then f_X5_takesOrder_J93 (nI (tx tn txt i)) 1 (hdm g e i (tx tn txt i)) else if nI (tx tn txt i) = 97 then f_X5_takesOrder_J93 (nI (tx tn txt i)) 1 (hdm g e i (tx tn txt i)) else if nI (tx tn txt i) = 100 then f_X5_takesOrder_J93 (nI (tx tn txt i)) 1 (hdm g e i (tx tn txt i)) else if nI (tx tn txt i) = 117 then f_X5_takesOrder_J93 (nI (tx tn txt i)) 1 (hdm g e i (tx tn txt i)) else f_X5_takesOrder_J93 (nI (tx tn txt i)) 0 (hdm g e i (tx tn txt i))) (P_ord (tx tn txt) i)
  have hm8 : ∀ L, hdm g e i L 0 8 = nI i := fun L => by
    unfold hdm
    rw [mu_o (by decide), mu_o (by decide)]
    exact h8
  have hT2 : ∀ L j, TM (m_up (hdm g e i L) 0 8 (nI j)) tn txt := fun L j => TM_fr hT (by rw [mu_k (by decide)]; unfold hdm; rw [mu_o (by decide), mu_o (by decide)]) (by rw [mu_q (by decide)]; unfold hdm; rw [mu_q (by decide), mu_q (by decide)])
  have hg2 : ∀ L j, (m_up (hdm g e i L) 0 8 (nI j)) 0 10 = nI e := fun L j => by
    rw [mu_k (by decide)]
    unfold hdm
    rw [mu_o (by decide), mu_o (by decide)]
    exact hg
  have hJ1 : ∀ L : Nat, f_X5_takesOrder_J93 (nI L) 1 (hdm g e i L) = if nI L = 100 then f_X5_takesOrder_J135 (nI L) 5 1 (m_up (hdm g e i L) 0 8 (nI (i + 1))) else if nI L = 117 then f_X5_takesOrder_J135 (nI L) 5 1 (m_up (hdm g e i L) 0 8 (nI (i + 1))) else f_X5_takesOrder_J135 (nI L) 2 1 (m_up (hdm g e i L) 0 8 (nI (i + 1))) := fun L => by
    unfold f_X5_takesOrder_J93 f_X5_takesOrder_J108
    rw [if_neg (show ¬ (1 : Int32) = 0 by decide), lt1, if_neg (show ¬ (1 : Int32) = 0 by decide), hm8, nI_1]
  unfold P_ord
  generalize hL : tx tn txt i = L at hb ⊢
  by_cases e1 : L = 110
  · subst e1
    rw [if_pos rfl, if_pos (by rfl), hJ1, if_neg (by decide), if_neg (by decide)]
    exact QM_OMR rfl (J135_n (hT2 _ _) hdm_MD he (hg2 _ _) (by omega))
  rw [if_neg e1]
  by_cases e2 : L = 121
  · subst e2
    rw [if_pos rfl, if_neg (by decide), if_pos (by rfl), hJ1, if_neg (by decide), if_neg (by decide)]
    exact QM_OMR rfl (J135_y (hT2 _ _) hdm_MD he (hg2 _ _) (by omega))
  rw [if_neg e2]
  by_cases e3 : L = 118
  · subst e3
    rw [if_pos rfl, if_neg (by decide), if_neg (by decide), if_pos (by rfl), hJ1, if_neg (by decide), if_neg (by decide)]
    exact QM_OMR rfl (J135_v (hT2 _ _) hdm_MD he (hg2 _ _) (by omega))
  rw [if_neg e3]
  by_cases e4 : L = 97
  · subst e4
    rw [if_pos rfl, if_neg (by decide), if_neg (by decide), if_neg (by decide), if_pos (by rfl), hJ1, if_neg (by decide), if_neg (by decide)]
    exact QM_OMR rfl (J135_a (hT2 _ _) hdm_MD he (hg2 _ _) (by omega))
  rw [if_neg e4]
  by_cases e5 : L = 100
  · subst e5
    rw [if_pos (Or.inl rfl), if_neg (by decide), if_neg (by decide), if_neg (by decide), if_neg (by decide), if_pos (by rfl), hJ1, if_pos (by rfl)]
    exact QM_OMR rfl (J135_u (hT2 _ _) hdm_MD he (hg2 _ _) (by omega) (by decide) (by decide) (by decide))
  by_cases e6 : L = 117
  · subst e6
    rw [if_pos (Or.inr rfl), if_neg (by decide), if_neg (by decide), if_neg (by decide), if_neg (by decide), if_neg (by decide), if_pos (by rfl), hJ1, if_neg (by decide), if_pos (by rfl)]
    exact QM_OMR rfl (J135_u (hT2 _ _) hdm_MD he (hg2 _ _) (by omega) (by decide) (by decide) (by decide))
  have n : ∀ (k : Nat) (v : Int32), v = nI k → k < 2 ^ 31 → L ≠ k → ¬ nI L = v := fun k v hv hk q z => q ((nI_eq (by omega) hk).mp (z.trans hv))
  rw [if_neg (c := L = 100 ∨ L = 117) (fun z => z.elim e5 e6), if_neg (n 110 110 rfl (by decide) e1), if_neg (n 121 121 rfl (by decide) e2), if_neg (n 118 118 rfl (by decide) e3), if_neg (n 97 97 rfl (by decide) e4), if_neg (n 100 100 rfl (by decide) e5), if_neg (n 117 117 rfl (by decide) e6)]
  have hJ0 : f_X5_takesOrder_J93 (nI L) 0 (hdm g e i L) = some (false, m_up (hdm g e i L) 0 8 (nI i)) := by
    unfold f_X5_takesOrder_J93 f_X5_takesOrder_J108
    rw [if_pos (c := (0 : Int32) = 0) rfl, lt1, if_pos (c := (0 : Int32) = 0) rfl, hm8, Int32.add_zero]
  rw [hJ0]
  exact QM_OMR (w := wd L) (j := i) rfl (QM_no hdm_MD)
end MSTEPS
