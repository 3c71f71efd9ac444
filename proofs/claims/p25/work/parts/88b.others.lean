/-! p25: others(): setUp, trim, witness -/
section OTHERS
variable {g : Mem} {τ : Row} {hn : Nat} {hist : Nat → Row} {kf : Bool} {sn : Row} {tn : Nat} {txt : Nat → Nat} {rf : Option (Nat × Int32 × Nat)}
theorem bI_b2 (b : Bool) : bI (!(decide (bI b = 0))) = bI b := by cases b <;> decide
theorem EV_setUp (hR : RC g (τ, hn, hist, kf, sn, tn, txt, rf)) (hS : SV (τ, hn, hist, kf, sn, tn, txt, rf)) {a : Nat} (ha : a < 6) (a4 a5 a6 : Int32) : EV (τ, hn, hist, kf, sn, tn, txt, rf) (f_L_others 10 (nI a) a4 a5 a6 g) := by
  have hK : RK τ := hS.1.1
  have b3 := hK.1.2.1 a ha
  unfold f_L_others
  rw [if_pos rfl, R_a0 hR.1 hK.1 ha, bnd_some]
  obtain ⟨up, hup⟩ : ∃ up, up = !(decide ((a6 &&& 3) ≤ 0)) := ⟨_, rfl⟩
  rw [← hup]
  obtain ⟨g1, ⟨τ1, hn1, hist1, kf1, sn1, tn1, txt1, rf1⟩, e1, r1, v1, et, eS⟩ := A_setUp hR hS ha up
  have hI1 : RI τ1 := v1.1.1.1
  have fin := EV_of r1 v1 eS
  have h1 := r1.2.2.1
  have h2 := r1.2.2.2.2.2.1
  have hl := upm_lt hI1
  have hd : decide (nI (τ a) = 1) = decide (τ a = 1) := decide_eq_decide.mpr (by rw [z1, nI_eq (by omega) (by omega)])
  have k : ∀ x, hs (upm τ1) a = up → f_L_others_J64 (nI a) (bI up) x x g1 = some (true, g1) := by
    intro x hx
    rw [f_L_others_J64, if_pos rfl, R_c4 r1.1 hI1 h1 h2, bnd_some, shr_bit _ hl a ha, hx, bI_b2, if_pos rfl]
  rw [e1, bd2_some, hd]
  unfold s_turnN at et ⊢
  by_cases c : decide (τ a = 1) = up
  · rw [if_pos c] at et ⊢
    have et : τ1 = τ := et
    dsimp only
    rw [if_pos (congrArg bI c), k _ (by rw [et, hs_upm hK.1 ha]; exact c)]
    exact fin
  · rw [if_neg c] at et ⊢
    have et : τ1 = rup τ a (if up then 1 else 0) := et
    dsimp only
    rw [if_neg (fun q => c (bI_inj.mp q)), R_c4 r1.1 hI1 h1 h2, bnd_some, R_bits hl, bnd_some, ← et, k _ ?_]
    · exact fin
    · rw [hs_upm hI1 ha, et, rup_eq]
      cases up <;> rfl
theorem lp_tr1 (hC : CR g 1 τ) (h : RI τ) (K : Int32 → Option (Bool × Mem)) (v6 v7 : Int32) {s a : Nat} (hs2 : s ≤ 16) (ha : a < 6) (acc : Nat) : ∀ n j, j ≤ s → s - j < n → f_L_others_L131 K (nI s) v6 v7 (nI a) g n (nI (acc + cntN (fun j => decide (τ (12 + 2 * (16 * a + j)) ≠ 0)) j)) (nI (j + 1)) = K (nI (acc + cntN (fun j => decide (τ (12 + 2 * (16 * a + j)) ≠ 0)) s)) := by
  intro n
  induction n with
  | zero => intro x _ h; exact absurd h (Nat.not_lt_zero _)
  | succ n ih =>
    intro j hj hn
    rw [f_L_others_L131]
    by_cases e : j = s
    · subst e
      rw [if_pos (nI_lt (by omega) (by omega))]
    · have hv := h.1 (12 + 2 * (16 * a + j)) (by omega)
      have hpos : (!(decide (orN (τ (12 + 2 * (16 * a + j))) ≤ 0))) = decide (τ (12 + 2 * (16 * a + j)) ≠ 0) := by
        rw [decide_eq_decide.mpr (orN_le0 (x := τ (12 + 2 * (16 * a + j))) (by omega)), ← decide_not]
      rw [if_neg (nI_nlt (by omega) (by omega)), R_v0 hC h ha (by omega), bnd_some, hpos, lt1, nI_1, lt1]
      have e2 : nI (acc + cntN (fun j => decide (τ (12 + 2 * (16 * a + j)) ≠ 0)) j) + bI (decide (τ (12 + 2 * (16 * a + j)) ≠ 0)) = nI (acc + cntN (fun j => decide (τ (12 + 2 * (16 * a + j)) ≠ 0)) (j + 1)) := by
        rw [← nI_add, ← nI_add, ← cntS (fun j => decide (τ (12 + 2 * (16 * a + j)) ≠ 0)) j, Int32.add_assoc]
      rw [e2]
      exact ih (j + 1) (by omega) (by omega)
theorem lp_tr2 (hC : CR g 1 τ) (h : RI τ) (K : Int32 → Option (Bool × Mem)) (v6 v7 : Int32) {s : Nat} (hs2 : s ≤ 16) : ∀ n a, a ≤ 6 → 6 - a < n → f_L_others_L121 K (nI s) v6 v7 g n (nI (allN τ s a)) (nI a) = K (nI (allN τ s 6)) := by
  intro n
  induction n with
  | zero => intro x _ h; exact absurd h (Nat.not_lt_zero _)
  | succ n ih =>
    intro a ha hn
    rw [f_L_others_L121]
    by_cases e : a = 6
    · subst e
      rw [if_pos (by decide)]
    · rw [if_neg (by rw [z6]; exact nI_ge (by omega) (by omega))]
      refine (lp_tr1 hC h _ v6 v7 hs2 (a := a) (by omega) (allN τ s a) fuel0 0 (by omega) (by have := fuel_gt; omega)).trans ?_
      rw [nI_1, lt1]
      exact ih (a + 1) (by omega) (by omega)
theorem EV_trim (hR : RC g (τ, hn, hist, kf, sn, tn, txt, rf)) (hS : SV (τ, hn, hist, kf, sn, tn, txt, rf)) {i : Nat} (hi : i < 16) (a3 a5 a6 : Int32) : EV (τ, hn, hist, kf, sn, tn, txt, rf) (f_L_others 11 a3 (nI (i + 1)) a5 a6 g) := by
  have hK : RK τ := hS.1.1
  have hpl := pre_le τ
  have ht := hK.1.2.2.2.2.2.2.2
  obtain ⟨g1, ⟨τ1, hn1, hist1, kf1, sn1, tn1, txt1, rf1⟩, e1, r1, v1, et, eS⟩ := A_trim hR hS (s := i + 1) (by omega) (by omega)
  obtain ⟨g2, S2, e2, r2, v2, -, eS2⟩ := A_trim0 r1 v1
  have hS2 : S2 = (τ1, hn1, hist1, kf1, sn1, tn1, txt1, rf1) := eS2.elim (fun q => q.2) (fun q => absurd (show (-1 : Int32) < 0 by decide) q.1)
  rw [hS2] at r2 v2
  have fin := EV_of r2 v2 eS
  have k : ∀ x, f_L_others_J200 x x g1 = some (true, g2) := by
    intro x
    rw [f_L_others_J200, if_pos rfl, e2, bd2_some]
    dsimp only
    rw [if_pos rfl]
  unfold f_L_others
  rw [if_neg (by decide), if_pos rfl, R_c0 hR.1 hK.1 hR.2.2.1 hR.2.2.2.2.2.1, bnd_some, R_c2 hR.1 hK.1 hR.2.2.1 hR.2.2.2.2.2.1, bnd_some]
  have lp := fun K => lp_tr2 hR.1 hK.1 K (nI (pre τ)) (nI (τ 869)) (s := i + 1) (by omega) fuel0 0 (by omega) (by have := fuel_gt; omega)
  refine Eq.subst (motive := fun r => EV (τ, hn, hist, kf, sn, tn, txt, rf) r) (lp _).symm ?_
  rw [e1, bd2_some]
  unfold s_trimN
  by_cases c1 : pre τ < i + 1
  · rw [if_pos c1]
    dsimp only
    rw [if_neg (nI_ge c1 (by omega)), k]
    exact fin
  · rw [if_neg c1, if_pos (nI_le (by omega) (by omega))]
    by_cases c2 : i + 1 ≤ τ 869
    · rw [if_pos c2]
      dsimp only
      rw [if_neg (nI_nlt c2 (by omega)), k]
      exact fin
    · rw [if_neg c2]
      dsimp only
      rw [if_pos (nI_lt (by omega) (by omega)), k]
      exact fin
def wit1 (m i : Nat) : Nat := lowL m 6 0 i 0
def wit2 (m i j : Nat) : Nat := lowL (m &&& (63 ^^^ lowL m 6 0 i 0)) 6 0 j 0
def witB (m i j : Nat) : Bool := decide (i = 0) || (decide (j = 0) || (decide (pc m < i + j) || (decide (wit1 m i < 64) && (decide (wit2 m i j < 64) && (decide (nI (wit1 m i) &&& nI (wit2 m i j) = 0) && (decide ((nI (wit1 m i) ||| nI (wit2 m i j)) &&& (nI m ^^^ (-1)) = 0) && (decide (pc (wit1 m i) = i) && decide (pc (wit2 m i j) = j))))))))
set_option maxRecDepth 100000 in
theorem wit_okB : ∀ m, m < 64 → ∀ i, i < 7 → ∀ j, j < 7 → witB m i j = true := by decide +kernel
theorem wit_ok (m : Nat) (hm : m < 64) (i : Nat) (hi : i < 7) (j : Nat) (hj : j < 7) : i = 0 ∨ j = 0 ∨ pc m < i + j ∨ (wit1 m i < 64 ∧ wit2 m i j < 64 ∧ nI (wit1 m i) &&& nI (wit2 m i j) = 0 ∧ (nI (wit1 m i) ||| nI (wit2 m i j)) &&& (nI m ^^^ (-1)) = 0 ∧ pc (wit1 m i) = i ∧ pc (wit2 m i j) = j) := by
  have h := wit_okB m hm i hi j hj
  unfold witB at h
  simp only [Bool.or_eq_true, Bool.and_eq_true, decide_eq_true_eq] at h
  exact h
theorem isK_nI {k : Nat} (h1 : 1 ≤ k) (h2 : k ≤ 6) : f_X4_isSize (nI k) = true := by
  unfold f_X4_isSize
  rw [if_neg (by rw [z1]; exact nI_nlt (by omega) (by omega)), if_neg (by rw [z6]; exact nI_nlt (by omega) (by omega))]
theorem in63_nI {m : Nat} (h1 : 1 ≤ m) (h2 : m ≤ 63) : f_X5_in (nI m) 1 63 = true := by
  unfold f_X5_in
  rw [if_neg (by rw [z1]; exact nI_nlt (by omega) (by omega)), if_neg (by rw [z63]; exact nI_nlt (by omega) (by omega))]
theorem W_0 {m i j : Nat} (hm1 : 1 ≤ m) (hm : m ≤ 63) (hi1 : 1 ≤ i) (hi : i ≤ 6) (hj1 : 1 ≤ j) (hj : j ≤ 6) : f_X4_witness (nI m) (nI i) (nI j) 0 = some (if i + j ≤ pc m then nI (wit1 m i) else -5) := by
  rw [C_witness]
  unfold o_witness
  rw [in63_nI hm1 hm, isK_nI hi1 hi, isK_nI hj1 hj, if_pos (by decide), nI_clamp (by omega), nI_clamp (by omega), nI_clamp (by omega)]
  unfold o_witN
  rw [if_pos (c := (0 : Int32) = 0) rfl]
  rfl
theorem W_1 {m i j : Nat} (hm1 : 1 ≤ m) (hm : m ≤ 63) (hi1 : 1 ≤ i) (hi : i ≤ 6) (hj1 : 1 ≤ j) (hj : j ≤ 6) : f_X4_witness (nI m) (nI i) (nI j) 1 = some (if i + j ≤ pc m then nI (wit2 m i j) else -5) := by
  rw [C_witness]
  unfold o_witness
  rw [in63_nI hm1 hm, isK_nI hi1 hi, isK_nI hj1 hj, if_pos (by decide), nI_clamp (by omega), nI_clamp (by omega), nI_clamp (by omega)]
  unfold o_witN
  rw [if_neg (c := (1 : Int32) = 0) (by decide)]
  rfl
theorem pc_ne0 {x j : Nat} (h : pc x = j) (hj : 1 ≤ j) : x ≠ 0 := by
  intro e
  rw [e] at h
  have : pc 0 = 0 := by decide
  omega
theorem EV_witness (hR : RC g (τ, hn, hist, kf, sn, tn, txt, rf)) (hS : SV (τ, hn, hist, kf, sn, tn, txt, rf)) (a3 a4 a5 a6 : Int32) : EV (τ, hn, hist, kf, sn, tn, txt, rf) (f_L_others 12 a3 a4 a5 a6 g) := by
  have fin : EV (τ, hn, hist, kf, sn, tn, txt, rf) (some (true, g)) := ⟨g, _, rfl, hR, hS, Or.inl rfl⟩
  obtain ⟨m, hm, em⟩ := R_low a5 (n := 63) (by decide) (by decide)
  obtain ⟨i, hi, ei⟩ := R_low a6 (n := 6) (by decide) (by decide)
  obtain ⟨j, hj, ej⟩ := R_low (a6 >>> (3 &&& 31)) (n := 6) (by decide) (by decide)
  unfold f_L_others
  rw [if_neg (by decide), if_neg (by decide), show (63 : Int32) = nI 63 from rfl, em, bnd_some, lt1, z6, ei, bnd_some, lt1, ej, bnd_some, lt1, z1, nI_add, nI_add, nI_add, ← z1, W_0 (by omega) (by omega) (by omega) (by omega) (by omega) (by omega), bnd_some, W_1 (by omega) (by omega) (by omega) (by omega) (by omega) (by omega), bnd_some, R_bits (by omega), bnd_some, nI_add]
  have hp := pc_le (1 + m)
  by_cases c : 1 + i + (1 + j) ≤ pc (1 + m)
  · rcases wit_ok (1 + m) (by omega) (1 + i) (by omega) (1 + j) (by omega) with q | q | q | ⟨w1, w2, w3, w4, w5, w6⟩
    · omega
    · omega
    · omega
    · have n1 := pc_ne0 w5 (by omega)
      have n2 := pc_ne0 w6 (by omega)
      rw [if_pos (nI_le c (by omega)), if_pos c, if_pos c, if_neg (nI_nle (by omega) (by omega)), if_neg (nI_nle (by omega) (by omega)), if_pos w3, if_pos w4, R_bits w1, bnd_some, w5, if_pos rfl, R_bits w2, bnd_some, w6, if_pos rfl]
      exact fin
  · rw [if_neg (nI_ge (by omega) (by omega)), if_neg c, if_neg c, if_pos rfl, if_pos rfl, show f_X4_witness 64 1 1 0 = some (-2) from (C_witness 64 1 1 0).trans (congrArg some (by decide)), bnd_some, if_pos rfl]
    exact fin
theorem EV_others (hR : RC g (τ, hn, hist, kf, sn, tn, txt, rf)) (hS : SV (τ, hn, hist, kf, sn, tn, txt, rf)) {k a i : Nat} (hk1 : 10 ≤ k) (hk2 : k < 13) (ha : a < 6) (hi : i < 16) (a5 a6 : Int32) : EV (τ, hn, hist, kf, sn, tn, txt, rf) (f_L_others (nI k) (nI a) (nI (i + 1)) a5 a6 g) := by
  rcases (show k = 10 ∨ k = 11 ∨ k = 12 by omega) with rfl | rfl | rfl
  · exact EV_setUp hR hS ha _ _ _
  · exact EV_trim hR hS hi _ _ _
  · exact EV_witness hR hS _ _ _ _
end OTHERS
