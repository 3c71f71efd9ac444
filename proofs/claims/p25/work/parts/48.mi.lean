/-! the orders of a text -/
def tx (tn : Nat) (txt : Nat → Nat) (i : Nat) : Nat := if i < tn then txt i else 0
def isD (c : Nat) : Bool := decide (48 ≤ c) && decide (c ≤ 57)
def nmE (T : Nat → Nat) (i : Nat) : Nat → Nat → Nat
  | 0, c => c
  | f + 1, c => if isD (T (i + c)) then nmE T i f (c + 1) else c
def nmL (T : Nat → Nat) (i : Nat) : Nat := if T i = 48 then 0 else nmE T i 3 0
def nmV (T : Nat → Nat) (i : Nat) : Nat → Nat
  | 0 => 0
  | k + 1 => 10 * nmV T i k + (T (i + k) - 48)
abbrev PR : Type := Bool × Nat × Nat × Nat × Nat
def p_no (i : Nat) : PR := (false, i, 0, 0, 0)
def P_dg (T : Nat → Nat) (m i : Nat) (k : Nat → Nat → PR) : PR := if 48 ≤ T i ∧ T i < 48 + m then k (T i - 48) (i + 1) else p_no i
def P_cm (T : Nat → Nat) (i : Nat) (k : Nat → PR) : PR := if T i = 44 then k (i + 1) else p_no i
def P_nm (T : Nat → Nat) (i : Nat) (k : Nat → Nat → PR) : PR := if nmL T i = 0 then p_no i else k (nmV T i (nmL T i)) (i + nmL T i)
def P_ord (T : Nat → Nat) (i : Nat) : PR :=
  if T i = 110 then P_dg T 3 (i + 1) fun a j => (true, j, a, 0, 0)
  else if T i = 121 then P_dg T 3 (i + 1) fun a j => P_cm T j fun j => P_dg T 6 j fun b j => (true, j, a, b, 0)
  else if T i = 118 then P_dg T 3 (i + 1) fun a j => P_cm T j fun j => P_nm T j fun b j => P_cm T j fun j => P_nm T j fun c j => (true, j, a, b, c)
  else if T i = 97 then P_dg T 3 (i + 1) fun a j => P_cm T j fun j => P_nm T j fun b j => P_cm T j fun j => P_dg T 6 j fun c j => (true, j, a, b, c)
  else if T i = 100 ∨ T i = 117 then P_dg T 6 (i + 1) fun a j => (true, j, a, 0, 0)
  else p_no i
theorem tx_lt {tn : Nat} {txt : Nat → Nat} (h : ∀ i, i < tn → txt i < 65536) (i : Nat) : tx tn txt i < 65536 := by
  unfold tx
  split
  · exact h i (by assumption)
  · decide
theorem tx_in {tn : Nat} {txt : Nat → Nat} {i : Nat} (h : tx tn txt i ≠ 0) : i < tn := by
  unfold tx at h
  by_cases e : i < tn
  · exact e
  · rw [if_neg e] at h; exact absurd rfl h
theorem z48 : (48 : Int32) = nI 48 := rfl
theorem z57 : (57 : Int32) = nI 57 := rfl
theorem z44 : (44 : Int32) = nI 44 := rfl
theorem z20 : (20 : Int32) = nI 20 := rfl
theorem z10 : (10 : Int32) = nI 10 := rfl
/-! the class reads them -/
def TC (g : Mem) (tn : Nat) (txt : Nat → Nat) : Prop := g 87 1 = nI tn ∧ tn ≤ 60 ∧ (∀ i, i < tn → g 88 i = nI (txt i)) ∧ ∀ i, i < tn → txt i < 65536
theorem TC_fr {g g' : Mem} {tn : Nat} {txt : Nat → Nat} (h : TC g tn txt) (e : g' 87 = g 87) (e2 : g' 88 = g 88) : TC g' tn txt := by
  unfold TC at h ⊢
  rw [e, e2]
  exact h
theorem C_sign {g : Mem} {tn : Nat} {txt : Nat → Nat} (h : TC g tn txt) {i : Nat} (hi : i < 2 ^ 31) : f_X3_signAt (nI i) g = some (nI (tx tn txt i)) := by
  obtain ⟨h1, h2, h3, h4⟩ := h
  unfold f_X3_signAt tx
  rw [if_neg (nI_pos hi), h1]
  by_cases e : i < tn
  · rw [if_neg (nI_ge e (by omega)), if_pos e, rd_nI (by omega) (by omega), bnd_some, h3 i e]
  · rw [if_pos (nI_le (by omega) hi), if_neg e]
    rfl
def RD (g g' : Mem) (s i t : Nat) (N : Nat → Nat) : Prop := (∀ q, q ≠ 89 → q ≠ 92 → g' q = g q) ∧ (∀ k, k ≠ 3 → k ≠ 4 → g' 89 k = g 89 k) ∧ g' 89 3 = nI i ∧ g' 89 4 = nI t ∧ (∀ k, k < 3 * s → g' 92 k = g 92 k) ∧ ∀ k, k < t → g' 92 (3 * s + k) = nI (N k)
def nup (N : Nat → Nat) (t v : Nat) : Nat → Nat := fun k => if k = t then v else N k
section RDS
variable {g g1 : Mem} {tn : Nat} {txt : Nat → Nat} {s i t : Nat} {N : Nat → Nat}
theorem RD_at (h : RD g g1 s i t N) (j : Nat) : RD g (m_up g1 89 3 (nI j)) s j t N := by
  obtain ⟨h1, h2, h3, h4, h5, h6⟩ := h
  exact ⟨fun q a b => (mu_q a).trans (h1 q a b), fun k a b => (mu_k a).trans (h2 k a b), mu_eq .., (mu_k (by decide)).trans h4, fun k hk => (mu_o (by decide)).trans (h5 k hk), fun k hk => (mu_o (by decide)).trans (h6 k hk)⟩
theorem C_tellN (h : RD g g1 s i t N) (hs : s < 20) (hg : g 89 5 = nI s) (ht : t < 3) (v : Nat) : ∃ g2, f_X1_tell (nI v) g1 = some g2 ∧ RD g g2 s i (t + 1) (nup N t v) := by
  obtain ⟨h1, h2, h3, h4, h5, h6⟩ := h
  have e5 := (h2 5 (by decide) (by decide)).trans hg
  unfold f_X1_tell
  rw [h4, e5, if_neg (by rw [z3]; exact nI_ge ht (by omega)), if_neg (by rw [z20]; exact nI_ge hs (by omega)), z3, pk_mul, nI_add, wr_nI (by omega) (by omega), bnd_some, lt1, mu_o (by decide), h4, nI_1]
  refine ⟨_, rfl, fun q a b => by rw [mu_q a, mu_q b]; exact h1 q a b, fun k a b => by rw [mu_k b, mu_o (by decide)]; exact h2 k a b, by rw [mu_k (by decide), mu_o (by decide)]; exact h3, mu_eq .., fun k hk => by rw [mu_o (by decide), mu_k (by omega)]; exact h5 k hk, fun k hk => ?_⟩
  rw [mu_o (by decide), Nat.mul_comm s 3]
  unfold nup
  by_cases e : k = t
  · subst e
    rw [mu_eq, if_pos rfl]
  · rw [mu_k (by omega), if_neg e]
    exact h6 k (by omega)
theorem C_dg (hT : TC g tn txt) (h : RD g g1 s i t N) (hs : s < 20) (hg : g 89 5 = nI s) (ht : t < 3) (hi : i < 100) {m : Nat} (hm : m ≤ 10) (hd : 48 ≤ tx tn txt i ∧ tx tn txt i < 48 + m) : ∃ g2, f_X1_readDigit (nI m) g1 = some (true, g2) ∧ RD g g2 s (i + 1) (t + 1) (nup N t (tx tn txt i - 48)) := by
  have hT1 : TC g1 tn txt := TC_fr hT (h.1 87 (by decide) (by decide)) (h.1 88 (by decide) (by decide))
  have h3 := h.2.2.1
  unfold f_X1_readDigit
  rw [h3, C_sign hT1 (by omega), bnd_some, z48, pk_sub hd.1, lt1, if_neg (nI_pos (by omega)), if_pos (nI_lt (by omega) (by omega)), lt1, nI_1]
  obtain ⟨g2, e2, r2⟩ := C_tellN (RD_at h (i + 1)) hs hg ht (tx tn txt i - 48)
  rw [e2, bnd_some]
  exact ⟨g2, rfl, r2⟩
theorem C_dg_no (hT : TC g tn txt) (h : RD g g1 s i t N) (hi : i < 100) {m : Nat} (hm : m ≤ 10) (hd : ¬ (48 ≤ tx tn txt i ∧ tx tn txt i < 48 + m)) : f_X1_readDigit (nI m) g1 = some (false, g1) := by
  have hT1 : TC g1 tn txt := TC_fr hT (h.1 87 (by decide) (by decide)) (h.1 88 (by decide) (by decide))
  have h3 := h.2.2.1
  have hb := tx_lt hT.2.2.2 i
  unfold f_X1_readDigit
  rw [h3, C_sign hT1 (by omega), bnd_some, lt1]
  by_cases e : 48 ≤ tx tn txt i
  · rw [z48, pk_sub e, if_neg (nI_pos (by omega)), if_neg (nI_nlt (by omega) (by omega))]
  · rw [if_pos]
    rw [Int32.lt_iff_toInt_lt, z48, pk_sub_toInt (by omega) (by omega)]
    have : (0 : Int32).toInt = 0 := rfl
    omega
theorem C_cm (hT : TC g tn txt) (h : RD g g1 s i t N) (hi : i < 100) (hd : tx tn txt i = 44) : ∃ g2, f_X1_readComma g1 = some (true, g2) ∧ RD g g2 s (i + 1) t N := by
  have hT1 : TC g1 tn txt := TC_fr hT (h.1 87 (by decide) (by decide)) (h.1 88 (by decide) (by decide))
  have h3 := h.2.2.1
  unfold f_X1_readComma
  rw [h3, C_sign hT1 (by omega), bnd_some, hd, if_pos (by rfl), lt1, nI_1]
  exact ⟨_, rfl, RD_at h (i + 1)⟩
theorem C_cm_no (hT : TC g tn txt) (h : RD g g1 s i t N) (hi : i < 100) (hd : ¬ tx tn txt i = 44) : f_X1_readComma g1 = some (false, g1) := by
  have hT1 : TC g1 tn txt := TC_fr hT (h.1 87 (by decide) (by decide)) (h.1 88 (by decide) (by decide))
  have h3 := h.2.2.1
  have hb := tx_lt hT.2.2.2 i
  unfold f_X1_readComma
  rw [h3, C_sign hT1 (by omega), bnd_some, z44, if_neg (fun z => hd ((nI_eq (by omega) (by omega)).mp z))]
theorem isDig_nI {c : Nat} (h : c < 2 ^ 31) : f_X1_isDigit (nI c) = isD c := by
  unfold f_X1_isDigit isD
  by_cases h1 : 48 ≤ c
  · rw [if_neg (by rw [z48]; exact nI_nlt h1 h), decide_eq_true h1]
    by_cases h2 : c ≤ 57
    · rw [if_neg (by rw [z57]; exact nI_nlt h2 (by omega)), decide_eq_true h2]; rfl
    · rw [if_pos (by rw [z57]; exact nI_lt (by omega) h), decide_eq_false h2]; rfl
  · rw [if_pos (by rw [z48]; exact nI_lt (by omega) (by omega)), decide_eq_false h1]; rfl
theorem nmE_le (T : Nat → Nat) (i : Nat) : ∀ f c, nmE T i f c ≤ c + f := by
  intro f
  induction f with
  | zero => intro c; exact Nat.le_refl _
  | succ f ih =>
    intro c
    rw [nmE]
    split
    · have := ih (c + 1); omega
    · omega
theorem lp_C_num (hT : TC g tn txt) (K : Int32 → Int32 → Mem → Option (Bool × Mem)) (hi : i < 100) : ∀ f c n g1, c + f = 3 → f < n → RD g g1 s (i + c) t N → ∃ g2, f_X1_readNumber_L19 K n (nI (nmV (tx tn txt) i c)) (nI c) g1 = K (nI (nmV (tx tn txt) i (nmE (tx tn txt) i f c))) (nI (nmE (tx tn txt) i f c)) g2 ∧ RD g g2 s (i + nmE (tx tn txt) i f c) t N := by
  intro f
  induction f with
  | zero =>
    intro c n g1 hc hn h
    obtain ⟨n, rfl⟩ : ∃ M, n = M + 1 := ⟨n - 1, by omega⟩
    rw [f_X1_readNumber_L19, if_pos (by rw [z3]; exact nI_le (by omega) (by omega))]
    exact ⟨g1, rfl, h⟩
  | succ f ih =>
    intro c n g1 hc hn h
    obtain ⟨n, rfl⟩ : ∃ M, n = M + 1 := ⟨n - 1, by omega⟩
    have hT1 : TC g1 tn txt := TC_fr hT (h.1 87 (by decide) (by decide)) (h.1 88 (by decide) (by decide))
    have h3 := h.2.2.1
    have hb := tx_lt hT.2.2.2 (i + c)
    rw [f_X1_readNumber_L19, if_neg (by rw [z3]; exact nI_ge (by omega) (by omega)), h3, C_sign hT1 (by omega), bnd_some, isDig_nI (by omega), nmE]
    cases hd : isD (tx tn txt (i + c)) with
    | false =>
      rw [if_neg (by decide), if_neg (by decide)]
      exact ⟨g1, rfl, h⟩
    | true =>
      have hd2 : 48 ≤ tx tn txt (i + c) := by
        unfold isD at hd
        simp only [Bool.and_eq_true, decide_eq_true_eq] at hd
        exact hd.1
      rw [if_pos rfl, if_pos rfl, bnd_some, lt1, lt1, lt1, z48, pk_sub hd2, z10, pk_mul, nI_add, nI_1, nI_1, Nat.mul_comm _ 10]
      exact ih (c + 1) n _ (by omega) (by omega) (RD_at h (i + (c + 1)))
theorem C_nm (hT : TC g tn txt) (h : RD g g1 s i t N) (hs : s < 20) (hg : g 89 5 = nI s) (ht : t < 3) (hi : i < 100) (hd : ¬ nmL (tx tn txt) i = 0) : ∃ g2, f_X1_readNumber g1 = some (true, g2) ∧ RD g g2 s (i + nmL (tx tn txt) i) (t + 1) (nup N t (nmV (tx tn txt) i (nmL (tx tn txt) i))) := by
  have hT1 : TC g1 tn txt := TC_fr hT (h.1 87 (by decide) (by decide)) (h.1 88 (by decide) (by decide))
  have h3 := h.2.2.1
  have hb := tx_lt hT.2.2.2 i
  have h48 : ¬ tx tn txt i = 48 := fun e => hd (if_pos e)
  have hL : nmL (tx tn txt) i = nmE (tx tn txt) i 3 0 := if_neg h48
  have hle := nmE_le (tx tn txt) i 3 0
  rw [hL] at hd ⊢
  unfold f_X1_readNumber
  rw [h3, C_sign hT1 (by omega), bnd_some, z48, if_neg (fun z => h48 ((nI_eq (by omega) (by omega)).mp z))]
  obtain ⟨g2, e2, r2⟩ := lp_C_num hT (fun x10 x11 g12 => (if x11 = 0 then some (false, g12) else (f_X1_tell x10 g12).bind fun g14 => (some (true, g14)))) hi 3 0 fuel0 g1 (by omega) (by have := fuel_gt; omega) h
  obtain ⟨g3, e3, r3⟩ := C_tellN r2 hs hg ht (nmV (tx tn txt) i (nmE (tx tn txt) i 3 0))
  refine ⟨g3, e2.trans ?_, r3⟩
  rw [if_neg (fun z => hd ((nI_z (by omega)).mp z)), e3, bnd_some]
theorem nmE_0 {T : Nat → Nat} {i f : Nat} (h : nmE T i (f + 1) 0 = 0) : isD (T (i + 0)) = false := by
  cases e : isD (T (i + 0)) with
  | false => rfl
  | true =>
    rw [nmE, e, if_pos rfl] at h
    have : ∀ f c, c ≤ nmE T i f c := by
      intro f
      induction f with
      | zero => intro c; exact Nat.le_refl _
      | succ f ih =>
        intro c
        rw [nmE]
        split
        · have := ih (c + 1); omega
        · omega
    have := this f 1
    have h' : nmE T i f 1 = 0 := h
    omega
theorem C_nm_no (hT : TC g tn txt) (h : RD g g1 s i t N) (hi : i < 100) (hd : nmL (tx tn txt) i = 0) : f_X1_readNumber g1 = some (false, g1) := by
  have hT1 : TC g1 tn txt := TC_fr hT (h.1 87 (by decide) (by decide)) (h.1 88 (by decide) (by decide))
  have h3 := h.2.2.1
  have hb := tx_lt hT.2.2.2 i
  unfold f_X1_readNumber
  rw [h3, C_sign hT1 (by omega), bnd_some]
  by_cases h48 : tx tn txt i = 48
  · rw [h48, if_pos (by rfl)]
  · have hL : nmL (tx tn txt) i = nmE (tx tn txt) i 3 0 := if_neg h48
    rw [hL] at hd
    have hD := nmE_0 hd
    rw [Nat.add_zero] at hD
    obtain ⟨n, hn⟩ : ∃ n, fuel0 = n + 1 := ⟨fuel0 - 1, by have := fuel_gt; omega⟩
    rw [z48, if_neg (fun z => h48 ((nI_eq (by omega) (by omega)).mp z)), hn, f_X1_readNumber_L19, if_neg (by decide), h3, C_sign hT1 (by omega), bnd_some, isDig_nI (by omega), hD, if_neg (by decide), if_pos rfl]
end RDS
